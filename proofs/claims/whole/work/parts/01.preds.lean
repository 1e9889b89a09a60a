/-- a state: the int fields, the int arrays, the long arrays -/
abbrev gs_St : Type := (Nat → Int32) × (Nat → Nat → Int32) × (Nat → Nat → Int64)
def gs_I (σ : gs_St) (k : Nat) (v : Int32) : gs_St := (fun j => if j = k then v else σ.1 j, σ.2)
def gs_A (σ : gs_St) (k : Nat) (f : Nat → Int32) : gs_St := (σ.1, fun j => if j = k then f else σ.2.1 j, σ.2.2)
def gs_L (σ : gs_St) (k : Nat) (f : Nat → Int64) : gs_St := (σ.1, σ.2.1, fun j => if j = k then f else σ.2.2 j)
/-- a new object -/
def gs_0 : gs_St := (fun k => if k = 4 then -1 else if k = 6 then -1 else 0, fun _ _ => 0, fun _ _ => 0)
def gm_0 : gs_St := (fun k => if k = 6 then -1 else 0, fun _ _ => 0, fun _ _ => 0)
def gs_sS (σ : gs_St) : gs_St := (fun k => if k = 10 then σ.1 12 else if k = 11 then σ.1 13 else if k = 12 then σ.1 10 else if k = 13 then σ.1 11 else σ.1 k, fun k => if k = 10 then σ.2.1 12 else if k = 11 then σ.2.1 13 else if k = 12 then σ.2.1 10 else if k = 13 then σ.2.1 11 else σ.2.1 k, σ.2.2)
def C_Gl_symbol (a0 : Int32) (σ : gs_St) (K : Int32 → gs_St → Prop) : Prop :=
  ((a0 < 0 → K (-1 : Int32) σ) ∧ (¬ (a0 < 0) → ((24 : Int32) ≤ a0 → K (-1 : Int32) σ) ∧ (¬ ((24 : Int32) ≤ a0) → ((σ.1 0) < (6 : Int32) → vp_in (σ.1 0) 6 ∧ ∀ σ1 : gs_St, σ1 = gs_A σ 0 (upd (σ.2.1 0) (σ.1 0).toNatClampNeg a0) → ∀ σ2 : gs_St, σ2 = gs_I σ1 0 ((σ1.1 0) + (1 : Int32)) → K (σ2.1 0) σ2) ∧ (¬ ((σ.1 0) < (6 : Int32)) → K (-1 : Int32) σ))))
def C_Gl_isNonterminal (a0 : Int32) (σ : gs_St) (K : Int32 → gs_St → Prop) : Prop :=
  ((a0 < 0 → K (0 : Int32) σ) ∧ (¬ (a0 < 0) → ((8 : Int32) ≤ a0 → K (0 : Int32) σ) ∧ (¬ ((8 : Int32) ≤ a0) → K (1 : Int32) σ)))
def C_Gr_add_1 (a0 : Int32) (a2 : Int32) (σ : gs_St) (K : Int32 → gs_St → Prop) : Prop :=
  (vp_in (σ.1 2) 24 ∧ ∀ σ1 : gs_St, σ1 = gs_A σ 1 (upd (σ.2.1 1) (σ.1 2).toNatClampNeg a0) → vp_in (σ1.1 2) 24 ∧ ∀ σ2 : gs_St, σ2 = gs_A σ1 2 (upd (σ1.2.1 2) (σ1.1 2).toNatClampNeg a2) → ¬ (0 : Int32) < 0 ∧ ¬ ((σ2.1 2) * (6 : Int32)) < 0 ∧ ¬ a2 < 0 ∧ (0 : Int32).toNatClampNeg + a2.toNatClampNeg ≤ 6 ∧ ((σ2.1 2) * (6 : Int32)).toNatClampNeg + a2.toNatClampNeg ≤ 144 ∧ ∀ σ3 : gs_St, σ3 = gs_A σ2 3 (va_cpy (σ2.2.1 0) (σ2.2.1 3) (0 : Int32).toNatClampNeg ((σ2.1 2) * (6 : Int32)).toNatClampNeg a2.toNatClampNeg) → ∀ σ4 : gs_St, σ4 = gs_I σ3 2 ((σ3.1 2) + (1 : Int32)) → K ((σ4.1 2) - (1 : Int32)) σ4)
def C_Gl_rule (a0 : Int32) (σ : gs_St) (K : Int32 → gs_St → Prop) : Prop :=
  (∀ v1 : Int32, v1 = σ.1 0 → ∀ σ2 : gs_St, σ2 = gs_I σ 0 (0 : Int32) → C_Gl_isNonterminal a0 σ2 (fun r4 σ3 => (r4 = 0 → K (-1 : Int32) σ3) ∧ (¬ (r4 = 0) → ((σ3.1 2) < (24 : Int32) → ∀ σ5 : gs_St, σ5 = gs_I σ3 1 (0 : Int32) → C_Gr_add_1 a0 v1 σ5 (fun r7 σ6 => K r7 σ6)) ∧ (¬ ((σ3.1 2) < (24 : Int32)) → K (-1 : Int32) σ3))))
def C_Gr_has (a0 : Int32) (σ : gs_St) (K : Int32 → gs_St → Prop) : Prop :=
  ((a0 < 0 → K (0 : Int32) σ) ∧ (¬ (a0 < 0) → ((σ.1 2) ≤ a0 → K (0 : Int32) σ) ∧ (¬ ((σ.1 2) ≤ a0) → K (1 : Int32) σ)))
def C_Gr_remove (a0 : Int32) (σ : gs_St) (K : gs_St → Prop) : Prop :=
  (∀ v1 : Int32, v1 = a0 + (1 : Int32) → ∀ v2 : Int32, v2 = (σ.1 2) - v1 → ¬ v1 < 0 ∧ ¬ a0 < 0 ∧ ¬ v2 < 0 ∧ v1.toNatClampNeg + v2.toNatClampNeg ≤ 24 ∧ a0.toNatClampNeg + v2.toNatClampNeg ≤ 24 ∧ ∀ σ3 : gs_St, σ3 = gs_A σ 1 (va_cpy (σ.2.1 1) (σ.2.1 1) v1.toNatClampNeg a0.toNatClampNeg v2.toNatClampNeg) → ¬ v1 < 0 ∧ ¬ a0 < 0 ∧ ¬ v2 < 0 ∧ v1.toNatClampNeg + v2.toNatClampNeg ≤ 24 ∧ a0.toNatClampNeg + v2.toNatClampNeg ≤ 24 ∧ ∀ σ4 : gs_St, σ4 = gs_A σ3 2 (va_cpy (σ3.2.1 2) (σ3.2.1 2) v1.toNatClampNeg a0.toNatClampNeg v2.toNatClampNeg) → ¬ (v1 * (6 : Int32)) < 0 ∧ ¬ (a0 * (6 : Int32)) < 0 ∧ ¬ (v2 * (6 : Int32)) < 0 ∧ (v1 * (6 : Int32)).toNatClampNeg + (v2 * (6 : Int32)).toNatClampNeg ≤ 144 ∧ (a0 * (6 : Int32)).toNatClampNeg + (v2 * (6 : Int32)).toNatClampNeg ≤ 144 ∧ ∀ σ5 : gs_St, σ5 = gs_A σ4 3 (va_cpy (σ4.2.1 3) (σ4.2.1 3) (v1 * (6 : Int32)).toNatClampNeg (a0 * (6 : Int32)).toNatClampNeg (v2 * (6 : Int32)).toNatClampNeg) → ∀ σ6 : gs_St, σ6 = gs_I σ5 2 ((σ5.1 2) - (1 : Int32)) → K σ6)
def C_Gl_drop (a0 : Int32) (σ : gs_St) (K : Int32 → gs_St → Prop) : Prop :=
  (C_Gr_has a0 σ (fun r2 σ1 => (¬ r2 = 0 → ∀ σ3 : gs_St, σ3 = gs_I σ1 1 (0 : Int32) → C_Gr_remove a0 σ3 (fun σ4 => K (1 : Int32) σ4)) ∧ (¬ (¬ r2 = 0) → K (0 : Int32) σ1)))
def C_Gl_count (a0 : Int32) (σ : gs_St) (K : Int32 → gs_St → Prop) : Prop :=
  ((a0 = 0 → K (σ.1 2) σ) ∧ (a0 = 1 → K (σ.1 0) σ) ∧ (a0 = 2 → K (σ.1 14) σ) ∧ (a0.toInt < 0 ∨ 2 < a0.toInt → K (-1 : Int32) σ))
def C_Gr_sizeOf (a0 : Int32) (σ : gs_St) (K : Int32 → gs_St → Prop) : Prop :=
  (vp_in a0 24 ∧ (K (σ.2.1 2 a0.toNatClampNeg) σ))
def C_Gr_symbolAt (a0 : Int32) (a1 : Int32) (σ : gs_St) (K : Int32 → gs_St → Prop) : Prop :=
  (vp_in ((a0 * (6 : Int32)) + a1) 144 ∧ (K (σ.2.1 3 ((a0 * (6 : Int32)) + a1).toNatClampNeg) σ))
def C_Gr_leftOf (a0 : Int32) (σ : gs_St) (K : Int32 → gs_St → Prop) : Prop :=
  (vp_in a0 24 ∧ (K (σ.2.1 1 a0.toNatClampNeg) σ))
def C_Gl_about (a0 : Int32) (a1 : Int32) (σ : gs_St) (K : Int32 → gs_St → Prop) : Prop :=
  (C_Gr_has a0 σ (fun r2 σ1 => (r2 = 0 → K (-1 : Int32) σ1) ∧ (¬ (r2 = 0) → (a1 < (-1 : Int32) → K (-1 : Int32) σ1) ∧ (¬ (a1 < (-1 : Int32)) → C_Gr_sizeOf a0 σ1 (fun r4 σ3 => (a1 < r4 → (¬ a1 = (-1 : Int32) → C_Gr_symbolAt a0 a1 σ3 (fun r6 σ5 => K r6 σ5)) ∧ (¬ (¬ a1 = (-1 : Int32)) → C_Gr_leftOf a0 σ3 (fun r8 σ7 => K r8 σ7))) ∧ (¬ (a1 < r4) → K (-1 : Int32) σ3))))))
def C_Ar_fill_7 (a1 : Int32) (σ : gs_St) (K : gs_St → Prop) : Prop :=
  ∀ X5 : Int32 → Int32 → Int32 → gs_St → Prop,
  (∀ (v_1 : Int32) (v_2 : Int32) (v_3 : Int32) (σ : gs_St), ((v_3 ≤ v_2 → K σ) ∧ (¬ (v_3 ≤ v_2) → vp_in v_2 8 ∧ ∀ σ1 : gs_St, σ1 = gs_A σ 4 (upd (σ.2.1 4) v_2.toNatClampNeg v_1) → ∀ v2 : Int32, v2 = v_2 + 1 → X5 v_1 v2 v_3 σ1)) → X5 v_1 v_2 v_3 σ) →
  (X5 a1 (0 : Int32) (8 : Int32) σ)
def C_Ar_fill_8 (a1 : Int32) (σ : gs_St) (K : gs_St → Prop) : Prop :=
  ∀ X5 : Int32 → Int32 → Int32 → gs_St → Prop,
  (∀ (v_1 : Int32) (v_2 : Int32) (v_3 : Int32) (σ : gs_St), ((v_3 ≤ v_2 → K σ) ∧ (¬ (v_3 ≤ v_2) → vp_in v_2 8 ∧ ∀ σ1 : gs_St, σ1 = gs_A σ 5 (upd (σ.2.1 5) v_2.toNatClampNeg v_1) → ∀ v2 : Int32, v2 = v_2 + 1 → X5 v_1 v2 v_3 σ1)) → X5 v_1 v_2 v_3 σ) →
  (X5 a1 (0 : Int32) (8 : Int32) σ)
def C_Le_leastBut (a0 : Int32) (a1 : Int32) (σ : gs_St) (K : Int32 → gs_St → Prop) : Prop :=
  ∀ X5 : Int32 → Int32 → Int32 → Int32 → gs_St → Prop,
  (∀ (v_1 : Int32) (v_2 : Int32) (v_3 : Int32) (v_4 : Int32) (σ : gs_St), (C_Gr_sizeOf v_1 σ (fun r2 σ1 => (r2 ≤ v_4 → K v_3 σ1) ∧ (¬ (r2 ≤ v_4) → (¬ v_4 = v_2 → C_Gr_symbolAt v_1 v_4 σ1 (fun r4 σ3 => C_Gl_isNonterminal r4 σ3 (fun r6 σ5 => (r6 = 0 → (¬ (1 : Int32) = (-1 : Int32) → ∀ v7 : Int32, v7 = v_3 + (1 : Int32) → ∀ v8 : Int32, v8 = v_4 + 1 → X5 v_1 v_2 v7 v8 σ5) ∧ (¬ (¬ (1 : Int32) = (-1 : Int32)) → K (-1 : Int32) σ5)) ∧ (¬ (r6 = 0) → vp_in r4 8 ∧ (∀ v9 : Int32, v9 = σ5.2.1 4 r4.toNatClampNeg → (¬ v9 = (-1 : Int32) → ∀ v10 : Int32, v10 = v_3 + v9 → ∀ v11 : Int32, v11 = v_4 + 1 → X5 v_1 v_2 v10 v11 σ5) ∧ (¬ (¬ v9 = (-1 : Int32)) → K (-1 : Int32) σ5)))))) ∧ (¬ (¬ v_4 = v_2) → ∀ v12 : Int32, v12 = v_4 + 1 → X5 v_1 v_2 v_3 v12 σ1)))) → X5 v_1 v_2 v_3 v_4 σ) →
  (X5 a0 a1 (0 : Int32) (0 : Int32) σ)
def C_Le_lower_7 (a1 : Int32) (a2 : Int32) (σ : gs_St) (K : gs_St → Prop) : Prop :=
  (vp_in a1 8 ∧ (∀ v1 : Int32, v1 = σ.2.1 4 a1.toNatClampNeg → (a2 = (-1 : Int32) → K σ) ∧ (¬ (a2 = (-1 : Int32)) → (v1 = (-1 : Int32) → vp_in a1 8 ∧ ∀ σ2 : gs_St, σ2 = gs_A σ 4 (upd (σ.2.1 4) a1.toNatClampNeg a2) → K σ2) ∧ (¬ (v1 = (-1 : Int32)) → (v1 ≤ a2 → K σ) ∧ (¬ (v1 ≤ a2) → vp_in a1 8 ∧ ∀ σ3 : gs_St, σ3 = gs_A σ 4 (upd (σ.2.1 4) a1.toNatClampNeg a2) → K σ3)))))
def C_Le_lower_8 (a1 : Int32) (a2 : Int32) (σ : gs_St) (K : gs_St → Prop) : Prop :=
  (vp_in a1 8 ∧ (∀ v1 : Int32, v1 = σ.2.1 5 a1.toNatClampNeg → (a2 = (-1 : Int32) → K σ) ∧ (¬ (a2 = (-1 : Int32)) → (v1 = (-1 : Int32) → vp_in a1 8 ∧ ∀ σ2 : gs_St, σ2 = gs_A σ 5 (upd (σ.2.1 5) a1.toNatClampNeg a2) → K σ2) ∧ (¬ (v1 = (-1 : Int32)) → (v1 ≤ a2 → K σ) ∧ (¬ (v1 ≤ a2) → vp_in a1 8 ∧ ∀ σ3 : gs_St, σ3 = gs_A σ 5 (upd (σ.2.1 5) a1.toNatClampNeg a2) → K σ3)))))
def C_Le_lowerAround (a0 : Int32) (σ : gs_St) (K : gs_St → Prop) : Prop :=
  ∀ X22 : Int32 → Int32 → Int32 → gs_St → Prop,
  (∀ (v_1 : Int32) (v_2 : Int32) (v_3 : Int32) (σ : gs_St), (C_Gr_sizeOf v_1 σ (fun r5 σ4 => (r5 ≤ v_3 → K σ4) ∧ (¬ (r5 ≤ v_3) → C_Gr_symbolAt v_1 v_3 σ4 (fun r7 σ6 => C_Le_leastBut v_1 v_3 σ6 (fun r9 σ8 => C_Gl_isNonterminal r7 σ8 (fun r11 σ10 => (r11 = 0 → ∀ v12 : Int32, v12 = v_3 + 1 → X22 v_1 v_2 v12 σ10) ∧ (¬ (r11 = 0) → (r9 = (-1 : Int32) → ∀ v13 : Int32, v13 = v_3 + 1 → X22 v_1 v_2 v13 σ10) ∧ (¬ (r9 = (-1 : Int32)) → C_Le_lower_8 r7 (v_2 + r9) σ10 (fun σ14 => ∀ v15 : Int32, v15 = v_3 + 1 → X22 v_1 v_2 v15 σ14))))))))) → X22 v_1 v_2 v_3 σ) →
  (C_Gr_leftOf a0 σ (fun r2 σ1 => vp_in r2 8 ∧ (∀ v3 : Int32, v3 = σ1.2.1 5 r2.toNatClampNeg → (¬ v3 = (-1 : Int32) → X22 a0 v3 (0 : Int32) σ1) ∧ (¬ (¬ v3 = (-1 : Int32)) → K σ1))))
def C_Le_find (σ : gs_St) (K : gs_St → Prop) : Prop :=
  ∀ X10 : Int32 → gs_St → Prop,
  ∀ X18 : Int32 → Int32 → gs_St → Prop,
  ∀ X79 : Int32 → gs_St → Prop,
  ∀ X87 : Int32 → Int32 → gs_St → Prop,
  (∀ (v_1 : Int32) (σ : gs_St), (((8 : Int32) ≤ v_1 → C_Ar_fill_8 (-1 : Int32) σ (fun σ2 => vp_in (0 : Int32) 8 ∧ ∀ σ3 : gs_St, σ3 = gs_A σ2 5 (upd (σ2.2.1 5) (0 : Int32).toNatClampNeg (0 : Int32)) → X79 (0 : Int32) σ3)) ∧ (¬ ((8 : Int32) ≤ v_1) → X18 v_1 (0 : Int32) σ)) → X10 v_1 σ) →
  (∀ (v_1 : Int32) (v_2 : Int32) (σ : gs_St), (((σ.1 2) ≤ v_2 → ∀ v4 : Int32, v4 = v_1 + 1 → X10 v4 σ) ∧ (¬ ((σ.1 2) ≤ v_2) → C_Gr_leftOf v_2 σ (fun r6 σ5 => C_Le_leastBut v_2 (-1 : Int32) σ5 (fun r8 σ7 => C_Le_lower_7 r6 r8 σ7 (fun σ9 => ∀ v10 : Int32, v10 = v_2 + 1 → X18 v_1 v10 σ9))))) → X18 v_1 v_2 σ) →
  (∀ (v_1 : Int32) (σ : gs_St), (((8 : Int32) ≤ v_1 → K σ) ∧ (¬ ((8 : Int32) ≤ v_1) → X87 v_1 (0 : Int32) σ)) → X79 v_1 σ) →
  (∀ (v_1 : Int32) (v_2 : Int32) (σ : gs_St), (((σ.1 2) ≤ v_2 → ∀ v11 : Int32, v11 = v_1 + 1 → X79 v11 σ) ∧ (¬ ((σ.1 2) ≤ v_2) → C_Le_lowerAround v_2 σ (fun σ12 => ∀ v13 : Int32, v13 = v_2 + 1 → X87 v_1 v13 σ12))) → X87 v_1 v_2 σ) →
  (C_Ar_fill_7 (-1 : Int32) σ (fun σ1 => X10 (0 : Int32) σ1))
def C_Ar_fill_10 (a1 : Int32) (σ : gs_St) (K : gs_St → Prop) : Prop :=
  ∀ X5 : Int32 → Int32 → Int32 → gs_St → Prop,
  (∀ (v_1 : Int32) (v_2 : Int32) (v_3 : Int32) (σ : gs_St), ((v_3 ≤ v_2 → K σ) ∧ (¬ (v_3 ≤ v_2) → vp_in v_2 8 ∧ ∀ σ1 : gs_St, σ1 = gs_A σ 6 (upd (σ.2.1 6) v_2.toNatClampNeg v_1) → ∀ v2 : Int32, v2 = v_2 + 1 → X5 v_1 v2 v_3 σ1)) → X5 v_1 v_2 v_3 σ) →
  (X5 a1 (0 : Int32) (8 : Int32) σ)
def C_Ld_putInOrder (σ : gs_St) (K : gs_St → Prop) : Prop :=
  ∀ X9 : Int32 → Int32 → gs_St → Prop,
  ∀ X17 : Int32 → Int32 → Int32 → gs_St → Prop,
  ∀ X36 : Int32 → Int32 → Int32 → Int32 → gs_St → Prop,
  (∀ (v_1 : Int32) (v_2 : Int32) (σ : gs_St), (((8 : Int32) ≤ v_2 → K σ) ∧ (¬ ((8 : Int32) ≤ v_2) → X17 v_1 v_2 (0 : Int32) σ)) → X9 v_1 v_2 σ) →
  (∀ (v_1 : Int32) (v_2 : Int32) (v_3 : Int32) (σ : gs_St), (((8 : Int32) ≤ v_3 → ∀ v2 : Int32, v2 = v_2 + 1 → X9 v_1 v2 σ) ∧ (¬ ((8 : Int32) ≤ v_3) → (¬ (v_1 &&& ((1 : Int32) <<< (v_3 &&& 31))) = 0 → X36 v_1 v_2 v_3 (0 : Int32) σ) ∧ (¬ (¬ (v_1 &&& ((1 : Int32) <<< (v_3 &&& 31))) = 0) → X36 v_1 v_2 v_3 (1 : Int32) σ))) → X17 v_1 v_2 v_3 σ) →
  (∀ (v_1 : Int32) (v_2 : Int32) (v_3 : Int32) (s_0 : Int32) (σ : gs_St), ((s_0 = 0 → ∀ v3 : Int32, v3 = v_3 + 1 → X17 v_1 v_2 v3 σ) ∧ (¬ (s_0 = 0) → vp_in v_3 8 ∧ ((¬ ((σ.2.1 6 v_3.toNatClampNeg) &&& (v_1 ^^^ (-1 : Int32))) = 0 → ∀ v4 : Int32, v4 = v_3 + 1 → X17 v_1 v_2 v4 σ) ∧ (¬ (¬ ((σ.2.1 6 v_3.toNatClampNeg) &&& (v_1 ^^^ (-1 : Int32))) = 0) → ∀ v5 : Int32, v5 = v_1 ||| ((1 : Int32) <<< (v_3 &&& 31)) → vp_in (σ.1 3) 8 ∧ ∀ σ6 : gs_St, σ6 = gs_A σ 7 (upd (σ.2.1 7) (σ.1 3).toNatClampNeg v_3) → ∀ σ7 : gs_St, σ7 = gs_I σ6 3 ((σ6.1 3) + (1 : Int32)) → ∀ v8 : Int32, v8 = v_3 + 1 → X17 v5 v_2 v8 σ7)))) → X36 v_1 v_2 v_3 s_0 σ) →
  (∀ σ1 : gs_St, σ1 = gs_I σ 3 (0 : Int32) → X9 (0 : Int32) (0 : Int32) σ1)
def C_Le_isEmpty (a0 : Int32) (σ : gs_St) (K : Int32 → gs_St → Prop) : Prop :=
  (C_Gl_isNonterminal a0 σ (fun r2 σ1 => (r2 = 0 → K (0 : Int32) σ1) ∧ (¬ (r2 = 0) → vp_in a0 8 ∧ ((¬ (σ1.2.1 4 a0.toNatClampNeg) = 0 → K (0 : Int32) σ1) ∧ (¬ (¬ (σ1.2.1 4 a0.toNatClampNeg) = 0) → K (1 : Int32) σ1)))))
def C_Ld_isEmptyBut (a0 : Int32) (a1 : Int32) (σ : gs_St) (K : Int32 → gs_St → Prop) : Prop :=
  ∀ X2 : Int32 → Int32 → Int32 → gs_St → Prop,
  (∀ (v_1 : Int32) (v_2 : Int32) (v_3 : Int32) (σ : gs_St), (C_Gr_sizeOf v_1 σ (fun r2 σ1 => (r2 ≤ v_3 → K (1 : Int32) σ1) ∧ (¬ (r2 ≤ v_3) → (v_3 = v_2 → ∀ v3 : Int32, v3 = v_3 + 1 → X2 v_1 v_2 v3 σ1) ∧ (¬ (v_3 = v_2) → C_Gr_symbolAt v_1 v_3 σ1 (fun r5 σ4 => C_Le_isEmpty r5 σ4 (fun r7 σ6 => (¬ r7 = 0 → ∀ v8 : Int32, v8 = v_3 + 1 → X2 v_1 v_2 v8 σ6) ∧ (¬ (¬ r7 = 0) → K (0 : Int32) σ6))))))) → X2 v_1 v_2 v_3 σ) →
  (X2 a0 a1 (0 : Int32) σ)
def C_Ld_find (σ : gs_St) (K : gs_St → Prop) : Prop :=
  ∀ X10 : Int32 → gs_St → Prop,
  ∀ X23 : Int32 → Int32 → gs_St → Prop,
  (∀ (v_1 : Int32) (σ : gs_St), (((σ.1 2) ≤ v_1 → C_Ld_putInOrder σ (fun σ2 => K σ2)) ∧ (¬ ((σ.1 2) ≤ v_1) → X23 v_1 (0 : Int32) σ)) → X10 v_1 σ) →
  (∀ (v_1 : Int32) (v_2 : Int32) (σ : gs_St), (C_Gr_sizeOf v_1 σ (fun r4 σ3 => (r4 ≤ v_2 → ∀ v5 : Int32, v5 = v_1 + 1 → X10 v5 σ3) ∧ (¬ (r4 ≤ v_2) → C_Gr_symbolAt v_1 v_2 σ3 (fun r7 σ6 => C_Gl_isNonterminal r7 σ6 (fun r9 σ8 => (r9 = 0 → ∀ v10 : Int32, v10 = v_2 + 1 → X23 v_1 v10 σ8) ∧ (¬ (r9 = 0) → C_Ld_isEmptyBut v_1 v_2 σ8 (fun r12 σ11 => (r12 = 0 → ∀ v13 : Int32, v13 = v_2 + 1 → X23 v_1 v13 σ11) ∧ (¬ (r12 = 0) → C_Gr_leftOf v_1 σ11 (fun r15 σ14 => vp_in r15 8 ∧ (vp_in r15 8 ∧ ∀ σ16 : gs_St, σ16 = gs_A σ14 6 (upd (σ14.2.1 6) r15.toNatClampNeg ((σ14.2.1 6 r15.toNatClampNeg) ||| ((1 : Int32) <<< (r7 &&& 31)))) → ∀ v17 : Int32, v17 = v_2 + 1 → X23 v_1 v17 σ16)))))))))) → X23 v_1 v_2 σ) →
  (C_Ar_fill_10 (0 : Int32) σ (fun σ1 => X10 (0 : Int32) σ1))
def C_Co_forget (σ : gs_St) (K : gs_St → Prop) : Prop :=
  (∀ σ1 : gs_St, σ1 = gs_I σ 5 (0 : Int32) → K σ1)
def C_Co_forgetw (σ : gs_St) (K : gs_St → Prop) : Prop :=
  (∀ σ1 : gs_St, σ1 = gs_I σ 7 (0 : Int32) → K σ1)
def C_Gl_study (σ : gs_St) (K : gs_St → Prop) : Prop :=
  (((σ.1 1) = 0 → ∀ σ1 : gs_St, σ1 = gs_I σ 1 (1 : Int32) → C_Le_find σ1 (fun σ2 => C_Ld_find σ2 (fun σ3 => C_Co_forget σ3 (fun σ4 => C_Co_forgetw σ4 (fun σ5 => K σ5))))) ∧ (¬ ((σ.1 1) = 0) → K σ))
def C_Le_leastOf (a0 : Int32) (σ : gs_St) (K : Int32 → gs_St → Prop) : Prop :=
  (vp_in a0 8 ∧ (K (σ.2.1 4 a0.toNatClampNeg) σ))
def C_Gl_shortest (a0 : Int32) (σ : gs_St) (K : Int32 → gs_St → Prop) : Prop :=
  (C_Gl_isNonterminal a0 σ (fun r2 σ1 => (¬ r2 = 0 → C_Gl_study σ1 (fun σ3 => C_Le_leastOf a0 σ3 (fun r5 σ4 => K r5 σ4))) ∧ (¬ (¬ r2 = 0) → K (-1 : Int32) σ1)))
def C_Le_leastWith (a0 : Int32) (σ : gs_St) (K : Int32 → gs_St → Prop) : Prop :=
  (C_Le_leastBut a0 (-1 : Int32) σ (fun r2 σ1 => C_Gr_leftOf a0 σ1 (fun r4 σ3 => vp_in r4 8 ∧ (∀ v5 : Int32, v5 = σ3.2.1 5 r4.toNatClampNeg → (r2 = (-1 : Int32) → K (-1 : Int32) σ3) ∧ (¬ (r2 = (-1 : Int32)) → (¬ v5 = (-1 : Int32) → K (r2 + v5) σ3) ∧ (¬ (¬ v5 = (-1 : Int32)) → K (-1 : Int32) σ3))))))
def C_Gl_shortestWith (a0 : Int32) (σ : gs_St) (K : Int32 → gs_St → Prop) : Prop :=
  (C_Gr_has a0 σ (fun r2 σ1 => (¬ r2 = 0 → C_Gl_study σ1 (fun σ3 => C_Le_leastWith a0 σ3 (fun r5 σ4 => K r5 σ4))) ∧ (¬ (¬ r2 = 0) → K (-1 : Int32) σ1)))
def C_Ld_isCircle (σ : gs_St) (K : Int32 → gs_St → Prop) : Prop :=
  (((8 : Int32) ≤ (σ.1 3) → K (0 : Int32) σ) ∧ (¬ ((8 : Int32) ≤ (σ.1 3)) → K (1 : Int32) σ))
def C_Gl_circle (σ : gs_St) (K : Int32 → gs_St → Prop) : Prop :=
  (C_Gl_study σ (fun σ1 => C_Ld_isCircle σ1 (fun r3 σ2 => K r3 σ2)))
def C_Gl_isCounted (a0 : Int32) (σ : gs_St) (K : Int32 → gs_St → Prop) : Prop :=
  (C_Gl_study σ (fun σ1 => (a0 < 0 → K (0 : Int32) σ1) ∧ (¬ (a0 < 0) → ((16 : Int32) < a0 → K (0 : Int32) σ1) ∧ (¬ ((16 : Int32) < a0) → C_Ld_isCircle σ1 (fun r3 σ2 => (¬ r3 = 0 → K (0 : Int32) σ2) ∧ (¬ (¬ r3 = 0) → K (1 : Int32) σ2))))))
def C_Ld_inOrder (a0 : Int32) (σ : gs_St) (K : Int32 → gs_St → Prop) : Prop :=
  (vp_in a0 8 ∧ (K (σ.2.1 7 a0.toNatClampNeg) σ))
def C_Co_endingsAt (a0 : Int32) (a1 : Int32) (σ : gs_St) (K : Int32 → gs_St → Prop) : Prop :=
  (K (((a0 * (7 : Int32)) + a1) * (17 : Int32)) σ)
def C_Co_times (a0 : Int64) (a1 : Int64) (σ : gs_St) (K : Int64 → gs_St → Prop) : Prop :=
  ((¬ a1 = (0 : Int64) → ¬ a1 = 0 ∧ ((a0 ≤ ((1000000000000000000 : Int64) / a1) → K (a0 * a1) σ) ∧ (¬ (a0 ≤ ((1000000000000000000 : Int64) / a1)) → K (1000000000000000001 : Int64) σ))) ∧ (¬ (¬ a1 = (0 : Int64)) → K (0 : Int64) σ))
def C_Co_plus (a0 : Int64) (a1 : Int64) (σ : gs_St) (K : Int64 → gs_St → Prop) : Prop :=
  (K (if (1000000000000000001 : Int64) < (a0 + a1) then (1000000000000000001 : Int64) else (a0 + a1)) σ)
def C_Co_pairs (a0 : Int32) (a1 : Int32) (a2 : Int32) (σ : gs_St) (K : Int64 → gs_St → Prop) : Prop :=
  ∀ X6 : Int32 → Int32 → Int32 → Int64 → Int32 → gs_St → Prop,
  (∀ (v_1 : Int32) (v_2 : Int32) (v_3 : Int32) (v_4 : Int64) (v_6 : Int32) (σ : gs_St), ((v_3 < v_6 → K v_4 σ) ∧ (¬ (v_3 < v_6) → vp_in (v_1 + v_6) 136 ∧ (∀ v1 : Int64, v1 = σ.2.2 0 (v_1 + v_6).toNatClampNeg → (v1 = (0 : Int64) → ∀ v2 : Int32, v2 = v_6 + 1 → X6 v_1 v_2 v_3 v_4 v2 σ) ∧ (¬ (v1 = (0 : Int64)) → vp_in (v_2 - v_6) 2856 ∧ (C_Co_times v1 (σ.2.2 1 (v_2 - v_6).toNatClampNeg) σ (fun r4 σ3 => C_Co_plus v_4 r4 σ3 (fun r6 σ5 => ∀ v7 : Int32, v7 = v_6 + 1 → X6 v_1 v_2 v_3 r6 v7 σ5))))))) → X6 v_1 v_2 v_3 v_4 v_6 σ) →
  (X6 a0 a1 a2 (0 : Int64) (0 : Int32) σ)
def C_Co_fillEndings (a0 : Int32) (a1 : Int32) (σ : gs_St) (K : gs_St → Prop) : Prop :=
  ∀ X35 : Int32 → Int32 → Int32 → gs_St → Prop,
  (∀ (v_1 : Int32) (v_2 : Int32) (v_4 : Int32) (σ : gs_St), ((v_4 < 0 → K σ) ∧ (¬ (v_4 < 0) → C_Gr_symbolAt v_1 v_4 σ (fun r10 σ9 => C_Co_endingsAt v_1 (v_4 + (1 : Int32)) σ9 (fun r12 σ11 => ∀ v13 : Int32, v13 = r12 + v_2 → C_Gl_isNonterminal r10 σ11 (fun r15 σ14 => (r15 = 0 → (v_2 ≤ 0 → C_Co_endingsAt v_1 v_4 σ14 (fun r17 σ16 => vp_in (r17 + v_2) 2856 ∧ ∀ σ18 : gs_St, σ18 = gs_L σ16 1 (vp_updL (σ16.2.2 1) (r17 + v_2).toNatClampNeg (0 : Int64)) → ∀ v19 : Int32, v19 = v_4 + (-1) → X35 v_1 v_2 v19 σ18)) ∧ (¬ (v_2 ≤ 0) → vp_in (v13 - (1 : Int32)) 2856 ∧ (∀ v20 : Int64, v20 = σ14.2.2 1 (v13 - (1 : Int32)).toNatClampNeg → C_Co_endingsAt v_1 v_4 σ14 (fun r22 σ21 => vp_in (r22 + v_2) 2856 ∧ ∀ σ23 : gs_St, σ23 = gs_L σ21 1 (vp_updL (σ21.2.2 1) (r22 + v_2).toNatClampNeg v20) → ∀ v24 : Int32, v24 = v_4 + (-1) → X35 v_1 v_2 v24 σ23)))) ∧ (¬ (r15 = 0) → C_Co_pairs (r10 * (17 : Int32)) v13 v_2 σ14 (fun r26 σ25 => C_Co_endingsAt v_1 v_4 σ25 (fun r28 σ27 => vp_in (r28 + v_2) 2856 ∧ ∀ σ29 : gs_St, σ29 = gs_L σ27 1 (vp_updL (σ27.2.2 1) (r28 + v_2).toNatClampNeg r26) → ∀ v30 : Int32, v30 = v_4 + (-1) → X35 v_1 v_2 v30 σ29)))))))) → X35 v_1 v_2 v_4 σ) →
  (C_Gr_sizeOf a0 σ (fun r2 σ1 => C_Co_endingsAt a0 r2 σ1 (fun r4 σ3 => (¬ a1 = 0 → vp_in (r4 + a1) 2856 ∧ ∀ σ5 : gs_St, σ5 = gs_L σ3 1 (vp_updL (σ3.2.2 1) (r4 + a1).toNatClampNeg (0 : Int64)) → ∀ v6 : Int32, v6 = r2 - (1 : Int32) → X35 a0 a1 v6 σ5) ∧ (¬ (¬ a1 = 0) → vp_in (r4 + a1) 2856 ∧ ∀ σ7 : gs_St, σ7 = gs_L σ3 1 (vp_updL (σ3.2.2 1) (r4 + a1).toNatClampNeg (1 : Int64)) → ∀ v8 : Int32, v8 = r2 - (1 : Int32) → X35 a0 a1 v8 σ7))))
def C_Co_endingsOf (a0 : Int32) (a1 : Int32) (a2 : Int32) (σ : gs_St) (K : Int64 → gs_St → Prop) : Prop :=
  (C_Co_endingsAt a0 a1 σ (fun r2 σ1 => vp_in (r2 + a2) 2856 ∧ (K (σ1.2.2 1 (r2 + a2).toNatClampNeg) σ1)))
def C_Co_addTrees (a0 : Int32) (a1 : Int32) (a2 : Int64) (σ : gs_St) (K : gs_St → Prop) : Prop :=
  (∀ v1 : Int32, v1 = (a0 * (17 : Int32)) + a1 → vp_in v1 136 ∧ (C_Co_plus (σ.2.2 0 v1.toNatClampNeg) a2 σ (fun r3 σ2 => vp_in v1 136 ∧ ∀ σ4 : gs_St, σ4 = gs_L σ2 0 (vp_updL (σ2.2.2 0) v1.toNatClampNeg r3) → K σ4)))
def C_Co_countLength (a0 : Int32) (σ : gs_St) (K : gs_St → Prop) : Prop :=
  ∀ X2 : Int32 → Int32 → gs_St → Prop,
  ∀ X28 : Int32 → Int32 → gs_St → Prop,
  ∀ X46 : Int32 → Int32 → Int32 → Int32 → gs_St → Prop,
  ∀ X115 : Int32 → Int32 → gs_St → Prop,
  (∀ (v_1 : Int32) (v_2 : Int32) (σ : gs_St), (((8 : Int32) ≤ v_2 → X28 v_1 (0 : Int32) σ) ∧ (¬ ((8 : Int32) ≤ v_2) → vp_in ((v_2 * (17 : Int32)) + v_1) 136 ∧ ∀ σ1 : gs_St, σ1 = gs_L σ 0 (vp_updL (σ.2.2 0) ((v_2 * (17 : Int32)) + v_1).toNatClampNeg (0 : Int64)) → ∀ v2 : Int32, v2 = v_2 + 1 → X2 v_1 v2 σ1)) → X2 v_1 v_2 σ) →
  (∀ (v_1 : Int32) (v_2 : Int32) (σ : gs_St), (((8 : Int32) ≤ v_2 → X115 v_1 (0 : Int32) σ) ∧ (¬ ((8 : Int32) ≤ v_2) → C_Ld_inOrder v_2 σ (fun r4 σ3 => X46 v_1 v_2 r4 (0 : Int32) σ3))) → X28 v_1 v_2 σ) →
  (∀ (v_1 : Int32) (v_2 : Int32) (v_3 : Int32) (v_4 : Int32) (σ : gs_St), (((σ.1 2) ≤ v_4 → ∀ v5 : Int32, v5 = v_2 + 1 → X28 v_1 v5 σ) ∧ (¬ ((σ.1 2) ≤ v_4) → (v_4 = (σ.1 4) → ∀ v6 : Int32, v6 = v_4 + 1 → X46 v_1 v_2 v_3 v6 σ) ∧ (¬ (v_4 = (σ.1 4)) → C_Gr_leftOf v_4 σ (fun r8 σ7 => (¬ r8 = v_3 → ∀ v9 : Int32, v9 = v_4 + 1 → X46 v_1 v_2 v_3 v9 σ7) ∧ (¬ (¬ r8 = v_3) → C_Co_fillEndings v_4 v_1 σ7 (fun σ10 => C_Co_endingsOf v_4 (0 : Int32) v_1 σ10 (fun r12 σ11 => C_Co_addTrees v_3 v_1 r12 σ11 (fun σ13 => ∀ v14 : Int32, v14 = v_4 + 1 → X46 v_1 v_2 v_3 v14 σ13)))))))) → X46 v_1 v_2 v_3 v_4 σ) →
  (∀ (v_1 : Int32) (v_2 : Int32) (σ : gs_St), (((σ.1 2) ≤ v_2 → K σ) ∧ (¬ ((σ.1 2) ≤ v_2) → (v_2 = (σ.1 4) → ∀ v15 : Int32, v15 = v_2 + 1 → X115 v_1 v15 σ) ∧ (¬ (v_2 = (σ.1 4)) → C_Co_fillEndings v_2 v_1 σ (fun σ16 => ∀ v17 : Int32, v17 = v_2 + 1 → X115 v_1 v17 σ16)))) → X115 v_1 v_2 σ) →
  (X2 a0 (0 : Int32) σ)
def C_Co_treesOf (a0 : Int32) (a1 : Int32) (σ : gs_St) (K : Int64 → gs_St → Prop) : Prop :=
  ∀ X5 : Int32 → Int32 → Int32 → gs_St → Prop,
  (∀ (v_1 : Int32) (v_2 : Int32) (v_3 : Int32) (σ : gs_St), ((v_2 < v_3 → vp_in ((v_1 * (17 : Int32)) + v_2) 136 ∧ (K (σ.2.2 0 ((v_1 * (17 : Int32)) + v_2).toNatClampNeg) σ)) ∧ (¬ (v_2 < v_3) → C_Co_countLength v_3 σ (fun σ2 => ∀ σ3 : gs_St, σ3 = gs_I σ2 5 (v_3 + (1 : Int32)) → ∀ v4 : Int32, v4 = v_3 + 1 → X5 v_1 v_2 v4 σ3))) → X5 v_1 v_2 v_3 σ) →
  (∀ v1 : Int32, v1 = σ.1 5 → X5 a0 a1 v1 σ)
def C_Gl_trees (a0 : Int32) (a1 : Int32) (σ : gs_St) (K : Int64 → gs_St → Prop) : Prop :=
  (C_Gl_isNonterminal a0 σ (fun r2 σ1 => (r2 = 0 → K (-1 : Int64) σ1) ∧ (¬ (r2 = 0) → C_Gl_isCounted a1 σ1 (fun r4 σ3 => (¬ r4 = 0 → C_Co_treesOf a0 a1 σ3 (fun r6 σ5 => (r6 ≤ (1000000000000000000 : Int64) → K r6 σ5) ∧ (¬ (r6 ≤ (1000000000000000000 : Int64)) → K (-2 : Int64) σ5))) ∧ (¬ (¬ r4 = 0) → K (-1 : Int64) σ3)))))
def C_Co_leaveOutw (a0 : Int32) (σ : gs_St) (K : gs_St → Prop) : Prop :=
  (((σ.1 6) = a0 → K σ) ∧ (¬ ((σ.1 6) = a0) → ∀ σ1 : gs_St, σ1 = gs_I σ 6 a0 → C_Co_forgetw σ1 (fun σ2 => K σ2)))
def C_Co_pairsw (a0 : Int32) (a1 : Int32) (a2 : Int32) (σ : gs_St) (K : Int64 → gs_St → Prop) : Prop :=
  ∀ X6 : Int32 → Int32 → Int32 → Int64 → Int32 → gs_St → Prop,
  (∀ (v_1 : Int32) (v_2 : Int32) (v_3 : Int32) (v_4 : Int64) (v_6 : Int32) (σ : gs_St), ((v_3 < v_6 → K v_4 σ) ∧ (¬ (v_3 < v_6) → vp_in (v_1 + v_6) 136 ∧ (∀ v1 : Int64, v1 = σ.2.2 2 (v_1 + v_6).toNatClampNeg → (v1 = (0 : Int64) → ∀ v2 : Int32, v2 = v_6 + 1 → X6 v_1 v_2 v_3 v_4 v2 σ) ∧ (¬ (v1 = (0 : Int64)) → vp_in (v_2 - v_6) 2856 ∧ (C_Co_times v1 (σ.2.2 3 (v_2 - v_6).toNatClampNeg) σ (fun r4 σ3 => C_Co_plus v_4 r4 σ3 (fun r6 σ5 => ∀ v7 : Int32, v7 = v_6 + 1 → X6 v_1 v_2 v_3 r6 v7 σ5))))))) → X6 v_1 v_2 v_3 v_4 v_6 σ) →
  (X6 a0 a1 a2 (0 : Int64) (0 : Int32) σ)
def C_Co_fillEndingsw (a0 : Int32) (a1 : Int32) (σ : gs_St) (K : gs_St → Prop) : Prop :=
  ∀ X35 : Int32 → Int32 → Int32 → gs_St → Prop,
  (∀ (v_1 : Int32) (v_2 : Int32) (v_4 : Int32) (σ : gs_St), ((v_4 < 0 → K σ) ∧ (¬ (v_4 < 0) → C_Gr_symbolAt v_1 v_4 σ (fun r10 σ9 => C_Co_endingsAt v_1 (v_4 + (1 : Int32)) σ9 (fun r12 σ11 => ∀ v13 : Int32, v13 = r12 + v_2 → C_Gl_isNonterminal r10 σ11 (fun r15 σ14 => (r15 = 0 → (v_2 ≤ 0 → C_Co_endingsAt v_1 v_4 σ14 (fun r17 σ16 => vp_in (r17 + v_2) 2856 ∧ ∀ σ18 : gs_St, σ18 = gs_L σ16 3 (vp_updL (σ16.2.2 3) (r17 + v_2).toNatClampNeg (0 : Int64)) → ∀ v19 : Int32, v19 = v_4 + (-1) → X35 v_1 v_2 v19 σ18)) ∧ (¬ (v_2 ≤ 0) → vp_in (v13 - (1 : Int32)) 2856 ∧ (∀ v20 : Int64, v20 = σ14.2.2 3 (v13 - (1 : Int32)).toNatClampNeg → C_Co_endingsAt v_1 v_4 σ14 (fun r22 σ21 => vp_in (r22 + v_2) 2856 ∧ ∀ σ23 : gs_St, σ23 = gs_L σ21 3 (vp_updL (σ21.2.2 3) (r22 + v_2).toNatClampNeg v20) → ∀ v24 : Int32, v24 = v_4 + (-1) → X35 v_1 v_2 v24 σ23)))) ∧ (¬ (r15 = 0) → C_Co_pairsw (r10 * (17 : Int32)) v13 v_2 σ14 (fun r26 σ25 => C_Co_endingsAt v_1 v_4 σ25 (fun r28 σ27 => vp_in (r28 + v_2) 2856 ∧ ∀ σ29 : gs_St, σ29 = gs_L σ27 3 (vp_updL (σ27.2.2 3) (r28 + v_2).toNatClampNeg r26) → ∀ v30 : Int32, v30 = v_4 + (-1) → X35 v_1 v_2 v30 σ29)))))))) → X35 v_1 v_2 v_4 σ) →
  (C_Gr_sizeOf a0 σ (fun r2 σ1 => C_Co_endingsAt a0 r2 σ1 (fun r4 σ3 => (¬ a1 = 0 → vp_in (r4 + a1) 2856 ∧ ∀ σ5 : gs_St, σ5 = gs_L σ3 3 (vp_updL (σ3.2.2 3) (r4 + a1).toNatClampNeg (0 : Int64)) → ∀ v6 : Int32, v6 = r2 - (1 : Int32) → X35 a0 a1 v6 σ5) ∧ (¬ (¬ a1 = 0) → vp_in (r4 + a1) 2856 ∧ ∀ σ7 : gs_St, σ7 = gs_L σ3 3 (vp_updL (σ3.2.2 3) (r4 + a1).toNatClampNeg (1 : Int64)) → ∀ v8 : Int32, v8 = r2 - (1 : Int32) → X35 a0 a1 v8 σ7))))
def C_Co_endingsOfw (a0 : Int32) (a1 : Int32) (a2 : Int32) (σ : gs_St) (K : Int64 → gs_St → Prop) : Prop :=
  (C_Co_endingsAt a0 a1 σ (fun r2 σ1 => vp_in (r2 + a2) 2856 ∧ (K (σ1.2.2 3 (r2 + a2).toNatClampNeg) σ1)))
def C_Co_addTreesw (a0 : Int32) (a1 : Int32) (a2 : Int64) (σ : gs_St) (K : gs_St → Prop) : Prop :=
  (∀ v1 : Int32, v1 = (a0 * (17 : Int32)) + a1 → vp_in v1 136 ∧ (C_Co_plus (σ.2.2 2 v1.toNatClampNeg) a2 σ (fun r3 σ2 => vp_in v1 136 ∧ ∀ σ4 : gs_St, σ4 = gs_L σ2 2 (vp_updL (σ2.2.2 2) v1.toNatClampNeg r3) → K σ4)))
def C_Co_countLengthw (a0 : Int32) (σ : gs_St) (K : gs_St → Prop) : Prop :=
  ∀ X2 : Int32 → Int32 → gs_St → Prop,
  ∀ X28 : Int32 → Int32 → gs_St → Prop,
  ∀ X46 : Int32 → Int32 → Int32 → Int32 → gs_St → Prop,
  ∀ X115 : Int32 → Int32 → gs_St → Prop,
  (∀ (v_1 : Int32) (v_2 : Int32) (σ : gs_St), (((8 : Int32) ≤ v_2 → X28 v_1 (0 : Int32) σ) ∧ (¬ ((8 : Int32) ≤ v_2) → vp_in ((v_2 * (17 : Int32)) + v_1) 136 ∧ ∀ σ1 : gs_St, σ1 = gs_L σ 2 (vp_updL (σ.2.2 2) ((v_2 * (17 : Int32)) + v_1).toNatClampNeg (0 : Int64)) → ∀ v2 : Int32, v2 = v_2 + 1 → X2 v_1 v2 σ1)) → X2 v_1 v_2 σ) →
  (∀ (v_1 : Int32) (v_2 : Int32) (σ : gs_St), (((8 : Int32) ≤ v_2 → X115 v_1 (0 : Int32) σ) ∧ (¬ ((8 : Int32) ≤ v_2) → C_Ld_inOrder v_2 σ (fun r4 σ3 => X46 v_1 v_2 r4 (0 : Int32) σ3))) → X28 v_1 v_2 σ) →
  (∀ (v_1 : Int32) (v_2 : Int32) (v_3 : Int32) (v_4 : Int32) (σ : gs_St), (((σ.1 2) ≤ v_4 → ∀ v5 : Int32, v5 = v_2 + 1 → X28 v_1 v5 σ) ∧ (¬ ((σ.1 2) ≤ v_4) → (v_4 = (σ.1 6) → ∀ v6 : Int32, v6 = v_4 + 1 → X46 v_1 v_2 v_3 v6 σ) ∧ (¬ (v_4 = (σ.1 6)) → C_Gr_leftOf v_4 σ (fun r8 σ7 => (¬ r8 = v_3 → ∀ v9 : Int32, v9 = v_4 + 1 → X46 v_1 v_2 v_3 v9 σ7) ∧ (¬ (¬ r8 = v_3) → C_Co_fillEndingsw v_4 v_1 σ7 (fun σ10 => C_Co_endingsOfw v_4 (0 : Int32) v_1 σ10 (fun r12 σ11 => C_Co_addTreesw v_3 v_1 r12 σ11 (fun σ13 => ∀ v14 : Int32, v14 = v_4 + 1 → X46 v_1 v_2 v_3 v14 σ13)))))))) → X46 v_1 v_2 v_3 v_4 σ) →
  (∀ (v_1 : Int32) (v_2 : Int32) (σ : gs_St), (((σ.1 2) ≤ v_2 → K σ) ∧ (¬ ((σ.1 2) ≤ v_2) → (v_2 = (σ.1 6) → ∀ v15 : Int32, v15 = v_2 + 1 → X115 v_1 v15 σ) ∧ (¬ (v_2 = (σ.1 6)) → C_Co_fillEndingsw v_2 v_1 σ (fun σ16 => ∀ v17 : Int32, v17 = v_2 + 1 → X115 v_1 v17 σ16)))) → X115 v_1 v_2 σ) →
  (X2 a0 (0 : Int32) σ)
def C_Co_treesOfw (a0 : Int32) (a1 : Int32) (σ : gs_St) (K : Int64 → gs_St → Prop) : Prop :=
  ∀ X5 : Int32 → Int32 → Int32 → gs_St → Prop,
  (∀ (v_1 : Int32) (v_2 : Int32) (v_3 : Int32) (σ : gs_St), ((v_2 < v_3 → vp_in ((v_1 * (17 : Int32)) + v_2) 136 ∧ (K (σ.2.2 2 ((v_1 * (17 : Int32)) + v_2).toNatClampNeg) σ)) ∧ (¬ (v_2 < v_3) → C_Co_countLengthw v_3 σ (fun σ2 => ∀ σ3 : gs_St, σ3 = gs_I σ2 7 (v_3 + (1 : Int32)) → ∀ v4 : Int32, v4 = v_3 + 1 → X5 v_1 v_2 v4 σ3))) → X5 v_1 v_2 v_3 σ) →
  (∀ v1 : Int32, v1 = σ.1 7 → X5 a0 a1 v1 σ)
def C_Gl_treesWith (a0 : Int32) (a1 : Int32) (σ : gs_St) (K : Int64 → gs_St → Prop) : Prop :=
  (C_Gr_has a0 σ (fun r2 σ1 => (r2 = 0 → K (-1 : Int64) σ1) ∧ (¬ (r2 = 0) → C_Gl_isCounted a1 σ1 (fun r4 σ3 => (¬ r4 = 0 → C_Co_treesOf (0 : Int32) a1 σ3 (fun r6 σ5 => (r6 ≤ (1000000000000000000 : Int64) → C_Co_leaveOutw a0 σ5 (fun σ7 => C_Co_treesOfw (0 : Int32) a1 σ7 (fun r9 σ8 => K (r6 - r9) σ8))) ∧ (¬ (r6 ≤ (1000000000000000000 : Int64)) → K (-2 : Int64) σ5))) ∧ (¬ (¬ r4 = 0) → K (-1 : Int64) σ3)))))
def C_Dr_clear (σ : gs_St) (K : gs_St → Prop) : Prop :=
  (∀ σ1 : gs_St, σ1 = gs_I σ 12 (0 : Int32) → ∀ σ2 : gs_St, σ2 = gs_I σ1 13 (0 : Int32) → K σ2)
def C_Pi_put (a0 : Int32) (a1 : Int32) (a2 : Int32) (a3 : Int64) (σ : gs_St) (K : gs_St → Prop) : Prop :=
  ((a0 < 0 → K σ) ∧ (¬ (a0 < 0) → ((216 : Int32) ≤ a0 → K σ) ∧ (¬ ((216 : Int32) ≤ a0) → vp_in a0 216 ∧ ∀ σ1 : gs_St, σ1 = gs_A σ 8 (upd (σ.2.1 8) a0.toNatClampNeg a1) → vp_in a0 216 ∧ ∀ σ2 : gs_St, σ2 = gs_A σ1 9 (upd (σ1.2.1 9) a0.toNatClampNeg a2) → vp_in a0 216 ∧ ∀ σ3 : gs_St, σ3 = gs_L σ2 4 (vp_updL (σ2.2.2 4) a0.toNatClampNeg a3) → K σ3)))
def C_Gr_nonterminalsIn (a0 : Int32) (σ : gs_St) (K : Int32 → gs_St → Prop) : Prop :=
  ∀ X4 : Int32 → Int32 → Int32 → gs_St → Prop,
  (∀ (v_1 : Int32) (v_2 : Int32) (v_3 : Int32) (σ : gs_St), (vp_in v_1 24 ∧ (((σ.2.1 2 v_1.toNatClampNeg) ≤ v_3 → K v_2 σ) ∧ (¬ ((σ.2.1 2 v_1.toNatClampNeg) ≤ v_3) → C_Gr_symbolAt v_1 v_3 σ (fun r2 σ1 => C_Gl_isNonterminal r2 σ1 (fun r4 σ3 => (r4 = 0 → ∀ v5 : Int32, v5 = v_3 + 1 → X4 v_1 v_2 v5 σ3) ∧ (¬ (r4 = 0) → ∀ v6 : Int32, v6 = v_2 + 1 → ∀ v7 : Int32, v7 = v_3 + 1 → X4 v_1 v6 v7 σ3)))))) → X4 v_1 v_2 v_3 σ) →
  (X4 a0 (0 : Int32) (0 : Int32) σ)
def C_Dr_addRule (a0 : Int32) (σ : gs_St) (K : gs_St → Prop) : Prop :=
  (((200 : Int32) ≤ (σ.1 12) → K σ) ∧ (¬ ((200 : Int32) ≤ (σ.1 12)) → vp_in (σ.1 12) 200 ∧ ∀ σ1 : gs_St, σ1 = gs_A σ 12 (upd (σ.2.1 12) (σ.1 12).toNatClampNeg a0) → ∀ σ2 : gs_St, σ2 = gs_I σ1 12 ((σ1.1 12) + (1 : Int32)) → K σ2))
def C_Co_endingsWith (a0 : Int32) (a1 : Int32) (a2 : Int32) (a3 : Int32) (σ : gs_St) (K : Int64 → gs_St → Prop) : Prop :=
  ∀ X21 : Int32 → Int32 → Int32 → Int32 → Int32 → Int64 → gs_St → Prop,
  (∀ (v_1 : Int32) (v_2 : Int32) (v_3 : Int32) (v_4 : Int32) (v_5 : Int32) (s_0 : Int64) (σ : gs_St), (C_Gl_isNonterminal v_5 σ (fun r4 σ3 => (r4 = 0 → C_Co_endingsAt v_1 (v_2 + (1 : Int32)) σ3 (fun r6 σ5 => vp_in ((r6 + v_4) - v_3) 2856 ∧ (C_Co_times s_0 (σ5.2.2 1 ((r6 + v_4) - v_3).toNatClampNeg) σ5 (fun r8 σ7 => K r8 σ7)))) ∧ (¬ (r4 = 0) → vp_in ((v_5 * (17 : Int32)) + v_3) 136 ∧ (∀ v9 : Int64, v9 = σ3.2.2 0 ((v_5 * (17 : Int32)) + v_3).toNatClampNeg → C_Co_endingsAt v_1 (v_2 + (1 : Int32)) σ3 (fun r11 σ10 => vp_in ((r11 + v_4) - v_3) 2856 ∧ (C_Co_times v9 (σ10.2.2 1 ((r11 + v_4) - v_3).toNatClampNeg) σ10 (fun r13 σ12 => K r13 σ12))))))) → X21 v_1 v_2 v_3 v_4 v_5 s_0 σ) →
  (C_Gr_symbolAt a0 a1 σ (fun r2 σ1 => (¬ a2 = (1 : Int32) → X21 a0 a1 a2 a3 r2 (0 : Int64) σ1) ∧ (¬ (¬ a2 = (1 : Int32)) → X21 a0 a1 a2 a3 r2 (1 : Int64) σ1)))
def C_We_unfoldRule (a0 : Int32) (a1 : Int32) (a2 : Int64) (σ : gs_St) (K : Int32 → gs_St → Prop) : Prop :=
  ∀ X68 : Int32 → Int32 → Int32 → Int64 → Int32 → gs_St → Prop,
  ∀ X94 : Int32 → Int32 → Int32 → Int64 → Int32 → Int32 → Int64 → gs_St → Prop,
  ∀ X138 : Int32 → Int32 → Int32 → Int64 → Int32 → Int32 → gs_St → Prop,
  (∀ (v_1 : Int32) (v_5 : Int32) (v_6 : Int32) (v_7 : Int64) (v_9 : Int32) (σ : gs_St), ((v_5 ≤ v_9 → ∀ σ7 : gs_St, σ7 = gs_I σ 8 ((σ.1 8) + v_5) → K (1 : Int32) σ7) ∧ (¬ (v_5 ≤ v_9) → C_Co_endingsWith v_1 v_9 (0 : Int32) v_6 σ (fun r9 σ8 => X94 v_1 v_5 v_6 v_7 v_9 (0 : Int32) r9 σ8))) → X68 v_1 v_5 v_6 v_7 v_9 σ) →
  (∀ (v_1 : Int32) (v_5 : Int32) (v_6 : Int32) (v_7 : Int64) (v_9 : Int32) (v_10 : Int32) (v_11 : Int64) (σ : gs_St), ((v_6 ≤ v_10 → X138 v_1 v_5 v_6 v_7 v_9 v_10 σ) ∧ (¬ (v_6 ≤ v_10) → (v_7 < v_11 → X138 v_1 v_5 v_6 v_7 v_9 v_10 σ) ∧ (¬ (v_7 < v_11) → ∀ v10 : Int64, v10 = v_7 - v_11 → ∀ v11 : Int32, v11 = v_10 + 1 → C_Co_endingsWith v_1 v_9 v11 v_6 σ (fun r13 σ12 => X94 v_1 v_5 v_6 v10 v_9 v11 r13 σ12)))) → X94 v_1 v_5 v_6 v_7 v_9 v_10 v_11 σ) →
  (∀ (v_1 : Int32) (v_5 : Int32) (v_6 : Int32) (v_7 : Int64) (v_9 : Int32) (v_10 : Int32) (σ : gs_St), (∀ v14 : Int32, v14 = v_6 - v_10 → C_Co_endingsOf v_1 (v_9 + (1 : Int32)) v14 σ (fun r16 σ15 => ∀ v17 : Int64, v17 = (if r16 < (1 : Int64) then (1 : Int64) else r16) → C_Gr_symbolAt v_1 v_9 σ15 (fun r19 σ18 => ¬ v17 = 0 ∧ (C_Pi_put ((((σ15.1 8) + v_5) - (1 : Int32)) - v_9) r19 v_10 (v_7 / v17) σ18 (fun σ20 => ¬ v17 = 0 ∧ (∀ v21 : Int64, v21 = v_7 - v_7 / v17 * v17 → ∀ v22 : Int32, v22 = v_9 + 1 → X68 v_1 v_5 v14 v21 v22 σ20)))))) → X138 v_1 v_5 v_6 v_7 v_9 v_10 σ) →
  (C_Gr_nonterminalsIn a0 σ (fun r2 σ1 => ∀ σ3 : gs_St, σ3 = gs_I σ1 9 ((σ.1 9) + (r2 - (1 : Int32))) → ((((σ3.1 12) + (1 : Int32)) + (σ3.1 9)) ≤ (200 : Int32) → C_Dr_addRule a0 σ3 (fun σ4 => C_Gr_sizeOf a0 σ4 (fun r6 σ5 => X68 a0 r6 a1 a2 (0 : Int32) σ5))) ∧ (¬ ((((σ3.1 12) + (1 : Int32)) + (σ3.1 9)) ≤ (200 : Int32)) → K (0 : Int32) σ3)))
def C_We_unfold (a0 : Int32) (a1 : Int32) (a2 : Int64) (σ : gs_St) (K : Int32 → gs_St → Prop) : Prop :=
  ∀ X6 : Int32 → Int32 → Int64 → Int32 → gs_St → Prop,
  (∀ (v_1 : Int32) (v_2 : Int32) (v_5 : Int64) (v_7 : Int32) (σ : gs_St), (((σ.1 2) ≤ v_7 → K (0 : Int32) σ) ∧ (¬ ((σ.1 2) ≤ v_7) → C_Gr_leftOf v_7 σ (fun r2 σ1 => (¬ r2 = v_1 → ∀ v3 : Int32, v3 = v_7 + 1 → X6 v_1 v_2 v_5 v3 σ1) ∧ (¬ (¬ r2 = v_1) → C_Co_endingsOf v_7 (0 : Int32) v_2 σ1 (fun r5 σ4 => (r5 ≤ v_5 → ∀ v6 : Int64, v6 = v_5 - r5 → ∀ v7 : Int32, v7 = v_7 + 1 → X6 v_1 v_2 v6 v7 σ4) ∧ (¬ (r5 ≤ v_5) → C_We_unfoldRule v_7 v_2 v_5 σ4 (fun r9 σ8 => K r9 σ8))))))) → X6 v_1 v_2 v_5 v_7 σ) →
  (X6 a0 a1 a2 (0 : Int32) σ)
def C_Dr_addLeaf (a0 : Int32) (σ : gs_St) (K : gs_St → Prop) : Prop :=
  (((16 : Int32) ≤ (σ.1 13) → K σ) ∧ (¬ ((16 : Int32) ≤ (σ.1 13)) → vp_in (σ.1 13) 16 ∧ ∀ σ1 : gs_St, σ1 = gs_A σ 13 (upd (σ.2.1 13) (σ.1 13).toNatClampNeg a0) → ∀ σ2 : gs_St, σ2 = gs_I σ1 13 ((σ1.1 13) + (1 : Int32)) → K σ2))
def C_We_weave (a0 : Int32) (a1 : Int32) (a2 : Int64) (σ : gs_St) (K : Int32 → (gs_St × Bool) → Prop) : Prop :=
  ∀ X34 : Int32 → gs_St → Prop,
  (∀ (v_5 : Int32) (σ : gs_St), (((216 : Int32) ≤ v_5 → K ((gs_sS σ).1 10) (gs_sS σ, true)) ∧ (¬ ((216 : Int32) ≤ v_5) → ((σ.1 8) ≤ 0 → K ((gs_sS σ).1 10) (gs_sS σ, true)) ∧ (¬ ((σ.1 8) ≤ 0) → ∀ σ5 : gs_St, σ5 = gs_I σ 8 ((σ.1 8) - (1 : Int32)) → vp_in (σ5.1 8) 216 ∧ (∀ v6 : Int32, v6 = σ5.2.1 8 (σ5.1 8).toNatClampNeg → C_Gl_isNonterminal v6 σ5 (fun r8 σ7 => (¬ r8 = 0 → vp_in (σ7.1 8) 216 ∧ (vp_in (σ7.1 8) 216 ∧ (C_We_unfold v6 (σ7.2.1 9 (σ7.1 8).toNatClampNeg) (σ7.2.2 4 (σ7.1 8).toNatClampNeg) σ7 (fun r10 σ9 => (¬ r10 = 0 → ∀ v11 : Int32, v11 = v_5 + 1 → X34 v11 σ9) ∧ (¬ (¬ r10 = 0) → K (-2 : Int32) (σ9, false)))))) ∧ (¬ (¬ r8 = 0) → C_Dr_addLeaf v6 σ7 (fun σ12 => ∀ v13 : Int32, v13 = v_5 + 1 → X34 v13 σ12))))))) → X34 v_5 σ) →
  (C_Dr_clear σ (fun σ1 => C_Pi_put (0 : Int32) a0 a1 a2 σ1 (fun σ2 => ∀ σ3 : gs_St, σ3 = gs_I σ2 8 (1 : Int32) → ∀ σ4 : gs_St, σ4 = gs_I σ3 9 (1 : Int32) → X34 (0 : Int32) σ4)))
def C_Gl_draw (a0 : Int32) (a1 : Int32) (a2 : Int64) (σ : gs_St) (K : Int32 → (gs_St × Bool) → Prop) : Prop :=
  ((a2 < (0 : Int64) → K (-1 : Int32) (σ, false)) ∧ (¬ (a2 < (0 : Int64)) → C_Gl_trees a0 a1 σ (fun r2 σ1 => (a2 < r2 → C_We_weave a0 a1 a2 σ1 (fun r4 σ3 => K r4 σ3)) ∧ (¬ (a2 < r2) → K (-1 : Int32) (σ1, false)))))
def C_We_ruleAt (a0 : Int32) (σ : gs_St) (K : Int32 → gs_St → Prop) : Prop :=
  ((a0 < 0 → K (-1 : Int32) σ) ∧ (¬ (a0 < 0) → ((σ.1 10) ≤ a0 → K (-1 : Int32) σ) ∧ (¬ ((σ.1 10) ≤ a0) → vp_in a0 200 ∧ (K (σ.2.1 10 a0.toNatClampNeg) σ))))
def C_Gl_row (a0 : Int32) (σ : gs_St) (K : Int32 → gs_St → Prop) : Prop :=
  (C_We_ruleAt a0 σ (fun r2 σ1 => K r2 σ1))
def C_We_leafAt (a0 : Int32) (σ : gs_St) (K : Int32 → gs_St → Prop) : Prop :=
  ((a0 < 0 → K (-1 : Int32) σ) ∧ (¬ (a0 < 0) → ((σ.1 11) ≤ a0 → K (-1 : Int32) σ) ∧ (¬ ((σ.1 11) ≤ a0) → vp_in a0 16 ∧ (K (σ.2.1 11 a0.toNatClampNeg) σ))))
def C_Gl_leaf (a0 : Int32) (σ : gs_St) (K : Int32 → gs_St → Prop) : Prop :=
  (C_We_leafAt a0 σ (fun r2 σ1 => K r2 σ1))
def C_Li_add (a0 : Int32) (σ : gs_St) (K : Int32 → gs_St → Prop) : Prop :=
  (((σ.1 14) < (200 : Int32) → vp_in (σ.1 14) 200 ∧ ∀ σ1 : gs_St, σ1 = gs_A σ 14 (upd (σ.2.1 14) (σ.1 14).toNatClampNeg a0) → ∀ σ2 : gs_St, σ2 = gs_I σ1 14 ((σ1.1 14) + (1 : Int32)) → K (σ2.1 14) σ2) ∧ (¬ ((σ.1 14) < (200 : Int32)) → K (-1 : Int32) σ))
def C_Gl_list (a0 : Int32) (σ : gs_St) (K : Int32 → gs_St → Prop) : Prop :=
  (C_Li_add a0 σ (fun r2 σ1 => K r2 σ1))
def C_Li_terminals (σ : gs_St) (K : Int32 → gs_St → Prop) : Prop :=
  ∀ X4 : Int32 → Int32 → gs_St → Prop,
  (∀ (v_1 : Int32) (v_2 : Int32) (σ : gs_St), (((σ.1 14) ≤ v_2 → K v_1 σ) ∧ (¬ ((σ.1 14) ≤ v_2) → vp_in v_2 200 ∧ (C_Gr_has (σ.2.1 14 v_2.toNatClampNeg) σ (fun r2 σ1 => (¬ r2 = 0 → vp_in v_2 200 ∧ (C_Gr_sizeOf (σ1.2.1 14 v_2.toNatClampNeg) σ1 (fun r4 σ3 => vp_in v_2 200 ∧ (C_Gr_nonterminalsIn (σ3.2.1 14 v_2.toNatClampNeg) σ3 (fun r6 σ5 => ∀ v7 : Int32, v7 = v_1 + (r4 - r6) → ∀ v8 : Int32, v8 = v_2 + 1 → X4 v7 v8 σ5))))) ∧ (¬ (¬ r2 = 0) → K (-1 : Int32) σ1))))) → X4 v_1 v_2 σ) →
  (X4 (0 : Int32) (0 : Int32) σ)
def C_Li_treesBefore (a0 : Int32) (a1 : Int32) (σ : gs_St) (K : Int64 → gs_St → Prop) : Prop :=
  ∀ X5 : Int32 → Int32 → Int64 → Int32 → gs_St → Prop,
  (∀ (v_1 : Int32) (v_2 : Int32) (v_3 : Int64) (v_5 : Int32) (σ : gs_St), ((v_1 ≤ v_5 → K v_3 σ) ∧ (¬ (v_1 ≤ v_5) → C_Gr_leftOf v_5 σ (fun r2 σ1 => C_Gr_leftOf v_1 σ1 (fun r4 σ3 => (¬ r2 = r4 → ∀ v5 : Int32, v5 = v_5 + 1 → X5 v_1 v_2 v_3 v5 σ3) ∧ (¬ (¬ r2 = r4) → C_Co_endingsOf v_5 (0 : Int32) v_2 σ3 (fun r7 σ6 => ∀ v8 : Int64, v8 = v_3 + r7 → ∀ v9 : Int32, v9 = v_5 + 1 → X5 v_1 v_2 v8 v9 σ6)))))) → X5 v_1 v_2 v_3 v_5 σ) →
  (X5 a0 a1 (0 : Int64) (0 : Int32) σ)
def C_Li_numberInRule (a0 : Int32) (a1 : Int32) (σ : gs_St) (K : Int64 → gs_St → Prop) : Prop :=
  ∀ X17 : Int32 → Int64 → Int32 → Int32 → Int32 → gs_St → Prop,
  ∀ X82 : Int32 → Int64 → Int32 → Int32 → Int32 → Int32 → Int64 → Int32 → gs_St → Prop,
  (∀ (v_1 : Int32) (v_3 : Int64) (v_5 : Int32) (v_6 : Int32) (v_7 : Int32) (σ : gs_St), (C_Gr_sizeOf v_1 σ (fun r3 σ2 => (r3 ≤ v_7 → K v_3 σ2) ∧ (¬ (r3 ≤ v_7) → C_Gr_symbolAt v_1 v_7 σ2 (fun r5 σ4 => C_Gl_isNonterminal r5 σ4 (fun r7 σ6 => (r7 = 0 → X82 v_1 v_3 v_5 v_6 v_7 (1 : Int32) (0 : Int64) (0 : Int32) σ6) ∧ (¬ (r7 = 0) → ∀ v8 : Int32, v8 = v_6 + (-1) → vp_in v8 216 ∧ (∀ v9 : Int32, v9 = σ6.2.1 9 v8.toNatClampNeg → vp_in v8 216 ∧ (∀ v10 : Int64, v10 = σ6.2.2 4 v8.toNatClampNeg → X82 v_1 v_3 v_5 v8 v_7 v9 v10 (0 : Int32) σ6)))))))) → X17 v_1 v_3 v_5 v_6 v_7 σ) →
  (∀ (v_1 : Int32) (v_3 : Int64) (v_5 : Int32) (v_6 : Int32) (v_7 : Int32) (v_8 : Int32) (v_9 : Int64) (v_11 : Int32) (σ : gs_St), ((v_8 ≤ v_11 → ∀ v11 : Int32, v11 = v_5 - v_8 → C_Co_endingsOf v_1 (v_7 + (1 : Int32)) v11 σ (fun r13 σ12 => ∀ v14 : Int64, v14 = v_3 + (v_9 * r13) → ∀ v15 : Int32, v15 = v_7 + 1 → X17 v_1 v14 v11 v_6 v15 σ12)) ∧ (¬ (v_8 ≤ v_11) → C_Co_endingsWith v_1 v_7 v_11 v_5 σ (fun r17 σ16 => ∀ v18 : Int64, v18 = v_3 + r17 → ∀ v19 : Int32, v19 = v_11 + 1 → X82 v_1 v18 v_5 v_6 v_7 v_8 v_9 v19 σ16))) → X82 v_1 v_3 v_5 v_6 v_7 v_8 v_9 v_11 σ) →
  (∀ v1 : Int32, v1 = σ.1 8 → X17 a0 (0 : Int64) a1 v1 (0 : Int32) σ)
def C_Li_fold (a0 : Int32) (σ : gs_St) (K : Int32 → gs_St → Prop) : Prop :=
  ∀ X13 : Int32 → Int32 → Int32 → Int32 → gs_St → Prop,
  (∀ (v_1 : Int32) (v_2 : Int32) (v_3 : Int32) (v_4 : Int32) (σ : gs_St), (C_Gr_sizeOf v_1 σ (fun r3 σ2 => (r3 ≤ v_4 → C_Li_treesBefore v_1 v_2 σ2 (fun r5 σ4 => C_Li_numberInRule v_1 v_2 σ4 (fun r7 σ6 => ∀ v8 : Int64, v8 = r5 + r7 → C_Gr_leftOf v_1 σ6 (fun r10 σ9 => C_Pi_put v_3 r10 v_2 v8 σ9 (fun σ11 => ∀ σ12 : gs_St, σ12 = gs_I σ11 8 (v_3 + (1 : Int32)) → K (1 : Int32) σ12))))) ∧ (¬ (r3 ≤ v_4) → C_Gr_symbolAt v_1 v_4 σ2 (fun r14 σ13 => C_Gl_isNonterminal r14 σ13 (fun r16 σ15 => (¬ r16 = 0 → ∀ v17 : Int32, v17 = v_3 + (-1) → (v17 < 0 → K (0 : Int32) σ15) ∧ (¬ (v17 < 0) → vp_in v17 216 ∧ (((σ15.2.1 8 v17.toNatClampNeg) = r14 → vp_in v17 216 ∧ (∀ v18 : Int32, v18 = v_2 + (σ15.2.1 9 v17.toNatClampNeg) → ∀ v19 : Int32, v19 = v_4 + 1 → X13 v_1 v18 v17 v19 σ15)) ∧ (¬ ((σ15.2.1 8 v17.toNatClampNeg) = r14) → K (0 : Int32) σ15)))) ∧ (¬ (¬ r16 = 0) → ∀ v20 : Int32, v20 = v_2 + 1 → ∀ v21 : Int32, v21 = v_4 + 1 → X13 v_1 v20 v_3 v21 σ15)))))) → X13 v_1 v_2 v_3 v_4 σ) →
  (∀ v1 : Int32, v1 = σ.1 8 → X13 a0 (0 : Int32) v1 (0 : Int32) σ)
def C_Li_numberOf (a0 : Int32) (σ : gs_St) (K : Int64 → gs_St → Prop) : Prop :=
  ∀ X51 : Int32 → Int32 → gs_St → Prop,
  (∀ (v_1 : Int32) (v_3 : Int32) (σ : gs_St), ((v_3 < 0 → (¬ (σ.1 8) = (1 : Int32) → K (-1 : Int64) σ) ∧ (¬ (¬ (σ.1 8) = (1 : Int32)) → vp_in (0 : Int32) 216 ∧ ((¬ (σ.2.1 8 (0 : Int32).toNatClampNeg) = v_1 → K (-1 : Int64) σ) ∧ (¬ (¬ (σ.2.1 8 (0 : Int32).toNatClampNeg) = v_1) → vp_in (0 : Int32) 216 ∧ (K (σ.2.2 4 (0 : Int32).toNatClampNeg) σ))))) ∧ (¬ (v_3 < 0) → vp_in v_3 200 ∧ (C_Li_fold (σ.2.1 14 v_3.toNatClampNeg) σ (fun r8 σ7 => (¬ r8 = 0 → ∀ v9 : Int32, v9 = v_3 + (-1) → X51 v_1 v9 σ7) ∧ (¬ (¬ r8 = 0) → K (-1 : Int64) σ7))))) → X51 v_1 v_3 σ) →
  (C_Li_terminals σ (fun r2 σ1 => (r2 = (-1 : Int32) → K (-1 : Int64) σ1) ∧ (¬ (r2 = (-1 : Int32)) → ((16 : Int32) < r2 → K (-1 : Int64) σ1) ∧ (¬ ((16 : Int32) < r2) → C_Co_treesOf a0 r2 σ1 (fun r4 σ3 => (r4 ≤ (1000000000000000000 : Int64) → ∀ σ5 : gs_St, σ5 = gs_I σ3 8 (0 : Int32) → ∀ v6 : Int32, v6 = (σ5.1 14) - (1 : Int32) → X51 a0 v6 σ5) ∧ (¬ (r4 ≤ (1000000000000000000 : Int64)) → K (-1 : Int64) σ3))))))
def C_Gl_number (a0 : Int32) (σ : gs_St) (K : Int64 → gs_St → Prop) : Prop :=
  (C_Gl_isNonterminal a0 σ (fun r2 σ1 => (r2 = 0 → ∀ σ3 : gs_St, σ3 = gs_I σ1 14 (0 : Int32) → K (-1 : Int64) σ3) ∧ (¬ (r2 = 0) → C_Gl_circle σ1 (fun r5 σ4 => (¬ r5 = 0 → ∀ σ6 : gs_St, σ6 = gs_I σ4 14 (0 : Int32) → K (-1 : Int64) σ6) ∧ (¬ (¬ r5 = 0) → C_Li_numberOf a0 σ4 (fun r8 σ7 => ∀ σ9 : gs_St, σ9 = gs_I σ7 14 (0 : Int32) → K r8 σ9))))))
def C_Mo_symbol (a0 : Int32) (σ : gs_St) (K : Int32 → gs_St → Prop) : Prop :=
  ((a0 < 0 → K (-1 : Int32) σ) ∧ (¬ (a0 < 0) → ((24 : Int32) ≤ a0 → K (-1 : Int32) σ) ∧ (¬ ((24 : Int32) ≤ a0) → (¬ (σ.1 1) = (6 : Int32) → vp_in (σ.1 1) 6 ∧ ∀ σ1 : gs_St, σ1 = gs_A σ 3 (upd (σ.2.1 3) (σ.1 1).toNatClampNeg a0) → ∀ σ2 : gs_St, σ2 = gs_I σ1 1 ((σ1.1 1) + (1 : Int32)) → K (σ2.1 1) σ2) ∧ (¬ (¬ (σ.1 1) = (6 : Int32)) → K (-1 : Int32) σ))))
def C_Mo_isNonterminal (a0 : Int32) (σ : gs_St) (K : Int32 → gs_St → Prop) : Prop :=
  ((a0 < 0 → K (0 : Int32) σ) ∧ (¬ (a0 < 0) → ((8 : Int32) ≤ a0 → K (0 : Int32) σ) ∧ (¬ ((8 : Int32) ≤ a0) → K (1 : Int32) σ)))
def C_Mo_rule (a0 : Int32) (σ : gs_St) (K : Int32 → gs_St → Prop) : Prop :=
  ∀ X50 : Int32 → Int32 → gs_St → Prop,
  (∀ (v_2 : Int32) (v_3 : Int32) (σ : gs_St), ((v_2 ≤ v_3 → ∀ σ7 : gs_St, σ7 = gs_I σ 0 ((σ.1 0) + (1 : Int32)) → ∀ σ8 : gs_St, σ8 = gs_I σ7 5 (0 : Int32) → K ((σ8.1 0) - (1 : Int32)) σ8) ∧ (¬ (v_2 ≤ v_3) → vp_in v_3 6 ∧ (vp_in (((6 : Int32) * (σ.1 0)) + v_3) 144 ∧ ∀ σ9 : gs_St, σ9 = gs_A σ 2 (upd (σ.2.1 2) (((6 : Int32) * (σ.1 0)) + v_3).toNatClampNeg (σ.2.1 3 v_3.toNatClampNeg)) → ∀ v10 : Int32, v10 = v_3 + 1 → X50 v_2 v10 σ9))) → X50 v_2 v_3 σ) →
  (∀ v1 : Int32, v1 = σ.1 1 → ∀ σ2 : gs_St, σ2 = gs_I σ 1 (0 : Int32) → ((σ2.1 0) = (24 : Int32) → K (-1 : Int32) σ2) ∧ (¬ ((σ2.1 0) = (24 : Int32)) → C_Mo_isNonterminal a0 σ2 (fun r4 σ3 => (¬ r4 = 0 → vp_in (σ3.1 0) 24 ∧ ∀ σ5 : gs_St, σ5 = gs_A σ3 0 (upd (σ3.2.1 0) (σ3.1 0).toNatClampNeg a0) → vp_in (σ5.1 0) 24 ∧ ∀ σ6 : gs_St, σ6 = gs_A σ5 1 (upd (σ5.2.1 1) (σ5.1 0).toNatClampNeg v1) → X50 v1 (0 : Int32) σ6) ∧ (¬ (¬ r4 = 0) → K (-1 : Int32) σ3))))
def C_Mo_isRule (a0 : Int32) (σ : gs_St) (K : Int32 → gs_St → Prop) : Prop :=
  ((a0 < 0 → K (0 : Int32) σ) ∧ (¬ (a0 < 0) → ((σ.1 0) ≤ a0 → K (0 : Int32) σ) ∧ (¬ ((σ.1 0) ≤ a0) → K (1 : Int32) σ)))
def C_Mo_drop (a0 : Int32) (σ : gs_St) (K : Int32 → gs_St → Prop) : Prop :=
  ∀ X22 : Int32 → gs_St → Prop,
  ∀ X60 : Int32 → Int32 → gs_St → Prop,
  (∀ (v_2 : Int32) (σ : gs_St), (((σ.1 0) ≤ v_2 → ∀ σ4 : gs_St, σ4 = gs_I σ 5 (0 : Int32) → K (1 : Int32) σ4) ∧ (¬ ((σ.1 0) ≤ v_2) → vp_in (v_2 + (1 : Int32)) 24 ∧ (vp_in v_2 24 ∧ ∀ σ5 : gs_St, σ5 = gs_A σ 0 (upd (σ.2.1 0) v_2.toNatClampNeg (σ.2.1 0 (v_2 + (1 : Int32)).toNatClampNeg)) → vp_in (v_2 + (1 : Int32)) 24 ∧ (vp_in v_2 24 ∧ ∀ σ6 : gs_St, σ6 = gs_A σ5 1 (upd (σ5.2.1 1) v_2.toNatClampNeg (σ5.2.1 1 (v_2 + (1 : Int32)).toNatClampNeg)) → X60 v_2 (0 : Int32) σ6)))) → X22 v_2 σ) →
  (∀ (v_2 : Int32) (v_3 : Int32) (σ : gs_St), (((6 : Int32) ≤ v_3 → ∀ v7 : Int32, v7 = v_2 + 1 → X22 v7 σ) ∧ (¬ ((6 : Int32) ≤ v_3) → vp_in ((((6 : Int32) * v_2) + (6 : Int32)) + v_3) 144 ∧ (vp_in (((6 : Int32) * v_2) + v_3) 144 ∧ ∀ σ8 : gs_St, σ8 = gs_A σ 2 (upd (σ.2.1 2) (((6 : Int32) * v_2) + v_3).toNatClampNeg (σ.2.1 2 ((((6 : Int32) * v_2) + (6 : Int32)) + v_3).toNatClampNeg)) → ∀ v9 : Int32, v9 = v_3 + 1 → X60 v_2 v9 σ8))) → X60 v_2 v_3 σ) →
  (C_Mo_isRule a0 σ (fun r2 σ1 => (¬ r2 = 0 → ∀ σ3 : gs_St, σ3 = gs_I σ1 0 ((σ1.1 0) - (1 : Int32)) → X22 a0 σ3) ∧ (¬ (¬ r2 = 0) → K (0 : Int32) σ1)))
def C_Mo_count (a0 : Int32) (σ : gs_St) (K : Int32 → gs_St → Prop) : Prop :=
  ((¬ a0 = 0 → (¬ a0 = (1 : Int32) → (¬ a0 = (2 : Int32) → K (-1 : Int32) σ) ∧ (¬ (¬ a0 = (2 : Int32)) → K (σ.1 2) σ)) ∧ (¬ (¬ a0 = (1 : Int32)) → K (σ.1 1) σ)) ∧ (¬ (¬ a0 = 0) → K (σ.1 0) σ))
def C_Mo_at (a0 : Int32) (a1 : Int32) (σ : gs_St) (K : Int32 → gs_St → Prop) : Prop :=
  (vp_in (((6 : Int32) * a0) + a1) 144 ∧ (K (σ.2.1 2 (((6 : Int32) * a0) + a1).toNatClampNeg) σ))
def C_Mo_about (a0 : Int32) (a1 : Int32) (σ : gs_St) (K : Int32 → gs_St → Prop) : Prop :=
  (C_Mo_isRule a0 σ (fun r2 σ1 => (r2 = 0 → K (-1 : Int32) σ1) ∧ (¬ (r2 = 0) → (a1 < (-1 : Int32) → K (-1 : Int32) σ1) ∧ (¬ (a1 < (-1 : Int32)) → vp_in a0 24 ∧ ((a1 < (σ1.2.1 1 a0.toNatClampNeg) → (¬ a1 = (-1 : Int32) → C_Mo_at a0 a1 σ1 (fun r4 σ3 => K r4 σ3)) ∧ (¬ (¬ a1 = (-1 : Int32)) → vp_in a0 24 ∧ (K (σ1.2.1 0 a0.toNatClampNeg) σ1))) ∧ (¬ (a1 < (σ1.2.1 1 a0.toNatClampNeg)) → K (-1 : Int32) σ1))))))
def C_Mo_leastOf (a0 : Int32) (σ : gs_St) (K : Int64 → gs_St → Prop) : Prop :=
  (C_Mo_isNonterminal a0 σ (fun r2 σ1 => (r2 = 0 → K (1 : Int64) σ1) ∧ (¬ (r2 = 0) → vp_in a0 8 ∧ (K (σ1.2.2 0 a0.toNatClampNeg) σ1))))
def C_Mo_leastBut (a0 : Int32) (a1 : Int32) (σ : gs_St) (K : Int64 → gs_St → Prop) : Prop :=
  ∀ X5 : Int32 → Int32 → Int64 → Int32 → gs_St → Prop,
  (∀ (v_1 : Int32) (v_2 : Int32) (v_3 : Int64) (v_5 : Int32) (σ : gs_St), (vp_in v_1 24 ∧ (((σ.2.1 1 v_1.toNatClampNeg) ≤ v_5 → ((1152921504606846976 : Int64) ≤ v_3 → K (1152921504606846976 : Int64) σ) ∧ (¬ ((1152921504606846976 : Int64) ≤ v_3) → K v_3 σ)) ∧ (¬ ((σ.2.1 1 v_1.toNatClampNeg) ≤ v_5) → (¬ v_5 = v_2 → C_Mo_at v_1 v_5 σ (fun r2 σ1 => C_Mo_leastOf r2 σ1 (fun r4 σ3 => ∀ v5 : Int64, v5 = v_3 + r4 → ∀ v6 : Int32, v6 = v_5 + 1 → X5 v_1 v_2 v5 v6 σ3))) ∧ (¬ (¬ v_5 = v_2) → ∀ v7 : Int64, v7 = v_3 + (0 : Int64) → ∀ v8 : Int32, v8 = v_5 + 1 → X5 v_1 v_2 v7 v8 σ)))) → X5 v_1 v_2 v_3 v_5 σ) →
  (X5 a0 a1 (0 : Int64) (0 : Int32) σ)
def C_Mo_shorten (σ : gs_St) (K : gs_St → Prop) : Prop :=
  ∀ X2 : Int32 → gs_St → Prop,
  ∀ X25 : Int32 → gs_St → Prop,
  ∀ X33 : Int32 → Int32 → gs_St → Prop,
  (∀ (v_1 : Int32) (σ : gs_St), (((8 : Int32) ≤ v_1 → X25 (0 : Int32) σ) ∧ (¬ ((8 : Int32) ≤ v_1) → vp_in v_1 8 ∧ ∀ σ1 : gs_St, σ1 = gs_L σ 0 (vp_updL (σ.2.2 0) v_1.toNatClampNeg (1152921504606846976 : Int64)) → ∀ v2 : Int32, v2 = v_1 + 1 → X2 v2 σ1)) → X2 v_1 σ) →
  (∀ (v_1 : Int32) (σ : gs_St), (((8 : Int32) ≤ v_1 → K σ) ∧ (¬ ((8 : Int32) ≤ v_1) → X33 v_1 (0 : Int32) σ)) → X25 v_1 σ) →
  (∀ (v_1 : Int32) (v_2 : Int32) (σ : gs_St), (((σ.1 0) ≤ v_2 → ∀ v3 : Int32, v3 = v_1 + 1 → X25 v3 σ) ∧ (¬ ((σ.1 0) ≤ v_2) → C_Mo_leastBut v_2 (-1 : Int32) σ (fun r5 σ4 => vp_in v_2 24 ∧ (vp_in v_2 24 ∧ (vp_in (σ4.2.1 0 v_2.toNatClampNeg) 8 ∧ (((σ4.2.2 0 (σ4.2.1 0 v_2.toNatClampNeg).toNatClampNeg) ≤ r5 → vp_in v_2 24 ∧ (vp_in (σ4.2.1 0 v_2.toNatClampNeg) 8 ∧ (vp_in (σ4.2.1 0 v_2.toNatClampNeg) 8 ∧ ∀ σ6 : gs_St, σ6 = gs_L σ4 0 (vp_updL (σ4.2.2 0) (σ4.2.1 0 v_2.toNatClampNeg).toNatClampNeg (σ4.2.2 0 (σ4.2.1 0 v_2.toNatClampNeg).toNatClampNeg)) → ∀ v7 : Int32, v7 = v_2 + 1 → X33 v_1 v7 σ6))) ∧ (¬ ((σ4.2.2 0 (σ4.2.1 0 v_2.toNatClampNeg).toNatClampNeg) ≤ r5) → vp_in (σ4.2.1 0 v_2.toNatClampNeg) 8 ∧ ∀ σ8 : gs_St, σ8 = gs_L σ4 0 (vp_updL (σ4.2.2 0) (σ4.2.1 0 v_2.toNatClampNeg).toNatClampNeg r5) → ∀ v9 : Int32, v9 = v_2 + 1 → X33 v_1 v9 σ8))))))) → X33 v_1 v_2 σ) →
  (X2 (0 : Int32) σ)
def C_Mo_shortest (a0 : Int32) (σ : gs_St) (K : Int32 → gs_St → Prop) : Prop :=
  (C_Mo_isNonterminal a0 σ (fun r2 σ1 => (¬ r2 = 0 → C_Mo_shorten σ1 (fun σ3 => vp_in a0 8 ∧ (((1152921504606846976 : Int64) ≤ (σ3.2.2 0 a0.toNatClampNeg) → K (-1 : Int32) σ3) ∧ (¬ ((1152921504606846976 : Int64) ≤ (σ3.2.2 0 a0.toNatClampNeg)) → vp_in a0 8 ∧ (K ((σ3.2.2 0 a0.toNatClampNeg).toInt32) σ3))))) ∧ (¬ (¬ r2 = 0) → K (-1 : Int32) σ1)))
def C_Mo_shortestWith (a0 : Int32) (σ : gs_St) (K : Int32 → gs_St → Prop) : Prop :=
  ∀ X16 : Int32 → Int32 → gs_St → Prop,
  ∀ X56 : Int32 → gs_St → Prop,
  ∀ X64 : Int32 → Int32 → gs_St → Prop,
  ∀ X75 : Int32 → Int32 → Int32 → gs_St → Prop,
  (∀ (v_1 : Int32) (v_2 : Int32) (σ : gs_St), (((8 : Int32) ≤ v_2 → vp_in v_1 24 ∧ (C_Mo_leastBut v_1 (-1 : Int32) σ (fun r5 σ4 => vp_in (σ.2.1 0 v_1.toNatClampNeg) 8 ∧ ∀ σ6 : gs_St, σ6 = gs_L σ4 1 (vp_updL (σ4.2.2 1) (σ.2.1 0 v_1.toNatClampNeg).toNatClampNeg r5) → X56 (0 : Int32) σ6))) ∧ (¬ ((8 : Int32) ≤ v_2) → vp_in v_2 8 ∧ ∀ σ7 : gs_St, σ7 = gs_L σ 1 (vp_updL (σ.2.2 1) v_2.toNatClampNeg (1152921504606846976 : Int64)) → ∀ v8 : Int32, v8 = v_2 + 1 → X16 v_1 v8 σ7)) → X16 v_1 v_2 σ) →
  (∀ (v_2 : Int32) (σ : gs_St), (((8 : Int32) ≤ v_2 → vp_in (0 : Int32) 8 ∧ (((1152921504606846976 : Int64) ≤ (σ.2.2 1 (0 : Int32).toNatClampNeg) → K (-1 : Int32) σ) ∧ (¬ ((1152921504606846976 : Int64) ≤ (σ.2.2 1 (0 : Int32).toNatClampNeg)) → vp_in (0 : Int32) 8 ∧ (K ((σ.2.2 1 (0 : Int32).toNatClampNeg).toInt32) σ)))) ∧ (¬ ((8 : Int32) ≤ v_2) → X64 v_2 (0 : Int32) σ)) → X56 v_2 σ) →
  (∀ (v_2 : Int32) (v_3 : Int32) (σ : gs_St), (((σ.1 0) ≤ v_3 → ∀ v9 : Int32, v9 = v_2 + 1 → X56 v9 σ) ∧ (¬ ((σ.1 0) ≤ v_3) → X75 v_2 v_3 (0 : Int32) σ)) → X64 v_2 v_3 σ) →
  (∀ (v_2 : Int32) (v_3 : Int32) (v_4 : Int32) (σ : gs_St), (vp_in v_3 24 ∧ (((σ.2.1 1 v_3.toNatClampNeg) ≤ v_4 → ∀ v10 : Int32, v10 = v_3 + 1 → X64 v_2 v10 σ) ∧ (¬ ((σ.2.1 1 v_3.toNatClampNeg) ≤ v_4) → C_Mo_at v_3 v_4 σ (fun r12 σ11 => C_Mo_isNonterminal r12 σ11 (fun r14 σ13 => (r14 = 0 → ∀ v15 : Int32, v15 = v_4 + 1 → X75 v_2 v_3 v15 σ13) ∧ (¬ (r14 = 0) → C_Mo_leastBut v_3 v_4 σ13 (fun r17 σ16 => C_Mo_at v_3 v_4 σ16 (fun r19 σ18 => vp_in r19 8 ∧ (∀ v20 : Int64, v20 = r17 + (σ18.2.2 1 r19.toNatClampNeg) → vp_in v_3 24 ∧ (vp_in v_3 24 ∧ (vp_in (σ18.2.1 0 v_3.toNatClampNeg) 8 ∧ (((σ18.2.2 1 (σ18.2.1 0 v_3.toNatClampNeg).toNatClampNeg) ≤ v20 → vp_in v_3 24 ∧ (vp_in (σ18.2.1 0 v_3.toNatClampNeg) 8 ∧ (vp_in (σ18.2.1 0 v_3.toNatClampNeg) 8 ∧ ∀ σ21 : gs_St, σ21 = gs_L σ18 1 (vp_updL (σ18.2.2 1) (σ18.2.1 0 v_3.toNatClampNeg).toNatClampNeg (σ18.2.2 1 (σ18.2.1 0 v_3.toNatClampNeg).toNatClampNeg)) → ∀ v22 : Int32, v22 = v_4 + 1 → X75 v_2 v_3 v22 σ21))) ∧ (¬ ((σ18.2.2 1 (σ18.2.1 0 v_3.toNatClampNeg).toNatClampNeg) ≤ v20) → vp_in (σ18.2.1 0 v_3.toNatClampNeg) 8 ∧ ∀ σ23 : gs_St, σ23 = gs_L σ18 1 (vp_updL (σ18.2.2 1) (σ18.2.1 0 v_3.toNatClampNeg).toNatClampNeg v20) → ∀ v24 : Int32, v24 = v_4 + 1 → X75 v_2 v_3 v24 σ23))))))))))))) → X75 v_2 v_3 v_4 σ) →
  (C_Mo_isRule a0 σ (fun r2 σ1 => (¬ r2 = 0 → C_Mo_shorten σ1 (fun σ3 => X16 a0 (0 : Int32) σ3)) ∧ (¬ (¬ r2 = 0) → K (-1 : Int32) σ1)))
def C_Mo_isEmpty (a0 : Int32) (σ : gs_St) (K : Int32 → gs_St → Prop) : Prop :=
  (C_Mo_isNonterminal a0 σ (fun r2 σ1 => (r2 = 0 → K (0 : Int32) σ1) ∧ (¬ (r2 = 0) → vp_in a0 8 ∧ (((σ1.2.1 7 a0.toNatClampNeg) = 0 → K (0 : Int32) σ1) ∧ (¬ ((σ1.2.1 7 a0.toNatClampNeg) = 0) → K (1 : Int32) σ1)))))
def C_Mo_allEmpty (a0 : Int32) (a1 : Int32) (σ : gs_St) (K : Int32 → gs_St → Prop) : Prop :=
  ∀ X5 : Int32 → Int32 → Int32 → Int32 → gs_St → Prop,
  (∀ (v_1 : Int32) (v_2 : Int32) (v_3 : Int32) (v_4 : Int32) (σ : gs_St), (vp_in v_1 24 ∧ (((σ.2.1 1 v_1.toNatClampNeg) ≤ v_4 → (v_3 = 0 ∨ v_3 = 1) ∧ K v_3 σ) ∧ (¬ ((σ.2.1 1 v_1.toNatClampNeg) ≤ v_4) → (v_3 = 0 → ∀ v1 : Int32, v1 = v_4 + 1 → X5 v_1 v_2 (0 : Int32) v1 σ) ∧ (¬ (v_3 = 0) → (v_4 = v_2 → ∀ v2 : Int32, v2 = v_4 + 1 → X5 v_1 v_2 (1 : Int32) v2 σ) ∧ (¬ (v_4 = v_2) → C_Mo_at v_1 v_4 σ (fun r4 σ3 => C_Mo_isEmpty r4 σ3 (fun r6 σ5 => (r6 = 0 → ∀ v7 : Int32, v7 = v_4 + 1 → X5 v_1 v_2 (0 : Int32) v7 σ5) ∧ (¬ (r6 = 0) → ∀ v8 : Int32, v8 = v_4 + 1 → X5 v_1 v_2 (1 : Int32) v8 σ5)))))))) → X5 v_1 v_2 v_3 v_4 σ) →
  (X5 a0 a1 (1 : Int32) (0 : Int32) σ)
def C_Mo_circle (σ : gs_St) (K : Int32 → gs_St → Prop) : Prop :=
  ∀ X2 : Int32 → gs_St → Prop,
  ∀ X23 : Int32 → gs_St → Prop,
  ∀ X31 : Int32 → Int32 → gs_St → Prop,
  ∀ X92 : Int32 → gs_St → Prop,
  ∀ X113 : Int32 → gs_St → Prop,
  ∀ X123 : Int32 → Int32 → gs_St → Prop,
  ∀ X190 : Int32 → gs_St → Prop,
  ∀ X198 : Int32 → Int32 → gs_St → Prop,
  ∀ X274 : Int32 → Int32 → gs_St → Prop,
  (∀ (v_1 : Int32) (σ : gs_St), (((8 : Int32) ≤ v_1 → X23 (0 : Int32) σ) ∧ (¬ ((8 : Int32) ≤ v_1) → vp_in v_1 8 ∧ ∀ σ1 : gs_St, σ1 = gs_A σ 7 (upd (σ.2.1 7) v_1.toNatClampNeg (vp_nar .boolean (0 : Int32))) → ∀ v2 : Int32, v2 = v_1 + 1 → X2 v2 σ1)) → X2 v_1 σ) →
  (∀ (v_1 : Int32) (σ : gs_St), (((8 : Int32) ≤ v_1 → X92 (0 : Int32) σ) ∧ (¬ ((8 : Int32) ≤ v_1) → X31 v_1 (0 : Int32) σ)) → X23 v_1 σ) →
  (∀ (v_1 : Int32) (v_2 : Int32) (σ : gs_St), (((σ.1 0) ≤ v_2 → ∀ v3 : Int32, v3 = v_1 + 1 → X23 v3 σ) ∧ (¬ ((σ.1 0) ≤ v_2) → vp_in v_2 24 ∧ (vp_in v_2 24 ∧ (vp_in (σ.2.1 0 v_2.toNatClampNeg) 8 ∧ ((¬ (σ.2.1 7 (σ.2.1 0 v_2.toNatClampNeg).toNatClampNeg) = 0 → vp_in (σ.2.1 0 v_2.toNatClampNeg) 8 ∧ ∀ σ4 : gs_St, σ4 = gs_A σ 7 (upd (σ.2.1 7) (σ.2.1 0 v_2.toNatClampNeg).toNatClampNeg (vp_nar .boolean (1 : Int32))) → ∀ v5 : Int32, v5 = v_2 + 1 → X31 v_1 v5 σ4) ∧ (¬ (¬ (σ.2.1 7 (σ.2.1 0 v_2.toNatClampNeg).toNatClampNeg) = 0) → C_Mo_allEmpty v_2 (-1 : Int32) σ (fun r7 σ6 => (r7 = 0 → vp_in (σ.2.1 0 v_2.toNatClampNeg) 8 ∧ ∀ σ8 : gs_St, σ8 = gs_A σ6 7 (upd (σ6.2.1 7) (σ.2.1 0 v_2.toNatClampNeg).toNatClampNeg (vp_nar .boolean (0 : Int32))) → ∀ v9 : Int32, v9 = v_2 + 1 → X31 v_1 v9 σ8) ∧ (¬ (r7 = 0) → vp_in (σ.2.1 0 v_2.toNatClampNeg) 8 ∧ ∀ σ10 : gs_St, σ10 = gs_A σ6 7 (upd (σ6.2.1 7) (σ.2.1 0 v_2.toNatClampNeg).toNatClampNeg (vp_nar .boolean (1 : Int32))) → ∀ v11 : Int32, v11 = v_2 + 1 → X31 v_1 v11 σ10)))))))) → X31 v_1 v_2 σ) →
  (∀ (v_1 : Int32) (σ : gs_St), (((64 : Int32) ≤ v_1 → X113 (0 : Int32) σ) ∧ (¬ ((64 : Int32) ≤ v_1) → vp_in v_1 64 ∧ ∀ σ12 : gs_St, σ12 = gs_A σ 8 (upd (σ.2.1 8) v_1.toNatClampNeg (vp_nar .boolean (0 : Int32))) → ∀ v13 : Int32, v13 = v_1 + 1 → X92 v13 σ12)) → X92 v_1 σ) →
  (∀ (v_1 : Int32) (σ : gs_St), (((σ.1 0) ≤ v_1 → X190 (0 : Int32) σ) ∧ (¬ ((σ.1 0) ≤ v_1) → X123 v_1 (0 : Int32) σ)) → X113 v_1 σ) →
  (∀ (v_1 : Int32) (v_2 : Int32) (σ : gs_St), (vp_in v_1 24 ∧ (((σ.2.1 1 v_1.toNatClampNeg) ≤ v_2 → ∀ v14 : Int32, v14 = v_1 + 1 → X113 v14 σ) ∧ (¬ ((σ.2.1 1 v_1.toNatClampNeg) ≤ v_2) → C_Mo_at v_1 v_2 σ (fun r16 σ15 => C_Mo_isNonterminal r16 σ15 (fun r18 σ17 => (r18 = 0 → ∀ v19 : Int32, v19 = v_2 + 1 → X123 v_1 v19 σ17) ∧ (¬ (r18 = 0) → C_Mo_allEmpty v_1 v_2 σ17 (fun r21 σ20 => (r21 = 0 → ∀ v22 : Int32, v22 = v_2 + 1 → X123 v_1 v22 σ20) ∧ (¬ (r21 = 0) → vp_in v_1 24 ∧ (C_Mo_at v_1 v_2 σ20 (fun r24 σ23 => vp_in (((8 : Int32) * (σ20.2.1 0 v_1.toNatClampNeg)) + r24) 64 ∧ ∀ σ25 : gs_St, σ25 = gs_A σ23 8 (upd (σ23.2.1 8) (((8 : Int32) * (σ20.2.1 0 v_1.toNatClampNeg)) + r24).toNatClampNeg (vp_nar .boolean (1 : Int32))) → ∀ v26 : Int32, v26 = v_2 + 1 → X123 v_1 v26 σ25)))))))))) → X123 v_1 v_2 σ) →
  (∀ (v_1 : Int32) (σ : gs_St), (((8 : Int32) ≤ v_1 → X274 (0 : Int32) (0 : Int32) σ) ∧ (¬ ((8 : Int32) ≤ v_1) → X198 v_1 (0 : Int32) σ)) → X190 v_1 σ) →
  (∀ (v_1 : Int32) (v_2 : Int32) (σ : gs_St), (((64 : Int32) ≤ v_2 → ∀ v27 : Int32, v27 = v_1 + 1 → X190 v27 σ) ∧ (¬ ((64 : Int32) ≤ v_2) → vp_in v_2 64 ∧ ((¬ (σ.2.1 8 v_2.toNatClampNeg) = 0 → vp_in v_2 64 ∧ ∀ σ28 : gs_St, σ28 = gs_A σ 8 (upd (σ.2.1 8) v_2.toNatClampNeg (vp_nar .boolean (1 : Int32))) → ∀ v29 : Int32, v29 = v_2 + 1 → X198 v_1 v29 σ28) ∧ (¬ (¬ (σ.2.1 8 v_2.toNatClampNeg) = 0) → ¬ (8 : Int32) = 0 ∧ (vp_in (((v_2 / (8 : Int32)) * (8 : Int32)) + v_1) 64 ∧ (((σ.2.1 8 (((v_2 / (8 : Int32)) * (8 : Int32)) + v_1).toNatClampNeg) = 0 → vp_in v_2 64 ∧ ∀ σ30 : gs_St, σ30 = gs_A σ 8 (upd (σ.2.1 8) v_2.toNatClampNeg (vp_nar .boolean (0 : Int32))) → ∀ v31 : Int32, v31 = v_2 + 1 → X198 v_1 v31 σ30) ∧ (¬ ((σ.2.1 8 (((v_2 / (8 : Int32)) * (8 : Int32)) + v_1).toNatClampNeg) = 0) → ¬ (8 : Int32) = 0 ∧ (vp_in (((8 : Int32) * v_1) + (v_2 - v_2 / (8 : Int32) * (8 : Int32))) 64 ∧ (((σ.2.1 8 (((8 : Int32) * v_1) + (v_2 - v_2 / (8 : Int32) * (8 : Int32))).toNatClampNeg) = 0 → vp_in v_2 64 ∧ ∀ σ32 : gs_St, σ32 = gs_A σ 8 (upd (σ.2.1 8) v_2.toNatClampNeg (vp_nar .boolean (0 : Int32))) → ∀ v33 : Int32, v33 = v_2 + 1 → X198 v_1 v33 σ32) ∧ (¬ ((σ.2.1 8 (((8 : Int32) * v_1) + (v_2 - v_2 / (8 : Int32) * (8 : Int32))).toNatClampNeg) = 0) → vp_in v_2 64 ∧ ∀ σ34 : gs_St, σ34 = gs_A σ 8 (upd (σ.2.1 8) v_2.toNatClampNeg (vp_nar .boolean (1 : Int32))) → ∀ v35 : Int32, v35 = v_2 + 1 → X198 v_1 v35 σ34)))))))))) → X198 v_1 v_2 σ) →
  (∀ (v_1 : Int32) (v_2 : Int32) (σ : gs_St), (((8 : Int32) ≤ v_2 → (v_1 = 0 ∨ v_1 = 1) ∧ K v_1 σ) ∧ (¬ ((8 : Int32) ≤ v_2) → (¬ v_1 = 0 → ∀ v36 : Int32, v36 = v_2 + 1 → X274 (1 : Int32) v36 σ) ∧ (¬ (¬ v_1 = 0) → vp_in ((9 : Int32) * v_2) 64 ∧ (((σ.2.1 8 ((9 : Int32) * v_2).toNatClampNeg) = 0 → ∀ v37 : Int32, v37 = v_2 + 1 → X274 (0 : Int32) v37 σ) ∧ (¬ ((σ.2.1 8 ((9 : Int32) * v_2).toNatClampNeg) = 0) → ∀ v38 : Int32, v38 = v_2 + 1 → X274 (1 : Int32) v38 σ))))) → X274 v_1 v_2 σ) →
  (X2 (0 : Int32) σ)
def C_Mo_isLength (a0 : Int32) (σ : gs_St) (K : Int32 → gs_St → Prop) : Prop :=
  ((a0 < 0 → K (0 : Int32) σ) ∧ (¬ (a0 < 0) → ((17 : Int32) ≤ a0 → K (0 : Int32) σ) ∧ (¬ ((17 : Int32) ≤ a0) → K (1 : Int32) σ)))
def C_Mo_of (a0 : Int32) (a1 : Int32) (σ : gs_St) (K : Int64 → gs_St → Prop) : Prop :=
  (C_Mo_isNonterminal a0 σ (fun r2 σ1 => (r2 = 0 → (¬ a1 = (1 : Int32) → K (0 : Int64) σ1) ∧ (¬ (¬ a1 = (1 : Int32)) → K (1 : Int64) σ1)) ∧ (¬ (r2 = 0) → vp_in (((17 : Int32) * a0) + a1) 136 ∧ (K (σ1.2.2 2 (((17 : Int32) * a0) + a1).toNatClampNeg) σ1))))
def C_Mo_product (a0 : Int64) (a1 : Int64) (σ : gs_St) (K : Int64 → gs_St → Prop) : Prop :=
  ((a0 = (0 : Int64) → K (0 : Int64) σ) ∧ (¬ (a0 = (0 : Int64)) → (¬ a1 = (0 : Int64) → ¬ a1 = 0 ∧ ((a0 ≤ ((1000000000000000000 : Int64) / a1) → K (a0 * a1) σ) ∧ (¬ (a0 ≤ ((1000000000000000000 : Int64) / a1)) → K (1000000000000000001 : Int64) σ))) ∧ (¬ (¬ a1 = (0 : Int64)) → K (0 : Int64) σ)))
def C_Mo_sum (a0 : Int64) (a1 : Int64) (σ : gs_St) (K : Int64 → gs_St → Prop) : Prop :=
  (((a0 + a1) ≤ (1000000000000000000 : Int64) → K (a0 + a1) σ) ∧ (¬ ((a0 + a1) ≤ (1000000000000000000 : Int64)) → K (1000000000000000001 : Int64) σ))
def C_Mo_fill (a0 : Int32) (a1 : Int32) (σ : gs_St) (K : gs_St → Prop) : Prop :=
  ∀ X2 : Int32 → Int32 → Int32 → gs_St → Prop,
  ∀ X47 : Int32 → Int32 → Int32 → gs_St → Prop,
  ∀ X54 : Int32 → Int32 → Int32 → Int32 → gs_St → Prop,
  ∀ X66 : Int32 → Int32 → Int32 → Int32 → Int64 → Int32 → gs_St → Prop,
  (∀ (v_1 : Int32) (v_2 : Int32) (v_3 : Int32) (σ : gs_St), ((v_2 < v_3 → vp_in v_1 24 ∧ (∀ v1 : Int32, v1 = (σ.2.1 1 v_1.toNatClampNeg) - (1 : Int32) → X47 v_1 v_2 v1 σ)) ∧ (¬ (v_2 < v_3) → vp_in v_1 24 ∧ ((¬ v_3 = 0 → vp_in (((17 : Int32) * (σ.2.1 1 v_1.toNatClampNeg)) + v_3) 119 ∧ ∀ σ2 : gs_St, σ2 = gs_L σ 3 (vp_updL (σ.2.2 3) (((17 : Int32) * (σ.2.1 1 v_1.toNatClampNeg)) + v_3).toNatClampNeg (0 : Int64)) → ∀ v3 : Int32, v3 = v_3 + 1 → X2 v_1 v_2 v3 σ2) ∧ (¬ (¬ v_3 = 0) → vp_in (((17 : Int32) * (σ.2.1 1 v_1.toNatClampNeg)) + v_3) 119 ∧ ∀ σ4 : gs_St, σ4 = gs_L σ 3 (vp_updL (σ.2.2 3) (((17 : Int32) * (σ.2.1 1 v_1.toNatClampNeg)) + v_3).toNatClampNeg (1 : Int64)) → ∀ v5 : Int32, v5 = v_3 + 1 → X2 v_1 v_2 v5 σ4)))) → X2 v_1 v_2 v_3 σ) →
  (∀ (v_1 : Int32) (v_2 : Int32) (v_3 : Int32) (σ : gs_St), ((v_3 < 0 → K σ) ∧ (¬ (v_3 < 0) → X54 v_1 v_2 v_3 (0 : Int32) σ)) → X47 v_1 v_2 v_3 σ) →
  (∀ (v_1 : Int32) (v_2 : Int32) (v_3 : Int32) (v_4 : Int32) (σ : gs_St), ((v_2 < v_4 → ∀ v6 : Int32, v6 = v_3 + (-1) → X47 v_1 v_2 v6 σ) ∧ (¬ (v_2 < v_4) → X66 v_1 v_2 v_3 v_4 (0 : Int64) (0 : Int32) σ)) → X54 v_1 v_2 v_3 v_4 σ) →
  (∀ (v_1 : Int32) (v_2 : Int32) (v_3 : Int32) (v_4 : Int32) (v_5 : Int64) (v_7 : Int32) (σ : gs_St), ((v_4 < v_7 → vp_in (((17 : Int32) * v_3) + v_4) 119 ∧ ∀ σ7 : gs_St, σ7 = gs_L σ 3 (vp_updL (σ.2.2 3) (((17 : Int32) * v_3) + v_4).toNatClampNeg v_5) → ∀ v8 : Int32, v8 = v_4 + 1 → X54 v_1 v_2 v_3 v8 σ7) ∧ (¬ (v_4 < v_7) → C_Mo_at v_1 v_3 σ (fun r10 σ9 => C_Mo_of r10 v_7 σ9 (fun r12 σ11 => vp_in (((((17 : Int32) * v_3) + (17 : Int32)) + v_4) - v_7) 119 ∧ (C_Mo_product r12 (σ11.2.2 3 (((((17 : Int32) * v_3) + (17 : Int32)) + v_4) - v_7).toNatClampNeg) σ11 (fun r14 σ13 => C_Mo_sum v_5 r14 σ13 (fun r16 σ15 => ∀ v17 : Int32, v17 = v_7 + 1 → X66 v_1 v_2 v_3 v_4 r16 v17 σ15))))))) → X66 v_1 v_2 v_3 v_4 v_5 v_7 σ) →
  (X2 a0 a1 (0 : Int32) σ)
def C_Mo_reckon (a0 : Int32) (σ : gs_St) (K : gs_St → Prop) : Prop :=
  ∀ X28 : Int32 → Int32 → gs_St → Prop,
  ∀ X50 : Int32 → Int32 → gs_St → Prop,
  ∀ X61 : Int32 → Int32 → Int32 → Int32 → gs_St → Prop,
  ∀ X77 : Int32 → Int32 → Int32 → Int32 → Int32 → gs_St → Prop,
  ∀ X90 : Int32 → Int32 → Int32 → Int32 → Int32 → Int64 → Int32 → gs_St → Prop,
  (∀ (v_1 : Int32) (v_2 : Int32) (σ : gs_St), (((136 : Int32) ≤ v_2 → X50 v_1 (0 : Int32) σ) ∧ (¬ ((136 : Int32) ≤ v_2) → vp_in v_2 136 ∧ ∀ σ5 : gs_St, σ5 = gs_L σ 2 (vp_updL (σ.2.2 2) v_2.toNatClampNeg (0 : Int64)) → ∀ v6 : Int32, v6 = v_2 + 1 → X28 v_1 v6 σ5)) → X28 v_1 v_2 σ) →
  (∀ (v_1 : Int32) (v_2 : Int32) (σ : gs_St), (((17 : Int32) ≤ v_2 → K σ) ∧ (¬ ((17 : Int32) ≤ v_2) → X61 v_1 v_2 (1 : Int32) (0 : Int32) σ)) → X50 v_1 v_2 σ) →
  (∀ (v_1 : Int32) (v_2 : Int32) (v_3 : Int32) (v_4 : Int32) (σ : gs_St), (((10 : Int32) ≤ v_4 → ∀ v7 : Int32, v7 = v_2 + 1 → X50 v_1 v7 σ) ∧ (¬ ((10 : Int32) ≤ v_4) → (v_3 = 0 → ∀ v8 : Int32, v8 = v_2 + 1 → X50 v_1 v8 σ) ∧ (¬ (v_3 = 0) → X77 v_1 v_2 (0 : Int32) v_4 (0 : Int32) σ))) → X61 v_1 v_2 v_3 v_4 σ) →
  (∀ (v_1 : Int32) (v_2 : Int32) (v_3 : Int32) (v_4 : Int32) (v_5 : Int32) (σ : gs_St), (((8 : Int32) ≤ v_5 → ∀ v9 : Int32, v9 = v_4 + 1 → X61 v_1 v_2 v_3 v9 σ) ∧ (¬ ((8 : Int32) ≤ v_5) → X90 v_1 v_2 v_3 v_4 v_5 (0 : Int64) (0 : Int32) σ)) → X77 v_1 v_2 v_3 v_4 v_5 σ) →
  (∀ (v_1 : Int32) (v_2 : Int32) (v_3 : Int32) (v_4 : Int32) (v_5 : Int32) (v_6 : Int64) (v_8 : Int32) (σ : gs_St), (((σ.1 0) ≤ v_8 → (¬ v_3 = 0 → vp_in (((17 : Int32) * v_5) + v_2) 136 ∧ ∀ σ10 : gs_St, σ10 = gs_L σ 2 (vp_updL (σ.2.2 2) (((17 : Int32) * v_5) + v_2).toNatClampNeg v_6) → ∀ v11 : Int32, v11 = v_5 + 1 → X77 v_1 v_2 (1 : Int32) v_4 v11 σ10) ∧ (¬ (¬ v_3 = 0) → vp_in (((17 : Int32) * v_5) + v_2) 136 ∧ ((v_6 = (σ.2.2 2 (((17 : Int32) * v_5) + v_2).toNatClampNeg) → vp_in (((17 : Int32) * v_5) + v_2) 136 ∧ ∀ σ12 : gs_St, σ12 = gs_L σ 2 (vp_updL (σ.2.2 2) (((17 : Int32) * v_5) + v_2).toNatClampNeg v_6) → ∀ v13 : Int32, v13 = v_5 + 1 → X77 v_1 v_2 (0 : Int32) v_4 v13 σ12) ∧ (¬ (v_6 = (σ.2.2 2 (((17 : Int32) * v_5) + v_2).toNatClampNeg)) → vp_in (((17 : Int32) * v_5) + v_2) 136 ∧ ∀ σ14 : gs_St, σ14 = gs_L σ 2 (vp_updL (σ.2.2 2) (((17 : Int32) * v_5) + v_2).toNatClampNeg v_6) → ∀ v15 : Int32, v15 = v_5 + 1 → X77 v_1 v_2 (1 : Int32) v_4 v15 σ14)))) ∧ (¬ ((σ.1 0) ≤ v_8) → vp_in v_8 24 ∧ ((¬ (σ.2.1 0 v_8.toNatClampNeg) = v_5 → ∀ v16 : Int32, v16 = v_8 + 1 → X90 v_1 v_2 v_3 v_4 v_5 v_6 v16 σ) ∧ (¬ (¬ (σ.2.1 0 v_8.toNatClampNeg) = v_5) → (v_8 = v_1 → ∀ v17 : Int32, v17 = v_8 + 1 → X90 v_1 v_2 v_3 v_4 v_5 v_6 v17 σ) ∧ (¬ (v_8 = v_1) → C_Mo_fill v_8 v_2 σ (fun σ18 => vp_in v_2 119 ∧ (C_Mo_sum v_6 (σ18.2.2 3 v_2.toNatClampNeg) σ18 (fun r20 σ19 => ∀ v21 : Int32, v21 = v_8 + 1 → X90 v_1 v_2 v_3 v_4 v_5 r20 v21 σ19)))))))) → X90 v_1 v_2 v_3 v_4 v_5 v_6 v_8 σ) →
  (((σ.1 5) = 0 → ∀ σ1 : gs_St, σ1 = gs_I σ 5 (1 : Int32) → ∀ σ2 : gs_St, σ2 = gs_I σ1 6 a0 → X28 a0 (0 : Int32) σ2) ∧ (¬ ((σ.1 5) = 0) → (¬ (σ.1 6) = a0 → ∀ σ3 : gs_St, σ3 = gs_I σ 5 (1 : Int32) → ∀ σ4 : gs_St, σ4 = gs_I σ3 6 a0 → X28 a0 (0 : Int32) σ4) ∧ (¬ (¬ (σ.1 6) = a0) → K σ)))
def C_Mo_trees (a0 : Int32) (a1 : Int32) (σ : gs_St) (K : Int64 → gs_St → Prop) : Prop :=
  (C_Mo_isNonterminal a0 σ (fun r2 σ1 => (r2 = 0 → K (-1 : Int64) σ1) ∧ (¬ (r2 = 0) → C_Mo_isLength a1 σ1 (fun r4 σ3 => (r4 = 0 → K (-1 : Int64) σ3) ∧ (¬ (r4 = 0) → C_Mo_circle σ3 (fun r6 σ5 => (r6 = 0 → C_Mo_reckon (-1 : Int32) σ5 (fun σ7 => C_Mo_of a0 a1 σ7 (fun r9 σ8 => (r9 ≤ (1000000000000000000 : Int64) → K r9 σ8) ∧ (¬ (r9 ≤ (1000000000000000000 : Int64)) → K (-2 : Int64) σ8)))) ∧ (¬ (r6 = 0) → K (-1 : Int64) σ5)))))))
def C_Mo_treesWith (a0 : Int32) (a1 : Int32) (σ : gs_St) (K : Int64 → gs_St → Prop) : Prop :=
  (C_Mo_isRule a0 σ (fun r2 σ1 => (r2 = 0 → K (-1 : Int64) σ1) ∧ (¬ (r2 = 0) → C_Mo_isLength a1 σ1 (fun r4 σ3 => (r4 = 0 → K (-1 : Int64) σ3) ∧ (¬ (r4 = 0) → C_Mo_circle σ3 (fun r6 σ5 => (r6 = 0 → C_Mo_trees (0 : Int32) a1 σ5 (fun r8 σ7 => ((0 : Int64) ≤ r8 → C_Mo_reckon a0 σ7 (fun σ9 => C_Mo_of (0 : Int32) a1 σ9 (fun r11 σ10 => K (r8 - r11) σ10))) ∧ (¬ ((0 : Int64) ≤ r8) → K r8 σ7))) ∧ (¬ (r6 = 0) → K (-1 : Int64) σ5)))))))
def C_Mo_put (a0 : Int32) (a1 : Int32) (a2 : Int64) (σ : gs_St) (K : gs_St → Prop) : Prop :=
  (vp_in (σ.1 7) 1300 ∧ ∀ σ1 : gs_St, σ1 = gs_A σ 9 (upd (σ.2.1 9) (σ.1 7).toNatClampNeg a0) → vp_in (σ1.1 7) 1300 ∧ ∀ σ2 : gs_St, σ2 = gs_A σ1 10 (upd (σ1.2.1 10) (σ1.1 7).toNatClampNeg a1) → vp_in (σ2.1 7) 1300 ∧ ∀ σ3 : gs_St, σ3 = gs_L σ2 4 (vp_updL (σ2.2.2 4) (σ2.1 7).toNatClampNeg a2) → ∀ σ4 : gs_St, σ4 = gs_I σ3 7 ((σ3.1 7) + (1 : Int32)) → K σ4)
def C_Mo_split (a0 : Int32) (a1 : Int32) (a2 : Int64) (σ : gs_St) (K : Int32 → gs_St → Prop) : Prop :=
  ∀ X9 : Int32 → Int32 → Int64 → Int32 → Int32 → gs_St → Prop,
  ∀ X52 : Int32 → Int32 → Int64 → Int32 → Int64 → gs_St → Prop,
  ∀ X91 : Int64 → Int32 → Int32 → Int32 → gs_St → Prop,
  ∀ X140 : Int64 → Int32 → Int32 → Int32 → Int32 → Int64 → gs_St → Prop,
  ∀ X206 : Int64 → Int32 → Int32 → Int32 → Int32 → gs_St → Prop,
  ∀ X276 : Int32 → Int32 → gs_St → Prop,
  (∀ (v_1 : Int32) (v_2 : Int32) (v_5 : Int64) (v_7 : Int32) (v_8 : Int32) (σ : gs_St), ((¬ v_8 = 0 → X91 v_5 v_7 v_2 (0 : Int32) σ) ∧ (¬ (¬ v_8 = 0) → ((σ.1 0) ≤ v_7 → X91 v_5 v_7 v_2 (0 : Int32) σ) ∧ (¬ ((σ.1 0) ≤ v_7) → vp_in v_7 24 ∧ ((¬ (σ.2.1 0 v_7.toNatClampNeg) = v_1 → X52 v_1 v_2 v_5 v_7 (0 : Int64) σ) ∧ (¬ (¬ (σ.2.1 0 v_7.toNatClampNeg) = v_1) → C_Mo_fill v_7 v_2 σ (fun σ1 => vp_in v_2 119 ∧ (∀ v2 : Int64, v2 = σ1.2.2 3 v_2.toNatClampNeg → X52 v_1 v_2 v_5 v_7 v2 σ1))))))) → X9 v_1 v_2 v_5 v_7 v_8 σ) →
  (∀ (v_1 : Int32) (v_2 : Int32) (v_5 : Int64) (v_7 : Int32) (v_9 : Int64) (σ : gs_St), ((v_9 ≤ v_5 → (¬ (0 : Int32) = 0 → X9 v_1 v_2 v_5 v_7 (0 : Int32) σ) ∧ (¬ (¬ (0 : Int32) = 0) → ∀ v3 : Int64, v3 = v_5 - v_9 → ∀ v4 : Int32, v4 = v_7 + 1 → X9 v_1 v_2 v3 v4 (0 : Int32) σ)) ∧ (¬ (v_9 ≤ v_5) → (¬ (1 : Int32) = 0 → X9 v_1 v_2 v_5 v_7 (1 : Int32) σ) ∧ (¬ (¬ (1 : Int32) = 0) → ∀ v5 : Int64, v5 = v_5 - v_9 → ∀ v6 : Int32, v6 = v_7 + 1 → X9 v_1 v_2 v5 v6 (1 : Int32) σ))) → X52 v_1 v_2 v_5 v_7 v_9 σ) →
  (∀ (v_5 : Int64) (v_7 : Int32) (v_9 : Int32) (v_10 : Int32) (σ : gs_St), (vp_in v_7 24 ∧ (((σ.2.1 1 v_7.toNatClampNeg) ≤ v_10 → vp_in v_7 24 ∧ (∀ v7 : Int32, v7 = (σ.2.1 1 v_7.toNatClampNeg) - (1 : Int32) → X276 v_7 v7 σ)) ∧ (¬ ((σ.2.1 1 v_7.toNatClampNeg) ≤ v_10) → C_Mo_at v_7 v_10 σ (fun r9 σ8 => C_Mo_of r9 (0 : Int32) σ8 (fun r11 σ10 => vp_in ((((17 : Int32) * v_10) + (17 : Int32)) + v_9) 119 ∧ (C_Mo_product r11 (σ10.2.2 3 ((((17 : Int32) * v_10) + (17 : Int32)) + v_9).toNatClampNeg) σ10 (fun r13 σ12 => X140 v_5 v_7 v_9 v_10 (0 : Int32) r13 σ12))))))) → X91 v_5 v_7 v_9 v_10 σ) →
  (∀ (v_5 : Int64) (v_7 : Int32) (v_9 : Int32) (v_10 : Int32) (v_11 : Int32) (v_12 : Int64) (σ : gs_St), ((v_5 < v_12 → X206 v_5 v_7 v_9 v_10 v_11 σ) ∧ (¬ (v_5 < v_12) → (v_9 ≤ v_11 → X206 v_5 v_7 v_9 v_10 v_11 σ) ∧ (¬ (v_9 ≤ v_11) → ∀ v14 : Int64, v14 = v_5 - v_12 → ∀ v15 : Int32, v15 = v_11 + 1 → C_Mo_at v_7 v_10 σ (fun r17 σ16 => C_Mo_of r17 v15 σ16 (fun r19 σ18 => vp_in (((((17 : Int32) * v_10) + (17 : Int32)) + v_9) - v15) 119 ∧ (C_Mo_product r19 (σ18.2.2 3 (((((17 : Int32) * v_10) + (17 : Int32)) + v_9) - v15).toNatClampNeg) σ18 (fun r21 σ20 => X140 v14 v_7 v_9 v_10 v15 r21 σ20))))))) → X140 v_5 v_7 v_9 v_10 v_11 v_12 σ) →
  (∀ (v_5 : Int64) (v_7 : Int32) (v_9 : Int32) (v_10 : Int32) (v_11 : Int32) (σ : gs_St), (∀ v22 : Int32, v22 = v_9 - v_11 → vp_in ((((17 : Int32) * v_10) + (17 : Int32)) + v22) 119 ∧ (∀ v23 : Int64, v23 = σ.2.2 3 ((((17 : Int32) * v_10) + (17 : Int32)) + v22).toNatClampNeg → vp_in v_10 6 ∧ ∀ σ24 : gs_St, σ24 = gs_A σ 13 (upd (σ.2.1 13) v_10.toNatClampNeg v_11) → ¬ v23 = 0 ∧ (vp_in v_10 6 ∧ ∀ σ25 : gs_St, σ25 = gs_L σ24 5 (vp_updL (σ24.2.2 5) v_10.toNatClampNeg (v_5 / v23)) → ¬ v23 = 0 ∧ (∀ v26 : Int64, v26 = v_5 - v_5 / v23 * v23 → ∀ v27 : Int32, v27 = v_10 + 1 → X91 v26 v_7 v22 v27 σ25)))) → X206 v_5 v_7 v_9 v_10 v_11 σ) →
  (∀ (v_7 : Int32) (v_10 : Int32) (σ : gs_St), ((v_10 < 0 → K v_7 σ) ∧ (¬ (v_10 < 0) → C_Mo_at v_7 v_10 σ (fun r29 σ28 => vp_in v_10 6 ∧ (vp_in v_10 6 ∧ (C_Mo_put r29 (σ28.2.1 13 v_10.toNatClampNeg) (σ28.2.2 5 v_10.toNatClampNeg) σ28 (fun σ30 => ∀ v31 : Int32, v31 = v_10 + (-1) → X276 v_7 v31 σ30)))))) → X276 v_7 v_10 σ) →
  (X9 a0 a1 a2 (0 : Int32) (0 : Int32) σ)
def C_Mo_draw (a0 : Int32) (a1 : Int32) (a2 : Int64) (σ : gs_St) (K : Int32 → gs_St → Prop) : Prop :=
  ∀ X48 : Int32 → Int32 → gs_St → Prop,
  ∀ X162 : Int32 → gs_St → Prop,
  ∀ X194 : Int32 → gs_St → Prop,
  (∀ (v_7 : Int32) (v_8 : Int32) (σ : gs_St), (((σ.1 7) ≤ 0 → ∀ σ5 : gs_St, σ5 = gs_I σ 3 v_7 → ∀ σ6 : gs_St, σ6 = gs_I σ5 4 v_8 → X162 (0 : Int32) σ6) ∧ (¬ ((σ.1 7) ≤ 0) → ∀ σ7 : gs_St, σ7 = gs_I σ 7 ((σ.1 7) - (1 : Int32)) → vp_in (σ7.1 7) 1300 ∧ (∀ v8 : Int32, v8 = σ7.2.1 9 (σ7.1 7).toNatClampNeg → C_Mo_isNonterminal v8 σ7 (fun r10 σ9 => (¬ r10 = 0 → (¬ v_7 = (200 : Int32) → vp_in (σ9.1 7) 1300 ∧ (vp_in (σ9.1 7) 1300 ∧ (C_Mo_split v8 (σ9.2.1 10 (σ9.1 7).toNatClampNeg) (σ9.2.2 4 (σ9.1 7).toNatClampNeg) σ9 (fun r12 σ11 => vp_in v_7 200 ∧ ∀ σ13 : gs_St, σ13 = gs_A σ11 11 (upd (σ11.2.1 11) v_7.toNatClampNeg r12) → ∀ v14 : Int32, v14 = v_7 + 1 → X48 v14 v_8 σ13)))) ∧ (¬ (¬ v_7 = (200 : Int32)) → K (-2 : Int32) σ9)) ∧ (¬ (¬ r10 = 0) → vp_in v_8 16 ∧ ∀ σ15 : gs_St, σ15 = gs_A σ9 12 (upd (σ9.2.1 12) v_8.toNatClampNeg v8) → ∀ v16 : Int32, v16 = v_8 + 1 → X48 v_7 v16 σ15))))) → X48 v_7 v_8 σ) →
  (∀ (v_9 : Int32) (σ : gs_St), (((σ.1 3) ≤ v_9 → X194 (0 : Int32) σ) ∧ (¬ ((σ.1 3) ≤ v_9) → vp_in v_9 200 ∧ (vp_in v_9 200 ∧ ∀ σ17 : gs_St, σ17 = gs_A σ 5 (upd (σ.2.1 5) v_9.toNatClampNeg (σ.2.1 11 v_9.toNatClampNeg)) → ∀ v18 : Int32, v18 = v_9 + 1 → X162 v18 σ17))) → X162 v_9 σ) →
  (∀ (v_9 : Int32) (σ : gs_St), (((σ.1 4) ≤ v_9 → K (σ.1 3) σ) ∧ (¬ ((σ.1 4) ≤ v_9) → vp_in v_9 16 ∧ (vp_in v_9 16 ∧ ∀ σ19 : gs_St, σ19 = gs_A σ 6 (upd (σ.2.1 6) v_9.toNatClampNeg (σ.2.1 12 v_9.toNatClampNeg)) → ∀ v20 : Int32, v20 = v_9 + 1 → X194 v20 σ19))) → X194 v_9 σ) →
  (C_Mo_trees a0 a1 σ (fun r2 σ1 => (r2 < (0 : Int64) → K (-1 : Int32) σ1) ∧ (¬ (r2 < (0 : Int64)) → (a2 < (0 : Int64) → K (-1 : Int32) σ1) ∧ (¬ (a2 < (0 : Int64)) → (a2 < r2 → ∀ σ3 : gs_St, σ3 = gs_I σ1 7 (0 : Int32) → C_Mo_put a0 a1 a2 σ3 (fun σ4 => X48 (0 : Int32) (0 : Int32) σ4)) ∧ (¬ (a2 < r2) → K (-1 : Int32) σ1)))))
def C_Mo_row (a0 : Int32) (σ : gs_St) (K : Int32 → gs_St → Prop) : Prop :=
  ((a0 < 0 → K (-1 : Int32) σ) ∧ (¬ (a0 < 0) → (a0 < (σ.1 3) → vp_in a0 200 ∧ (K (σ.2.1 5 a0.toNatClampNeg) σ)) ∧ (¬ (a0 < (σ.1 3)) → K (-1 : Int32) σ)))
def C_Mo_leaf (a0 : Int32) (σ : gs_St) (K : Int32 → gs_St → Prop) : Prop :=
  ((a0 < 0 → K (-1 : Int32) σ) ∧ (¬ (a0 < 0) → (a0 < (σ.1 4) → vp_in a0 16 ∧ (K (σ.2.1 6 a0.toNatClampNeg) σ)) ∧ (¬ (a0 < (σ.1 4)) → K (-1 : Int32) σ)))
def C_Mo_list (a0 : Int32) (σ : gs_St) (K : Int32 → gs_St → Prop) : Prop :=
  ((¬ (σ.1 2) = (200 : Int32) → vp_in (σ.1 2) 200 ∧ ∀ σ1 : gs_St, σ1 = gs_A σ 4 (upd (σ.2.1 4) (σ.1 2).toNatClampNeg a0) → ∀ σ2 : gs_St, σ2 = gs_I σ1 2 ((σ1.1 2) + (1 : Int32)) → K (σ2.1 2) σ2) ∧ (¬ (¬ (σ.1 2) = (200 : Int32)) → K (-1 : Int32) σ))
def C_Mo_join (a0 : Int32) (σ : gs_St) (K : Int32 → gs_St → Prop) : Prop :=
  ∀ X10 : Int32 → Int32 → Int32 → Int32 → gs_St → Prop,
  ∀ X130 : Int32 → Int32 → Int32 → Int64 → Int32 → gs_St → Prop,
  ∀ X190 : Int32 → Int32 → Int32 → Int64 → Int32 → Int32 → gs_St → Prop,
  ∀ X204 : Int32 → Int32 → Int32 → Int64 → Int32 → Int32 → Int32 → gs_St → Prop,
  (∀ (v_1 : Int32) (v_2 : Int32) (v_3 : Int32) (v_4 : Int32) (σ : gs_St), (vp_in v_1 24 ∧ (((σ.2.1 1 v_1.toNatClampNeg) ≤ v_4 → (v_2 < (17 : Int32) → X130 v_1 v_2 v_3 (0 : Int64) (0 : Int32) σ) ∧ (¬ (v_2 < (17 : Int32)) → K (0 : Int32) σ)) ∧ (¬ ((σ.2.1 1 v_1.toNatClampNeg) ≤ v_4) → C_Mo_at v_1 v_4 σ (fun r3 σ2 => vp_in v_4 6 ∧ ∀ σ4 : gs_St, σ4 = gs_A σ2 13 (upd (σ2.2.1 13) v_4.toNatClampNeg (1 : Int32)) → vp_in v_4 6 ∧ ∀ σ5 : gs_St, σ5 = gs_L σ4 5 (vp_updL (σ4.2.2 5) v_4.toNatClampNeg (0 : Int64)) → C_Mo_isNonterminal r3 σ5 (fun r7 σ6 => (r7 = 0 → vp_in v_4 6 ∧ (∀ v8 : Int32, v8 = v_2 + (σ6.2.1 13 v_4.toNatClampNeg) → ∀ v9 : Int32, v9 = v_4 + 1 → X10 v_1 v8 v_3 v9 σ6)) ∧ (¬ (r7 = 0) → ∀ v10 : Int32, v10 = v_3 + (-1) → (v10 < 0 → K (0 : Int32) σ6) ∧ (¬ (v10 < 0) → vp_in v10 1300 ∧ (((σ6.2.1 9 v10.toNatClampNeg) = r3 → vp_in v10 1300 ∧ (vp_in v_4 6 ∧ ∀ σ11 : gs_St, σ11 = gs_A σ6 13 (upd (σ6.2.1 13) v_4.toNatClampNeg (σ6.2.1 10 v10.toNatClampNeg)) → vp_in v10 1300 ∧ (vp_in v_4 6 ∧ ∀ σ12 : gs_St, σ12 = gs_L σ11 5 (vp_updL (σ11.2.2 5) v_4.toNatClampNeg (σ11.2.2 4 v10.toNatClampNeg)) → vp_in v_4 6 ∧ (∀ v13 : Int32, v13 = v_2 + (σ12.2.1 13 v_4.toNatClampNeg) → ∀ v14 : Int32, v14 = v_4 + 1 → X10 v_1 v13 v10 v14 σ12)))) ∧ (¬ ((σ6.2.1 9 v10.toNatClampNeg) = r3) → K (0 : Int32) σ6))))))))) → X10 v_1 v_2 v_3 v_4 σ) →
  (∀ (v_1 : Int32) (v_2 : Int32) (v_3 : Int32) (v_4 : Int64) (v_6 : Int32) (σ : gs_St), ((v_1 ≤ v_6 → C_Mo_fill v_1 v_2 σ (fun σ15 => X190 v_1 v_2 v_3 v_4 v_2 (0 : Int32) σ15)) ∧ (¬ (v_1 ≤ v_6) → vp_in v_6 24 ∧ (vp_in v_1 24 ∧ ((¬ (σ.2.1 0 v_6.toNatClampNeg) = (σ.2.1 0 v_1.toNatClampNeg) → ∀ v16 : Int32, v16 = v_6 + 1 → X130 v_1 v_2 v_3 v_4 v16 σ) ∧ (¬ (¬ (σ.2.1 0 v_6.toNatClampNeg) = (σ.2.1 0 v_1.toNatClampNeg)) → C_Mo_fill v_6 v_2 σ (fun σ17 => vp_in v_2 119 ∧ (C_Mo_sum v_4 (σ17.2.2 3 v_2.toNatClampNeg) σ17 (fun r19 σ18 => ∀ v20 : Int32, v20 = v_6 + 1 → X130 v_1 v_2 v_3 r19 v20 σ18)))))))) → X130 v_1 v_2 v_3 v_4 v_6 σ) →
  (∀ (v_1 : Int32) (v_2 : Int32) (v_3 : Int32) (v_4 : Int64) (v_6 : Int32) (v_7 : Int32) (σ : gs_St), (vp_in v_1 24 ∧ (((σ.2.1 1 v_1.toNatClampNeg) ≤ v_7 → ∀ σ21 : gs_St, σ21 = gs_I σ 7 v_3 → vp_in v_1 24 ∧ (C_Mo_put (σ21.2.1 0 v_1.toNatClampNeg) v_2 v_4 σ21 (fun σ22 => K (1 : Int32) σ22))) ∧ (¬ ((σ.2.1 1 v_1.toNatClampNeg) ≤ v_7) → X204 v_1 v_2 v_3 v_4 v_6 v_7 (0 : Int32) σ))) → X190 v_1 v_2 v_3 v_4 v_6 v_7 σ) →
  (∀ (v_1 : Int32) (v_2 : Int32) (v_3 : Int32) (v_4 : Int64) (v_6 : Int32) (v_7 : Int32) (v_8 : Int32) (σ : gs_St), (vp_in v_7 6 ∧ (((σ.2.1 13 v_7.toNatClampNeg) ≤ v_8 → vp_in v_7 6 ∧ (∀ v23 : Int32, v23 = v_6 - (σ.2.1 13 v_7.toNatClampNeg) → vp_in v_7 6 ∧ (vp_in ((((17 : Int32) * v_7) + (17 : Int32)) + v23) 119 ∧ (C_Mo_product (σ.2.2 5 v_7.toNatClampNeg) (σ.2.2 3 ((((17 : Int32) * v_7) + (17 : Int32)) + v23).toNatClampNeg) σ (fun r25 σ24 => C_Mo_sum v_4 r25 σ24 (fun r27 σ26 => ∀ v28 : Int32, v28 = v_7 + 1 → X190 v_1 v_2 v_3 r27 v23 v28 σ26)))))) ∧ (¬ ((σ.2.1 13 v_7.toNatClampNeg) ≤ v_8) → C_Mo_at v_1 v_7 σ (fun r30 σ29 => C_Mo_of r30 v_8 σ29 (fun r32 σ31 => vp_in (((((17 : Int32) * v_7) + (17 : Int32)) + v_6) - v_8) 119 ∧ (C_Mo_product r32 (σ31.2.2 3 (((((17 : Int32) * v_7) + (17 : Int32)) + v_6) - v_8).toNatClampNeg) σ31 (fun r34 σ33 => C_Mo_sum v_4 r34 σ33 (fun r36 σ35 => ∀ v37 : Int32, v37 = v_8 + 1 → X204 v_1 v_2 v_3 r36 v_6 v_7 v37 σ35)))))))) → X204 v_1 v_2 v_3 v_4 v_6 v_7 v_8 σ) →
  (∀ v1 : Int32, v1 = σ.1 7 → X10 a0 (0 : Int32) v1 (0 : Int32) σ)
def C_Mo_number (a0 : Int32) (σ : gs_St) (K : Int64 → gs_St → Prop) : Prop :=
  ∀ X42 : Int32 → Int32 → gs_St → Prop,
  (∀ (v_1 : Int32) (v_3 : Int32) (σ : gs_St), ((v_3 < 0 → (¬ (σ.1 7) = (1 : Int32) → K (-1 : Int64) σ) ∧ (¬ (¬ (σ.1 7) = (1 : Int32)) → vp_in (0 : Int32) 1300 ∧ ((¬ (σ.2.1 9 (0 : Int32).toNatClampNeg) = v_1 → K (-1 : Int64) σ) ∧ (¬ (¬ (σ.2.1 9 (0 : Int32).toNatClampNeg) = v_1) → vp_in (0 : Int32) 1300 ∧ (C_Mo_of v_1 (σ.2.1 10 (0 : Int32).toNatClampNeg) σ (fun r11 σ10 => (r11 ≤ (1000000000000000000 : Int64) → vp_in (0 : Int32) 1300 ∧ (K (σ10.2.2 4 (0 : Int32).toNatClampNeg) σ10)) ∧ (¬ (r11 ≤ (1000000000000000000 : Int64)) → K (-1 : Int64) σ10))))))) ∧ (¬ (v_3 < 0) → vp_in v_3 200 ∧ (C_Mo_isRule (σ.2.1 4 v_3.toNatClampNeg) σ (fun r13 σ12 => (r13 = 0 → K (-1 : Int64) σ12) ∧ (¬ (r13 = 0) → vp_in v_3 200 ∧ (C_Mo_join (σ12.2.1 4 v_3.toNatClampNeg) σ12 (fun r15 σ14 => (¬ r15 = 0 → ∀ v16 : Int32, v16 = v_3 + (-1) → X42 v_1 v16 σ14) ∧ (¬ (¬ r15 = 0) → K (-1 : Int64) σ14)))))))) → X42 v_1 v_3 σ) →
  (∀ v1 : Int32, v1 = σ.1 2 → ∀ σ2 : gs_St, σ2 = gs_I σ 2 (0 : Int32) → C_Mo_isNonterminal a0 σ2 (fun r4 σ3 => (r4 = 0 → K (-1 : Int64) σ3) ∧ (¬ (r4 = 0) → C_Mo_circle σ3 (fun r6 σ5 => (r6 = 0 → C_Mo_reckon (-1 : Int32) σ5 (fun σ7 => ∀ σ8 : gs_St, σ8 = gs_I σ7 7 (0 : Int32) → ∀ v9 : Int32, v9 = v1 - (1 : Int32) → X42 a0 v9 σ8)) ∧ (¬ (r6 = 0) → K (-1 : Int64) σ5)))))
