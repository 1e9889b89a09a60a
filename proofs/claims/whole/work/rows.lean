section
/-- a state: the int fields, the int arrays, the long arrays -/
abbrev gs_St : Type := (Nat → Int32) × (Nat → Nat → Int32) × (Nat → Nat → Int64)
def gs_I (σ : gs_St) (k : Nat) (v : Int32) : gs_St := (fun j => if j = k then v else σ.1 j, σ.2)
def gs_A (σ : gs_St) (k : Nat) (f : Nat → Int32) : gs_St := (σ.1, fun j => if j = k then f else σ.2.1 j, σ.2.2)
def gs_L (σ : gs_St) (k : Nat) (f : Nat → Int64) : gs_St := (σ.1, σ.2.1, fun j => if j = k then f else σ.2.2 j)
/-- a new object -/
def gs_0 : gs_St := (fun k => if k = 4 then -1 else if k = 6 then -1 else 0, fun _ _ => 0, fun _ _ => 0)
def gm_0 : gs_St := (fun k => if k = 6 then -1 else 0, fun _ _ => 0, fun _ _ => 0)
def gs_sS (σ : gs_St) : gs_St := (fun k => if k = 10 then σ.1 12 else if k = 11 then σ.1 13 else if k = 12 then σ.1 10 else if k = 13 then σ.1 11 else σ.1 k, fun k => if k = 10 then σ.2.1 12 else if k = 11 then σ.2.1 13 else if k = 12 then σ.2.1 10 else if k = 13 then σ.2.1 11 else σ.2.1 k, σ.2.2)
def C_Gl_symbol (a0 : Int32) (σ : gs_St) (K : Int32 → gs_St → Prop) : Prop :=
  ((a0 < 0 → K (-1 : Int32) σ) ∧ (¬ (a0 < 0) → ((24 : Int32) ≤ a0 → K (-1 : Int32) σ) ∧ (¬ ((24 : Int32) ≤ a0) → ((σ.1 0) < (6 : Int32) → vp_in (σ.1 0) 6 ∧ ∀ σ1 : gs_St, σ1 = gs_A σ 0 (upd (σ.2.1 0) (σ.1 0).toNatClampNeg a0) → ∀ σ2 : gs_St, σ2 = gs_I σ1 0 ((σ1.1 0) + (1 : Int32)) → K (σ2.1 0) σ2) ∧ (¬ ((σ.1 0) < (6 : Int32)) → K (-1 : Int32) σ))))
def C_Gl_isNonterminal (a0 : Int32) (σ : gs_St) (K : Int32 → gs_St → Prop) : Prop :=
  ((a0 < 0 → K (0 : Int32) σ) ∧ (¬ (a0 < 0) → ((8 : Int32) ≤ a0 → K (0 : Int32) σ) ∧ (¬ ((8 : Int32) ≤ a0) → K (1 : Int32) σ)))
def C_Gr_add_1 (a0 : Int32) (a2 : Int32) (σ : gs_St) (K : Int32 → gs_St → Prop) : Prop :=
  (vp_in (σ.1 2) 24 ∧ ∀ σ1 : gs_St, σ1 = gs_A σ 1 (upd (σ.2.1 1) (σ.1 2).toNatClampNeg a0) → vp_in (σ1.1 2) 24 ∧ ∀ σ2 : gs_St, σ2 = gs_A σ1 2 (upd (σ1.2.1 2) (σ1.1 2).toNatClampNeg a2) → ¬ (0 : Int32) < 0 ∧ ¬ ((σ2.1 2) * (6 : Int32)) < 0 ∧ ¬ a2 < 0 ∧ (0 : Int32).toNatClampNeg + a2.toNatClampNeg ≤ 6 ∧ ((σ2.1 2) * (6 : Int32)).toNatClampNeg + a2.toNatClampNeg ≤ 144 ∧ ∀ σ3 : gs_St, σ3 = gs_A σ2 3 (va_cpy (σ2.2.1 0) (σ2.2.1 3) (0 : Int32).toNatClampNeg ((σ2.1 2) * (6 : Int32)).toNatClampNeg a2.toNatClampNeg) → ∀ σ4 : gs_St, σ4 = gs_I σ3 2 ((σ3.1 2) + (1 : Int32)) → K ((σ4.1 2) - (1 : Int32)) σ4)
def C_Gl_rule (a0 : Int32) (σ : gs_St) (K : Int32 → gs_St → Prop) : Prop :=
  (∀ v1 : Int32, v1 = σ.1 0 → ∀ σ2 : gs_St, σ2 = gs_I σ 0 (0 : Int32) → C_Gl_isNonterminal a0 σ2 (fun r4 σ3 => (r4 = 0 → K (-1 : Int32) σ3) ∧ (¬ (r4 = 0) → ((σ3.1 2) < (24 : Int32) → ∀ σ5 : gs_St, σ5 = gs_I σ3 1 (0 : Int32) → C_Gr_add_1 a0 v1 σ5 (fun r7 σ6 => K r7 σ6)) ∧ (¬ ((σ3.1 2) < (24 : Int32)) → K (-1 : Int32) σ3))))
def C_Gr_has (a0 : Int32) (σ : gs_St) (K : Int32 → gs_St → Prop) : Prop :=
  ((a0 < 0 → K (0 : Int32) σ) ∧ (¬ (a0 < 0) → ((σ.1 2) ≤ a0 → K (0 : Int32) σ) ∧ (¬ ((σ.1 2) ≤ a0) → K (1 : Int32) σ)))
def C_Gr_remove (a0 : Int32) (σ : gs_St) (K : gs_St → Prop) : Prop :=
  (∀ v1 : Int32, v1 = a0 + (1 : Int32) → ∀ v2 : Int32, v2 = (σ.1 2) - v1 → ¬ v1 < 0 ∧ ¬ a0 < 0 ∧ ¬ v2 < 0 ∧ v1.toNatClampNeg + v2.toNatClampNeg ≤ 24 ∧ a0.toNatClampNeg + v2.toNatClampNeg ≤ 24 ∧ ∀ σ3 : gs_St, σ3 = gs_A σ 1 (va_cpy (σ.2.1 1) (σ.2.1 1) v1.toNatClampNeg a0.toNatClampNeg v2.toNatClampNeg) → ¬ v1 < 0 ∧ ¬ a0 < 0 ∧ ¬ v2 < 0 ∧ v1.toNatClampNeg + v2.toNatClampNeg ≤ 24 ∧ a0.toNatClampNeg + v2.toNatClampNeg ≤ 24 ∧ ∀ σ4 : gs_St, σ4 = gs_A σ3 2 (va_cpy (σ3.2.1 2) (σ3.2.1 2) v1.toNatClampNeg a0.toNatClampNeg v2.toNatClampNeg) → ¬ (v1 * (6 : Int32)) < 0 ∧ ¬ (a0 * (6 : Int32)) < 0 ∧ ¬ (v2 * (6 : Int32)) < 0 ∧ (v1 * (6 : Int32)).toNatClampNeg + (v2 * (6 : Int32)).toNatClampNeg ≤ 144 ∧ (a0 * (6 : Int32)).toNatClampNeg + (v2 * (6 : Int32)).toNatClampNeg ≤ 144 ∧ ∀ σ5 : gs_St, σ5 = gs_A σ4 3 (va_cpy (σ4.2.1 3) (σ4.2.1 3) (v1 * (6 : Int32)).toNatClampNeg (a0 * (6 : Int32)).toNatClampNeg (v2 * (6 : Int32)).toNatClampNeg) → ∀ σ6 : gs_St, σ6 = gs_I σ5 2 ((σ5.1 2) - (1 : Int32)) → K σ6)
def C_Gl_drop (a0 : Int32) (σ : gs_St) (K : Int32 → gs_St → Prop) : Prop :=
  (C_Gr_has a0 σ (fun r2 σ1 => (¬ r2 = 0 → ∀ σ3 : gs_St, σ3 = gs_I σ1 1 (0 : Int32) → C_Gr_remove a0 σ3 (fun σ4 => K (1 : Int32) σ4)) ∧ (¬ (¬ r2 = 0) → K (0 : Int32) σ1)))
def C_Gl_count (a0 : Int32) (σ : gs_St) (K : Int32 → gs_St → Prop) : Prop :=
  ((a0 = 0 → K (σ.1 2) σ) ∧ (a0 = 1 → K (σ.1 0) σ) ∧ (a0 = 2 → K (σ.1 14) σ) ∧ (a0.toInt < 0 ∨ 2 < a0.toInt → K (-1 : Int32) σ))
def C_Gr_sizeOf (a0 : Int32) (σ : gs_St) (K : Int32 → gs_St → Prop) : Prop :=
  (vp_in a0 24 ∧ (K (σ.2.1 2 a0.toNatClampNeg) σ))
def C_Gr_symbolAt (a0 : Int32) (a1 : Int32) (σ : gs_St) (K : Int32 → gs_St → Prop) : Prop :=
  (vp_in ((a0 * (6 : Int32)) + a1) 144 ∧ (K (σ.2.1 3 ((a0 * (6 : Int32)) + a1).toNatClampNeg) σ))
def C_Gr_leftOf (a0 : Int32) (σ : gs_St) (K : Int32 → gs_St → Prop) : Prop :=
  (vp_in a0 24 ∧ (K (σ.2.1 1 a0.toNatClampNeg) σ))
def C_Gl_about (a0 : Int32) (a1 : Int32) (σ : gs_St) (K : Int32 → gs_St → Prop) : Prop :=
  (C_Gr_has a0 σ (fun r2 σ1 => (r2 = 0 → K (-1 : Int32) σ1) ∧ (¬ (r2 = 0) → (a1 < (-1 : Int32) → K (-1 : Int32) σ1) ∧ (¬ (a1 < (-1 : Int32)) → C_Gr_sizeOf a0 σ1 (fun r4 σ3 => (a1 < r4 → (¬ a1 = (-1 : Int32) → C_Gr_symbolAt a0 a1 σ3 (fun r6 σ5 => K r6 σ5)) ∧ (¬ (¬ a1 = (-1 : Int32)) → C_Gr_leftOf a0 σ3 (fun r8 σ7 => K r8 σ7))) ∧ (¬ (a1 < r4) → K (-1 : Int32) σ3))))))
def C_Ar_fill_7 (a1 : Int32) (σ : gs_St) (K : gs_St → Prop) : Prop :=
  ∀ X5 : Int32 → Int32 → Int32 → gs_St → Prop,
  (∀ (v_1 : Int32) (v_2 : Int32) (v_3 : Int32) (σ : gs_St), ((v_3 ≤ v_2 → K σ) ∧ (¬ (v_3 ≤ v_2) → vp_in v_2 8 ∧ ∀ σ1 : gs_St, σ1 = gs_A σ 4 (upd (σ.2.1 4) v_2.toNatClampNeg v_1) → ∀ v2 : Int32, v2 = v_2 + 1 → X5 v_1 v2 v_3 σ1)) → X5 v_1 v_2 v_3 σ) →
  (X5 a1 (0 : Int32) (8 : Int32) σ)
def C_Ar_fill_8 (a1 : Int32) (σ : gs_St) (K : gs_St → Prop) : Prop :=
  ∀ X5 : Int32 → Int32 → Int32 → gs_St → Prop,
  (∀ (v_1 : Int32) (v_2 : Int32) (v_3 : Int32) (σ : gs_St), ((v_3 ≤ v_2 → K σ) ∧ (¬ (v_3 ≤ v_2) → vp_in v_2 8 ∧ ∀ σ1 : gs_St, σ1 = gs_A σ 5 (upd (σ.2.1 5) v_2.toNatClampNeg v_1) → ∀ v2 : Int32, v2 = v_2 + 1 → X5 v_1 v2 v_3 σ1)) → X5 v_1 v_2 v_3 σ) →
  (X5 a1 (0 : Int32) (8 : Int32) σ)
def C_Le_leastBut (a0 : Int32) (a1 : Int32) (σ : gs_St) (K : Int32 → gs_St → Prop) : Prop :=
  ∀ X5 : Int32 → Int32 → Int32 → Int32 → gs_St → Prop,
  (∀ (v_1 : Int32) (v_2 : Int32) (v_3 : Int32) (v_4 : Int32) (σ : gs_St), (C_Gr_sizeOf v_1 σ (fun r2 σ1 => (r2 ≤ v_4 → K v_3 σ1) ∧ (¬ (r2 ≤ v_4) → (¬ v_4 = v_2 → C_Gr_symbolAt v_1 v_4 σ1 (fun r4 σ3 => C_Gl_isNonterminal r4 σ3 (fun r6 σ5 => (r6 = 0 → (¬ (1 : Int32) = (-1 : Int32) → ∀ v7 : Int32, v7 = v_3 + (1 : Int32) → ∀ v8 : Int32, v8 = v_4 + 1 → X5 v_1 v_2 v7 v8 σ5) ∧ (¬ (¬ (1 : Int32) = (-1 : Int32)) → K (-1 : Int32) σ5)) ∧ (¬ (r6 = 0) → vp_in r4 8 ∧ (∀ v9 : Int32, v9 = σ5.2.1 4 r4.toNatClampNeg → (¬ v9 = (-1 : Int32) → ∀ v10 : Int32, v10 = v_3 + v9 → ∀ v11 : Int32, v11 = v_4 + 1 → X5 v_1 v_2 v10 v11 σ5) ∧ (¬ (¬ v9 = (-1 : Int32)) → K (-1 : Int32) σ5)))))) ∧ (¬ (¬ v_4 = v_2) → ∀ v12 : Int32, v12 = v_4 + 1 → X5 v_1 v_2 v_3 v12 σ1)))) → X5 v_1 v_2 v_3 v_4 σ) →
  (X5 a0 a1 (0 : Int32) (0 : Int32) σ)
def C_Le_lower_7 (a1 : Int32) (a2 : Int32) (σ : gs_St) (K : gs_St → Prop) : Prop :=
  (vp_in a1 8 ∧ (∀ v1 : Int32, v1 = σ.2.1 4 a1.toNatClampNeg → (a2 = (-1 : Int32) → K σ) ∧ (¬ (a2 = (-1 : Int32)) → (v1 = (-1 : Int32) → vp_in a1 8 ∧ ∀ σ2 : gs_St, σ2 = gs_A σ 4 (upd (σ.2.1 4) a1.toNatClampNeg a2) → K σ2) ∧ (¬ (v1 = (-1 : Int32)) → (v1 ≤ a2 → K σ) ∧ (¬ (v1 ≤ a2) → vp_in a1 8 ∧ ∀ σ3 : gs_St, σ3 = gs_A σ 4 (upd (σ.2.1 4) a1.toNatClampNeg a2) → K σ3)))))
def C_Le_lower_8 (a1 : Int32) (a2 : Int32) (σ : gs_St) (K : gs_St → Prop) : Prop :=
  (vp_in a1 8 ∧ (∀ v1 : Int32, v1 = σ.2.1 5 a1.toNatClampNeg → (a2 = (-1 : Int32) → K σ) ∧ (¬ (a2 = (-1 : Int32)) → (v1 = (-1 : Int32) → vp_in a1 8 ∧ ∀ σ2 : gs_St, σ2 = gs_A σ 5 (upd (σ.2.1 5) a1.toNatClampNeg a2) → K σ2) ∧ (¬ (v1 = (-1 : Int32)) → (v1 ≤ a2 → K σ) ∧ (¬ (v1 ≤ a2) → vp_in a1 8 ∧ ∀ σ3 : gs_St, σ3 = gs_A σ 5 (upd (σ.2.1 5) a1.toNatClampNeg a2) → K σ3)))))
def C_Le_lowerAround (a0 : Int32) (σ : gs_St) (K : gs_St → Prop) : Prop :=
  ∀ X22 : Int32 → Int32 → Int32 → gs_St → Prop,
  (∀ (v_1 : Int32) (v_2 : Int32) (v_3 : Int32) (σ : gs_St), (C_Gr_sizeOf v_1 σ (fun r5 σ4 => (r5 ≤ v_3 → K σ4) ∧ (¬ (r5 ≤ v_3) → C_Gr_symbolAt v_1 v_3 σ4 (fun r7 σ6 => C_Le_leastBut v_1 v_3 σ6 (fun r9 σ8 => C_Gl_isNonterminal r7 σ8 (fun r11 σ10 => (r11 = 0 → ∀ v12 : Int32, v12 = v_3 + 1 → X22 v_1 v_2 v12 σ10) ∧ (¬ (r11 = 0) → (r9 = (-1 : Int32) → ∀ v13 : Int32, v13 = v_3 + 1 → X22 v_1 v_2 v13 σ10) ∧ (¬ (r9 = (-1 : Int32)) → C_Le_lower_8 r7 (v_2 + r9) σ10 (fun σ14 => ∀ v15 : Int32, v15 = v_3 + 1 → X22 v_1 v_2 v15 σ14))))))))) → X22 v_1 v_2 v_3 σ) →
  (C_Gr_leftOf a0 σ (fun r2 σ1 => vp_in r2 8 ∧ (∀ v3 : Int32, v3 = σ1.2.1 5 r2.toNatClampNeg → (¬ v3 = (-1 : Int32) → X22 a0 v3 (0 : Int32) σ1) ∧ (¬ (¬ v3 = (-1 : Int32)) → K σ1))))
def C_Le_find (σ : gs_St) (K : gs_St → Prop) : Prop :=
  ∀ X10 : Int32 → gs_St → Prop,
  ∀ X18 : Int32 → Int32 → gs_St → Prop,
  ∀ X79 : Int32 → gs_St → Prop,
  ∀ X87 : Int32 → Int32 → gs_St → Prop,
  (∀ (v_1 : Int32) (σ : gs_St), (((8 : Int32) ≤ v_1 → C_Ar_fill_8 (-1 : Int32) σ (fun σ2 => vp_in (0 : Int32) 8 ∧ ∀ σ3 : gs_St, σ3 = gs_A σ2 5 (upd (σ2.2.1 5) (0 : Int32).toNatClampNeg (0 : Int32)) → X79 (0 : Int32) σ3)) ∧ (¬ ((8 : Int32) ≤ v_1) → X18 v_1 (0 : Int32) σ)) → X10 v_1 σ) →
  (∀ (v_1 : Int32) (v_2 : Int32) (σ : gs_St), (((σ.1 2) ≤ v_2 → ∀ v4 : Int32, v4 = v_1 + 1 → X10 v4 σ) ∧ (¬ ((σ.1 2) ≤ v_2) → C_Gr_leftOf v_2 σ (fun r6 σ5 => C_Le_leastBut v_2 (-1 : Int32) σ5 (fun r8 σ7 => C_Le_lower_7 r6 r8 σ7 (fun σ9 => ∀ v10 : Int32, v10 = v_2 + 1 → X18 v_1 v10 σ9))))) → X18 v_1 v_2 σ) →
  (∀ (v_1 : Int32) (σ : gs_St), (((8 : Int32) ≤ v_1 → K σ) ∧ (¬ ((8 : Int32) ≤ v_1) → X87 v_1 (0 : Int32) σ)) → X79 v_1 σ) →
  (∀ (v_1 : Int32) (v_2 : Int32) (σ : gs_St), (((σ.1 2) ≤ v_2 → ∀ v11 : Int32, v11 = v_1 + 1 → X79 v11 σ) ∧ (¬ ((σ.1 2) ≤ v_2) → C_Le_lowerAround v_2 σ (fun σ12 => ∀ v13 : Int32, v13 = v_2 + 1 → X87 v_1 v13 σ12))) → X87 v_1 v_2 σ) →
  (C_Ar_fill_7 (-1 : Int32) σ (fun σ1 => X10 (0 : Int32) σ1))
def C_Ar_fill_10 (a1 : Int32) (σ : gs_St) (K : gs_St → Prop) : Prop :=
  ∀ X5 : Int32 → Int32 → Int32 → gs_St → Prop,
  (∀ (v_1 : Int32) (v_2 : Int32) (v_3 : Int32) (σ : gs_St), ((v_3 ≤ v_2 → K σ) ∧ (¬ (v_3 ≤ v_2) → vp_in v_2 8 ∧ ∀ σ1 : gs_St, σ1 = gs_A σ 6 (upd (σ.2.1 6) v_2.toNatClampNeg v_1) → ∀ v2 : Int32, v2 = v_2 + 1 → X5 v_1 v2 v_3 σ1)) → X5 v_1 v_2 v_3 σ) →
  (X5 a1 (0 : Int32) (8 : Int32) σ)
def C_Ld_putInOrder (σ : gs_St) (K : gs_St → Prop) : Prop :=
  ∀ X9 : Int32 → Int32 → gs_St → Prop,
  ∀ X17 : Int32 → Int32 → Int32 → gs_St → Prop,
  ∀ X36 : Int32 → Int32 → Int32 → Int32 → gs_St → Prop,
  (∀ (v_1 : Int32) (v_2 : Int32) (σ : gs_St), (((8 : Int32) ≤ v_2 → K σ) ∧ (¬ ((8 : Int32) ≤ v_2) → X17 v_1 v_2 (0 : Int32) σ)) → X9 v_1 v_2 σ) →
  (∀ (v_1 : Int32) (v_2 : Int32) (v_3 : Int32) (σ : gs_St), (((8 : Int32) ≤ v_3 → ∀ v2 : Int32, v2 = v_2 + 1 → X9 v_1 v2 σ) ∧ (¬ ((8 : Int32) ≤ v_3) → (¬ (v_1 &&& ((1 : Int32) <<< (v_3 &&& 31))) = 0 → X36 v_1 v_2 v_3 (0 : Int32) σ) ∧ (¬ (¬ (v_1 &&& ((1 : Int32) <<< (v_3 &&& 31))) = 0) → X36 v_1 v_2 v_3 (1 : Int32) σ))) → X17 v_1 v_2 v_3 σ) →
  (∀ (v_1 : Int32) (v_2 : Int32) (v_3 : Int32) (s_0 : Int32) (σ : gs_St), ((s_0 = 0 → ∀ v3 : Int32, v3 = v_3 + 1 → X17 v_1 v_2 v3 σ) ∧ (¬ (s_0 = 0) → vp_in v_3 8 ∧ ((¬ ((σ.2.1 6 v_3.toNatClampNeg) &&& (v_1 ^^^ (-1 : Int32))) = 0 → ∀ v4 : Int32, v4 = v_3 + 1 → X17 v_1 v_2 v4 σ) ∧ (¬ (¬ ((σ.2.1 6 v_3.toNatClampNeg) &&& (v_1 ^^^ (-1 : Int32))) = 0) → ∀ v5 : Int32, v5 = v_1 ||| ((1 : Int32) <<< (v_3 &&& 31)) → vp_in (σ.1 3) 8 ∧ ∀ σ6 : gs_St, σ6 = gs_A σ 7 (upd (σ.2.1 7) (σ.1 3).toNatClampNeg v_3) → ∀ σ7 : gs_St, σ7 = gs_I σ6 3 ((σ6.1 3) + (1 : Int32)) → ∀ v8 : Int32, v8 = v_3 + 1 → X17 v5 v_2 v8 σ7)))) → X36 v_1 v_2 v_3 s_0 σ) →
  (∀ σ1 : gs_St, σ1 = gs_I σ 3 (0 : Int32) → X9 (0 : Int32) (0 : Int32) σ1)
def C_Le_isEmpty (a0 : Int32) (σ : gs_St) (K : Int32 → gs_St → Prop) : Prop :=
  (C_Gl_isNonterminal a0 σ (fun r2 σ1 => (r2 = 0 → K (0 : Int32) σ1) ∧ (¬ (r2 = 0) → vp_in a0 8 ∧ ((¬ (σ1.2.1 4 a0.toNatClampNeg) = 0 → K (0 : Int32) σ1) ∧ (¬ (¬ (σ1.2.1 4 a0.toNatClampNeg) = 0) → K (1 : Int32) σ1)))))
def C_Ld_isEmptyBut (a0 : Int32) (a1 : Int32) (σ : gs_St) (K : Int32 → gs_St → Prop) : Prop :=
  ∀ X2 : Int32 → Int32 → Int32 → gs_St → Prop,
  (∀ (v_1 : Int32) (v_2 : Int32) (v_3 : Int32) (σ : gs_St), (C_Gr_sizeOf v_1 σ (fun r2 σ1 => (r2 ≤ v_3 → K (1 : Int32) σ1) ∧ (¬ (r2 ≤ v_3) → (v_3 = v_2 → ∀ v3 : Int32, v3 = v_3 + 1 → X2 v_1 v_2 v3 σ1) ∧ (¬ (v_3 = v_2) → C_Gr_symbolAt v_1 v_3 σ1 (fun r5 σ4 => C_Le_isEmpty r5 σ4 (fun r7 σ6 => (¬ r7 = 0 → ∀ v8 : Int32, v8 = v_3 + 1 → X2 v_1 v_2 v8 σ6) ∧ (¬ (¬ r7 = 0) → K (0 : Int32) σ6))))))) → X2 v_1 v_2 v_3 σ) →
  (X2 a0 a1 (0 : Int32) σ)
def C_Ld_find (σ : gs_St) (K : gs_St → Prop) : Prop :=
  ∀ X10 : Int32 → gs_St → Prop,
  ∀ X23 : Int32 → Int32 → gs_St → Prop,
  (∀ (v_1 : Int32) (σ : gs_St), (((σ.1 2) ≤ v_1 → C_Ld_putInOrder σ (fun σ2 => K σ2)) ∧ (¬ ((σ.1 2) ≤ v_1) → X23 v_1 (0 : Int32) σ)) → X10 v_1 σ) →
  (∀ (v_1 : Int32) (v_2 : Int32) (σ : gs_St), (C_Gr_sizeOf v_1 σ (fun r4 σ3 => (r4 ≤ v_2 → ∀ v5 : Int32, v5 = v_1 + 1 → X10 v5 σ3) ∧ (¬ (r4 ≤ v_2) → C_Gr_symbolAt v_1 v_2 σ3 (fun r7 σ6 => C_Gl_isNonterminal r7 σ6 (fun r9 σ8 => (r9 = 0 → ∀ v10 : Int32, v10 = v_2 + 1 → X23 v_1 v10 σ8) ∧ (¬ (r9 = 0) → C_Ld_isEmptyBut v_1 v_2 σ8 (fun r12 σ11 => (r12 = 0 → ∀ v13 : Int32, v13 = v_2 + 1 → X23 v_1 v13 σ11) ∧ (¬ (r12 = 0) → C_Gr_leftOf v_1 σ11 (fun r15 σ14 => vp_in r15 8 ∧ (vp_in r15 8 ∧ ∀ σ16 : gs_St, σ16 = gs_A σ14 6 (upd (σ14.2.1 6) r15.toNatClampNeg ((σ14.2.1 6 r15.toNatClampNeg) ||| ((1 : Int32) <<< (r7 &&& 31)))) → ∀ v17 : Int32, v17 = v_2 + 1 → X23 v_1 v17 σ16)))))))))) → X23 v_1 v_2 σ) →
  (C_Ar_fill_10 (0 : Int32) σ (fun σ1 => X10 (0 : Int32) σ1))
def C_Co_forget (σ : gs_St) (K : gs_St → Prop) : Prop :=
  (∀ σ1 : gs_St, σ1 = gs_I σ 5 (0 : Int32) → K σ1)
def C_Co_forgetw (σ : gs_St) (K : gs_St → Prop) : Prop :=
  (∀ σ1 : gs_St, σ1 = gs_I σ 7 (0 : Int32) → K σ1)
def C_Gl_study (σ : gs_St) (K : gs_St → Prop) : Prop :=
  (((σ.1 1) = 0 → ∀ σ1 : gs_St, σ1 = gs_I σ 1 (1 : Int32) → C_Le_find σ1 (fun σ2 => C_Ld_find σ2 (fun σ3 => C_Co_forget σ3 (fun σ4 => C_Co_forgetw σ4 (fun σ5 => K σ5))))) ∧ (¬ ((σ.1 1) = 0) → K σ))
def C_Le_leastOf (a0 : Int32) (σ : gs_St) (K : Int32 → gs_St → Prop) : Prop :=
  (vp_in a0 8 ∧ (K (σ.2.1 4 a0.toNatClampNeg) σ))
def C_Gl_shortest (a0 : Int32) (σ : gs_St) (K : Int32 → gs_St → Prop) : Prop :=
  (C_Gl_isNonterminal a0 σ (fun r2 σ1 => (¬ r2 = 0 → C_Gl_study σ1 (fun σ3 => C_Le_leastOf a0 σ3 (fun r5 σ4 => K r5 σ4))) ∧ (¬ (¬ r2 = 0) → K (-1 : Int32) σ1)))
def C_Le_leastWith (a0 : Int32) (σ : gs_St) (K : Int32 → gs_St → Prop) : Prop :=
  (C_Le_leastBut a0 (-1 : Int32) σ (fun r2 σ1 => C_Gr_leftOf a0 σ1 (fun r4 σ3 => vp_in r4 8 ∧ (∀ v5 : Int32, v5 = σ3.2.1 5 r4.toNatClampNeg → (r2 = (-1 : Int32) → K (-1 : Int32) σ3) ∧ (¬ (r2 = (-1 : Int32)) → (¬ v5 = (-1 : Int32) → K (r2 + v5) σ3) ∧ (¬ (¬ v5 = (-1 : Int32)) → K (-1 : Int32) σ3))))))
def C_Gl_shortestWith (a0 : Int32) (σ : gs_St) (K : Int32 → gs_St → Prop) : Prop :=
  (C_Gr_has a0 σ (fun r2 σ1 => (¬ r2 = 0 → C_Gl_study σ1 (fun σ3 => C_Le_leastWith a0 σ3 (fun r5 σ4 => K r5 σ4))) ∧ (¬ (¬ r2 = 0) → K (-1 : Int32) σ1)))
def C_Ld_isCircle (σ : gs_St) (K : Int32 → gs_St → Prop) : Prop :=
  (((8 : Int32) ≤ (σ.1 3) → K (0 : Int32) σ) ∧ (¬ ((8 : Int32) ≤ (σ.1 3)) → K (1 : Int32) σ))
def C_Gl_circle (σ : gs_St) (K : Int32 → gs_St → Prop) : Prop :=
  (C_Gl_study σ (fun σ1 => C_Ld_isCircle σ1 (fun r3 σ2 => K r3 σ2)))
def C_Gl_isCounted (a0 : Int32) (σ : gs_St) (K : Int32 → gs_St → Prop) : Prop :=
  (C_Gl_study σ (fun σ1 => (a0 < 0 → K (0 : Int32) σ1) ∧ (¬ (a0 < 0) → ((16 : Int32) < a0 → K (0 : Int32) σ1) ∧ (¬ ((16 : Int32) < a0) → C_Ld_isCircle σ1 (fun r3 σ2 => (¬ r3 = 0 → K (0 : Int32) σ2) ∧ (¬ (¬ r3 = 0) → K (1 : Int32) σ2))))))
def C_Ld_inOrder (a0 : Int32) (σ : gs_St) (K : Int32 → gs_St → Prop) : Prop :=
  (vp_in a0 8 ∧ (K (σ.2.1 7 a0.toNatClampNeg) σ))
def C_Co_endingsAt (a0 : Int32) (a1 : Int32) (σ : gs_St) (K : Int32 → gs_St → Prop) : Prop :=
  (K (((a0 * (7 : Int32)) + a1) * (17 : Int32)) σ)
def C_Co_times (a0 : Int64) (a1 : Int64) (σ : gs_St) (K : Int64 → gs_St → Prop) : Prop :=
  ((¬ a1 = (0 : Int64) → ¬ a1 = 0 ∧ ((a0 ≤ ((1000000000000000000 : Int64) / a1) → K (a0 * a1) σ) ∧ (¬ (a0 ≤ ((1000000000000000000 : Int64) / a1)) → K (1000000000000000001 : Int64) σ))) ∧ (¬ (¬ a1 = (0 : Int64)) → K (0 : Int64) σ))
def C_Co_plus (a0 : Int64) (a1 : Int64) (σ : gs_St) (K : Int64 → gs_St → Prop) : Prop :=
  (K (if (1000000000000000001 : Int64) < (a0 + a1) then (1000000000000000001 : Int64) else (a0 + a1)) σ)
def C_Co_pairs (a0 : Int32) (a1 : Int32) (a2 : Int32) (σ : gs_St) (K : Int64 → gs_St → Prop) : Prop :=
  ∀ X6 : Int32 → Int32 → Int32 → Int64 → Int32 → gs_St → Prop,
  (∀ (v_1 : Int32) (v_2 : Int32) (v_3 : Int32) (v_4 : Int64) (v_6 : Int32) (σ : gs_St), ((v_3 < v_6 → K v_4 σ) ∧ (¬ (v_3 < v_6) → vp_in (v_1 + v_6) 136 ∧ (∀ v1 : Int64, v1 = σ.2.2 0 (v_1 + v_6).toNatClampNeg → (v1 = (0 : Int64) → ∀ v2 : Int32, v2 = v_6 + 1 → X6 v_1 v_2 v_3 v_4 v2 σ) ∧ (¬ (v1 = (0 : Int64)) → vp_in (v_2 - v_6) 2856 ∧ (C_Co_times v1 (σ.2.2 1 (v_2 - v_6).toNatClampNeg) σ (fun r4 σ3 => C_Co_plus v_4 r4 σ3 (fun r6 σ5 => ∀ v7 : Int32, v7 = v_6 + 1 → X6 v_1 v_2 v_3 r6 v7 σ5))))))) → X6 v_1 v_2 v_3 v_4 v_6 σ) →
  (X6 a0 a1 a2 (0 : Int64) (0 : Int32) σ)
def C_Co_fillEndings (a0 : Int32) (a1 : Int32) (σ : gs_St) (K : gs_St → Prop) : Prop :=
  ∀ X35 : Int32 → Int32 → Int32 → gs_St → Prop,
  (∀ (v_1 : Int32) (v_2 : Int32) (v_4 : Int32) (σ : gs_St), ((v_4 < 0 → K σ) ∧ (¬ (v_4 < 0) → C_Gr_symbolAt v_1 v_4 σ (fun r10 σ9 => C_Co_endingsAt v_1 (v_4 + (1 : Int32)) σ9 (fun r12 σ11 => ∀ v13 : Int32, v13 = r12 + v_2 → C_Gl_isNonterminal r10 σ11 (fun r15 σ14 => (r15 = 0 → (v_2 ≤ 0 → C_Co_endingsAt v_1 v_4 σ14 (fun r17 σ16 => vp_in (r17 + v_2) 2856 ∧ ∀ σ18 : gs_St, σ18 = gs_L σ16 1 (vp_updL (σ16.2.2 1) (r17 + v_2).toNatClampNeg (0 : Int64)) → ∀ v19 : Int32, v19 = v_4 + (-1) → X35 v_1 v_2 v19 σ18)) ∧ (¬ (v_2 ≤ 0) → vp_in (v13 - (1 : Int32)) 2856 ∧ (∀ v20 : Int64, v20 = σ14.2.2 1 (v13 - (1 : Int32)).toNatClampNeg → C_Co_endingsAt v_1 v_4 σ14 (fun r22 σ21 => vp_in (r22 + v_2) 2856 ∧ ∀ σ23 : gs_St, σ23 = gs_L σ21 1 (vp_updL (σ21.2.2 1) (r22 + v_2).toNatClampNeg v20) → ∀ v24 : Int32, v24 = v_4 + (-1) → X35 v_1 v_2 v24 σ23)))) ∧ (¬ (r15 = 0) → C_Co_pairs (r10 * (17 : Int32)) v13 v_2 σ14 (fun r26 σ25 => C_Co_endingsAt v_1 v_4 σ25 (fun r28 σ27 => vp_in (r28 + v_2) 2856 ∧ ∀ σ29 : gs_St, σ29 = gs_L σ27 1 (vp_updL (σ27.2.2 1) (r28 + v_2).toNatClampNeg r26) → ∀ v30 : Int32, v30 = v_4 + (-1) → X35 v_1 v_2 v30 σ29)))))))) → X35 v_1 v_2 v_4 σ) →
  (C_Gr_sizeOf a0 σ (fun r2 σ1 => C_Co_endingsAt a0 r2 σ1 (fun r4 σ3 => (¬ a1 = 0 → vp_in (r4 + a1) 2856 ∧ ∀ σ5 : gs_St, σ5 = gs_L σ3 1 (vp_updL (σ3.2.2 1) (r4 + a1).toNatClampNeg (0 : Int64)) → ∀ v6 : Int32, v6 = r2 - (1 : Int32) → X35 a0 a1 v6 σ5) ∧ (¬ (¬ a1 = 0) → vp_in (r4 + a1) 2856 ∧ ∀ σ7 : gs_St, σ7 = gs_L σ3 1 (vp_updL (σ3.2.2 1) (r4 + a1).toNatClampNeg (1 : Int64)) → ∀ v8 : Int32, v8 = r2 - (1 : Int32) → X35 a0 a1 v8 σ7))))
def C_Co_endingsOf (a0 : Int32) (a1 : Int32) (a2 : Int32) (σ : gs_St) (K : Int64 → gs_St → Prop) : Prop :=
  (C_Co_endingsAt a0 a1 σ (fun r2 σ1 => vp_in (r2 + a2) 2856 ∧ (K (σ1.2.2 1 (r2 + a2).toNatClampNeg) σ1)))
def C_Co_addTrees (a0 : Int32) (a1 : Int32) (a2 : Int64) (σ : gs_St) (K : gs_St → Prop) : Prop :=
  (∀ v1 : Int32, v1 = (a0 * (17 : Int32)) + a1 → vp_in v1 136 ∧ (C_Co_plus (σ.2.2 0 v1.toNatClampNeg) a2 σ (fun r3 σ2 => vp_in v1 136 ∧ ∀ σ4 : gs_St, σ4 = gs_L σ2 0 (vp_updL (σ2.2.2 0) v1.toNatClampNeg r3) → K σ4)))
def C_Co_countLength (a0 : Int32) (σ : gs_St) (K : gs_St → Prop) : Prop :=
  ∀ X2 : Int32 → Int32 → gs_St → Prop,
  ∀ X28 : Int32 → Int32 → gs_St → Prop,
  ∀ X46 : Int32 → Int32 → Int32 → Int32 → gs_St → Prop,
  ∀ X115 : Int32 → Int32 → gs_St → Prop,
  (∀ (v_1 : Int32) (v_2 : Int32) (σ : gs_St), (((8 : Int32) ≤ v_2 → X28 v_1 (0 : Int32) σ) ∧ (¬ ((8 : Int32) ≤ v_2) → vp_in ((v_2 * (17 : Int32)) + v_1) 136 ∧ ∀ σ1 : gs_St, σ1 = gs_L σ 0 (vp_updL (σ.2.2 0) ((v_2 * (17 : Int32)) + v_1).toNatClampNeg (0 : Int64)) → ∀ v2 : Int32, v2 = v_2 + 1 → X2 v_1 v2 σ1)) → X2 v_1 v_2 σ) →
  (∀ (v_1 : Int32) (v_2 : Int32) (σ : gs_St), (((8 : Int32) ≤ v_2 → X115 v_1 (0 : Int32) σ) ∧ (¬ ((8 : Int32) ≤ v_2) → C_Ld_inOrder v_2 σ (fun r4 σ3 => X46 v_1 v_2 r4 (0 : Int32) σ3))) → X28 v_1 v_2 σ) →
  (∀ (v_1 : Int32) (v_2 : Int32) (v_3 : Int32) (v_4 : Int32) (σ : gs_St), (((σ.1 2) ≤ v_4 → ∀ v5 : Int32, v5 = v_2 + 1 → X28 v_1 v5 σ) ∧ (¬ ((σ.1 2) ≤ v_4) → (v_4 = (σ.1 4) → ∀ v6 : Int32, v6 = v_4 + 1 → X46 v_1 v_2 v_3 v6 σ) ∧ (¬ (v_4 = (σ.1 4)) → C_Gr_leftOf v_4 σ (fun r8 σ7 => (¬ r8 = v_3 → ∀ v9 : Int32, v9 = v_4 + 1 → X46 v_1 v_2 v_3 v9 σ7) ∧ (¬ (¬ r8 = v_3) → C_Co_fillEndings v_4 v_1 σ7 (fun σ10 => C_Co_endingsOf v_4 (0 : Int32) v_1 σ10 (fun r12 σ11 => C_Co_addTrees v_3 v_1 r12 σ11 (fun σ13 => ∀ v14 : Int32, v14 = v_4 + 1 → X46 v_1 v_2 v_3 v14 σ13)))))))) → X46 v_1 v_2 v_3 v_4 σ) →
  (∀ (v_1 : Int32) (v_2 : Int32) (σ : gs_St), (((σ.1 2) ≤ v_2 → K σ) ∧ (¬ ((σ.1 2) ≤ v_2) → (v_2 = (σ.1 4) → ∀ v15 : Int32, v15 = v_2 + 1 → X115 v_1 v15 σ) ∧ (¬ (v_2 = (σ.1 4)) → C_Co_fillEndings v_2 v_1 σ (fun σ16 => ∀ v17 : Int32, v17 = v_2 + 1 → X115 v_1 v17 σ16)))) → X115 v_1 v_2 σ) →
  (X2 a0 (0 : Int32) σ)
def C_Co_treesOf (a0 : Int32) (a1 : Int32) (σ : gs_St) (K : Int64 → gs_St → Prop) : Prop :=
  ∀ X5 : Int32 → Int32 → Int32 → gs_St → Prop,
  (∀ (v_1 : Int32) (v_2 : Int32) (v_3 : Int32) (σ : gs_St), ((v_2 < v_3 → vp_in ((v_1 * (17 : Int32)) + v_2) 136 ∧ (K (σ.2.2 0 ((v_1 * (17 : Int32)) + v_2).toNatClampNeg) σ)) ∧ (¬ (v_2 < v_3) → C_Co_countLength v_3 σ (fun σ2 => ∀ σ3 : gs_St, σ3 = gs_I σ2 5 (v_3 + (1 : Int32)) → ∀ v4 : Int32, v4 = v_3 + 1 → X5 v_1 v_2 v4 σ3))) → X5 v_1 v_2 v_3 σ) →
  (∀ v1 : Int32, v1 = σ.1 5 → X5 a0 a1 v1 σ)
def C_Gl_trees (a0 : Int32) (a1 : Int32) (σ : gs_St) (K : Int64 → gs_St → Prop) : Prop :=
  (C_Gl_isNonterminal a0 σ (fun r2 σ1 => (r2 = 0 → K (-1 : Int64) σ1) ∧ (¬ (r2 = 0) → C_Gl_isCounted a1 σ1 (fun r4 σ3 => (¬ r4 = 0 → C_Co_treesOf a0 a1 σ3 (fun r6 σ5 => (r6 ≤ (1000000000000000000 : Int64) → K r6 σ5) ∧ (¬ (r6 ≤ (1000000000000000000 : Int64)) → K (-2 : Int64) σ5))) ∧ (¬ (¬ r4 = 0) → K (-1 : Int64) σ3)))))
def C_Co_leaveOutw (a0 : Int32) (σ : gs_St) (K : gs_St → Prop) : Prop :=
  (((σ.1 6) = a0 → K σ) ∧ (¬ ((σ.1 6) = a0) → ∀ σ1 : gs_St, σ1 = gs_I σ 6 a0 → C_Co_forgetw σ1 (fun σ2 => K σ2)))
def C_Co_pairsw (a0 : Int32) (a1 : Int32) (a2 : Int32) (σ : gs_St) (K : Int64 → gs_St → Prop) : Prop :=
  ∀ X6 : Int32 → Int32 → Int32 → Int64 → Int32 → gs_St → Prop,
  (∀ (v_1 : Int32) (v_2 : Int32) (v_3 : Int32) (v_4 : Int64) (v_6 : Int32) (σ : gs_St), ((v_3 < v_6 → K v_4 σ) ∧ (¬ (v_3 < v_6) → vp_in (v_1 + v_6) 136 ∧ (∀ v1 : Int64, v1 = σ.2.2 2 (v_1 + v_6).toNatClampNeg → (v1 = (0 : Int64) → ∀ v2 : Int32, v2 = v_6 + 1 → X6 v_1 v_2 v_3 v_4 v2 σ) ∧ (¬ (v1 = (0 : Int64)) → vp_in (v_2 - v_6) 2856 ∧ (C_Co_times v1 (σ.2.2 3 (v_2 - v_6).toNatClampNeg) σ (fun r4 σ3 => C_Co_plus v_4 r4 σ3 (fun r6 σ5 => ∀ v7 : Int32, v7 = v_6 + 1 → X6 v_1 v_2 v_3 r6 v7 σ5))))))) → X6 v_1 v_2 v_3 v_4 v_6 σ) →
  (X6 a0 a1 a2 (0 : Int64) (0 : Int32) σ)
def C_Co_fillEndingsw (a0 : Int32) (a1 : Int32) (σ : gs_St) (K : gs_St → Prop) : Prop :=
  ∀ X35 : Int32 → Int32 → Int32 → gs_St → Prop,
  (∀ (v_1 : Int32) (v_2 : Int32) (v_4 : Int32) (σ : gs_St), ((v_4 < 0 → K σ) ∧ (¬ (v_4 < 0) → C_Gr_symbolAt v_1 v_4 σ (fun r10 σ9 => C_Co_endingsAt v_1 (v_4 + (1 : Int32)) σ9 (fun r12 σ11 => ∀ v13 : Int32, v13 = r12 + v_2 → C_Gl_isNonterminal r10 σ11 (fun r15 σ14 => (r15 = 0 → (v_2 ≤ 0 → C_Co_endingsAt v_1 v_4 σ14 (fun r17 σ16 => vp_in (r17 + v_2) 2856 ∧ ∀ σ18 : gs_St, σ18 = gs_L σ16 3 (vp_updL (σ16.2.2 3) (r17 + v_2).toNatClampNeg (0 : Int64)) → ∀ v19 : Int32, v19 = v_4 + (-1) → X35 v_1 v_2 v19 σ18)) ∧ (¬ (v_2 ≤ 0) → vp_in (v13 - (1 : Int32)) 2856 ∧ (∀ v20 : Int64, v20 = σ14.2.2 3 (v13 - (1 : Int32)).toNatClampNeg → C_Co_endingsAt v_1 v_4 σ14 (fun r22 σ21 => vp_in (r22 + v_2) 2856 ∧ ∀ σ23 : gs_St, σ23 = gs_L σ21 3 (vp_updL (σ21.2.2 3) (r22 + v_2).toNatClampNeg v20) → ∀ v24 : Int32, v24 = v_4 + (-1) → X35 v_1 v_2 v24 σ23)))) ∧ (¬ (r15 = 0) → C_Co_pairsw (r10 * (17 : Int32)) v13 v_2 σ14 (fun r26 σ25 => C_Co_endingsAt v_1 v_4 σ25 (fun r28 σ27 => vp_in (r28 + v_2) 2856 ∧ ∀ σ29 : gs_St, σ29 = gs_L σ27 3 (vp_updL (σ27.2.2 3) (r28 + v_2).toNatClampNeg r26) → ∀ v30 : Int32, v30 = v_4 + (-1) → X35 v_1 v_2 v30 σ29)))))))) → X35 v_1 v_2 v_4 σ) →
  (C_Gr_sizeOf a0 σ (fun r2 σ1 => C_Co_endingsAt a0 r2 σ1 (fun r4 σ3 => (¬ a1 = 0 → vp_in (r4 + a1) 2856 ∧ ∀ σ5 : gs_St, σ5 = gs_L σ3 3 (vp_updL (σ3.2.2 3) (r4 + a1).toNatClampNeg (0 : Int64)) → ∀ v6 : Int32, v6 = r2 - (1 : Int32) → X35 a0 a1 v6 σ5) ∧ (¬ (¬ a1 = 0) → vp_in (r4 + a1) 2856 ∧ ∀ σ7 : gs_St, σ7 = gs_L σ3 3 (vp_updL (σ3.2.2 3) (r4 + a1).toNatClampNeg (1 : Int64)) → ∀ v8 : Int32, v8 = r2 - (1 : Int32) → X35 a0 a1 v8 σ7))))
def C_Co_endingsOfw (a0 : Int32) (a1 : Int32) (a2 : Int32) (σ : gs_St) (K : Int64 → gs_St → Prop) : Prop :=
  (C_Co_endingsAt a0 a1 σ (fun r2 σ1 => vp_in (r2 + a2) 2856 ∧ (K (σ1.2.2 3 (r2 + a2).toNatClampNeg) σ1)))
def C_Co_addTreesw (a0 : Int32) (a1 : Int32) (a2 : Int64) (σ : gs_St) (K : gs_St → Prop) : Prop :=
  (∀ v1 : Int32, v1 = (a0 * (17 : Int32)) + a1 → vp_in v1 136 ∧ (C_Co_plus (σ.2.2 2 v1.toNatClampNeg) a2 σ (fun r3 σ2 => vp_in v1 136 ∧ ∀ σ4 : gs_St, σ4 = gs_L σ2 2 (vp_updL (σ2.2.2 2) v1.toNatClampNeg r3) → K σ4)))
def C_Co_countLengthw (a0 : Int32) (σ : gs_St) (K : gs_St → Prop) : Prop :=
  ∀ X2 : Int32 → Int32 → gs_St → Prop,
  ∀ X28 : Int32 → Int32 → gs_St → Prop,
  ∀ X46 : Int32 → Int32 → Int32 → Int32 → gs_St → Prop,
  ∀ X115 : Int32 → Int32 → gs_St → Prop,
  (∀ (v_1 : Int32) (v_2 : Int32) (σ : gs_St), (((8 : Int32) ≤ v_2 → X28 v_1 (0 : Int32) σ) ∧ (¬ ((8 : Int32) ≤ v_2) → vp_in ((v_2 * (17 : Int32)) + v_1) 136 ∧ ∀ σ1 : gs_St, σ1 = gs_L σ 2 (vp_updL (σ.2.2 2) ((v_2 * (17 : Int32)) + v_1).toNatClampNeg (0 : Int64)) → ∀ v2 : Int32, v2 = v_2 + 1 → X2 v_1 v2 σ1)) → X2 v_1 v_2 σ) →
  (∀ (v_1 : Int32) (v_2 : Int32) (σ : gs_St), (((8 : Int32) ≤ v_2 → X115 v_1 (0 : Int32) σ) ∧ (¬ ((8 : Int32) ≤ v_2) → C_Ld_inOrder v_2 σ (fun r4 σ3 => X46 v_1 v_2 r4 (0 : Int32) σ3))) → X28 v_1 v_2 σ) →
  (∀ (v_1 : Int32) (v_2 : Int32) (v_3 : Int32) (v_4 : Int32) (σ : gs_St), (((σ.1 2) ≤ v_4 → ∀ v5 : Int32, v5 = v_2 + 1 → X28 v_1 v5 σ) ∧ (¬ ((σ.1 2) ≤ v_4) → (v_4 = (σ.1 6) → ∀ v6 : Int32, v6 = v_4 + 1 → X46 v_1 v_2 v_3 v6 σ) ∧ (¬ (v_4 = (σ.1 6)) → C_Gr_leftOf v_4 σ (fun r8 σ7 => (¬ r8 = v_3 → ∀ v9 : Int32, v9 = v_4 + 1 → X46 v_1 v_2 v_3 v9 σ7) ∧ (¬ (¬ r8 = v_3) → C_Co_fillEndingsw v_4 v_1 σ7 (fun σ10 => C_Co_endingsOfw v_4 (0 : Int32) v_1 σ10 (fun r12 σ11 => C_Co_addTreesw v_3 v_1 r12 σ11 (fun σ13 => ∀ v14 : Int32, v14 = v_4 + 1 → X46 v_1 v_2 v_3 v14 σ13)))))))) → X46 v_1 v_2 v_3 v_4 σ) →
  (∀ (v_1 : Int32) (v_2 : Int32) (σ : gs_St), (((σ.1 2) ≤ v_2 → K σ) ∧ (¬ ((σ.1 2) ≤ v_2) → (v_2 = (σ.1 6) → ∀ v15 : Int32, v15 = v_2 + 1 → X115 v_1 v15 σ) ∧ (¬ (v_2 = (σ.1 6)) → C_Co_fillEndingsw v_2 v_1 σ (fun σ16 => ∀ v17 : Int32, v17 = v_2 + 1 → X115 v_1 v17 σ16)))) → X115 v_1 v_2 σ) →
  (X2 a0 (0 : Int32) σ)
def C_Co_treesOfw (a0 : Int32) (a1 : Int32) (σ : gs_St) (K : Int64 → gs_St → Prop) : Prop :=
  ∀ X5 : Int32 → Int32 → Int32 → gs_St → Prop,
  (∀ (v_1 : Int32) (v_2 : Int32) (v_3 : Int32) (σ : gs_St), ((v_2 < v_3 → vp_in ((v_1 * (17 : Int32)) + v_2) 136 ∧ (K (σ.2.2 2 ((v_1 * (17 : Int32)) + v_2).toNatClampNeg) σ)) ∧ (¬ (v_2 < v_3) → C_Co_countLengthw v_3 σ (fun σ2 => ∀ σ3 : gs_St, σ3 = gs_I σ2 7 (v_3 + (1 : Int32)) → ∀ v4 : Int32, v4 = v_3 + 1 → X5 v_1 v_2 v4 σ3))) → X5 v_1 v_2 v_3 σ) →
  (∀ v1 : Int32, v1 = σ.1 7 → X5 a0 a1 v1 σ)
def C_Gl_treesWith (a0 : Int32) (a1 : Int32) (σ : gs_St) (K : Int64 → gs_St → Prop) : Prop :=
  (C_Gr_has a0 σ (fun r2 σ1 => (r2 = 0 → K (-1 : Int64) σ1) ∧ (¬ (r2 = 0) → C_Gl_isCounted a1 σ1 (fun r4 σ3 => (¬ r4 = 0 → C_Co_treesOf (0 : Int32) a1 σ3 (fun r6 σ5 => (r6 ≤ (1000000000000000000 : Int64) → C_Co_leaveOutw a0 σ5 (fun σ7 => C_Co_treesOfw (0 : Int32) a1 σ7 (fun r9 σ8 => K (r6 - r9) σ8))) ∧ (¬ (r6 ≤ (1000000000000000000 : Int64)) → K (-2 : Int64) σ5))) ∧ (¬ (¬ r4 = 0) → K (-1 : Int64) σ3)))))
def C_Dr_clear (σ : gs_St) (K : gs_St → Prop) : Prop :=
  (∀ σ1 : gs_St, σ1 = gs_I σ 12 (0 : Int32) → ∀ σ2 : gs_St, σ2 = gs_I σ1 13 (0 : Int32) → K σ2)
def C_Pi_put (a0 : Int32) (a1 : Int32) (a2 : Int32) (a3 : Int64) (σ : gs_St) (K : gs_St → Prop) : Prop :=
  ((a0 < 0 → K σ) ∧ (¬ (a0 < 0) → ((216 : Int32) ≤ a0 → K σ) ∧ (¬ ((216 : Int32) ≤ a0) → vp_in a0 216 ∧ ∀ σ1 : gs_St, σ1 = gs_A σ 8 (upd (σ.2.1 8) a0.toNatClampNeg a1) → vp_in a0 216 ∧ ∀ σ2 : gs_St, σ2 = gs_A σ1 9 (upd (σ1.2.1 9) a0.toNatClampNeg a2) → vp_in a0 216 ∧ ∀ σ3 : gs_St, σ3 = gs_L σ2 4 (vp_updL (σ2.2.2 4) a0.toNatClampNeg a3) → K σ3)))
def C_Gr_nonterminalsIn (a0 : Int32) (σ : gs_St) (K : Int32 → gs_St → Prop) : Prop :=
  ∀ X4 : Int32 → Int32 → Int32 → gs_St → Prop,
  (∀ (v_1 : Int32) (v_2 : Int32) (v_3 : Int32) (σ : gs_St), (vp_in v_1 24 ∧ (((σ.2.1 2 v_1.toNatClampNeg) ≤ v_3 → K v_2 σ) ∧ (¬ ((σ.2.1 2 v_1.toNatClampNeg) ≤ v_3) → C_Gr_symbolAt v_1 v_3 σ (fun r2 σ1 => C_Gl_isNonterminal r2 σ1 (fun r4 σ3 => (r4 = 0 → ∀ v5 : Int32, v5 = v_3 + 1 → X4 v_1 v_2 v5 σ3) ∧ (¬ (r4 = 0) → ∀ v6 : Int32, v6 = v_2 + 1 → ∀ v7 : Int32, v7 = v_3 + 1 → X4 v_1 v6 v7 σ3)))))) → X4 v_1 v_2 v_3 σ) →
  (X4 a0 (0 : Int32) (0 : Int32) σ)
def C_Dr_addRule (a0 : Int32) (σ : gs_St) (K : gs_St → Prop) : Prop :=
  (((200 : Int32) ≤ (σ.1 12) → K σ) ∧ (¬ ((200 : Int32) ≤ (σ.1 12)) → vp_in (σ.1 12) 200 ∧ ∀ σ1 : gs_St, σ1 = gs_A σ 12 (upd (σ.2.1 12) (σ.1 12).toNatClampNeg a0) → ∀ σ2 : gs_St, σ2 = gs_I σ1 12 ((σ1.1 12) + (1 : Int32)) → K σ2))
def C_Co_endingsWith (a0 : Int32) (a1 : Int32) (a2 : Int32) (a3 : Int32) (σ : gs_St) (K : Int64 → gs_St → Prop) : Prop :=
  ∀ X21 : Int32 → Int32 → Int32 → Int32 → Int32 → Int64 → gs_St → Prop,
  (∀ (v_1 : Int32) (v_2 : Int32) (v_3 : Int32) (v_4 : Int32) (v_5 : Int32) (s_0 : Int64) (σ : gs_St), (C_Gl_isNonterminal v_5 σ (fun r4 σ3 => (r4 = 0 → C_Co_endingsAt v_1 (v_2 + (1 : Int32)) σ3 (fun r6 σ5 => vp_in ((r6 + v_4) - v_3) 2856 ∧ (C_Co_times s_0 (σ5.2.2 1 ((r6 + v_4) - v_3).toNatClampNeg) σ5 (fun r8 σ7 => K r8 σ7)))) ∧ (¬ (r4 = 0) → vp_in ((v_5 * (17 : Int32)) + v_3) 136 ∧ (∀ v9 : Int64, v9 = σ3.2.2 0 ((v_5 * (17 : Int32)) + v_3).toNatClampNeg → C_Co_endingsAt v_1 (v_2 + (1 : Int32)) σ3 (fun r11 σ10 => vp_in ((r11 + v_4) - v_3) 2856 ∧ (C_Co_times v9 (σ10.2.2 1 ((r11 + v_4) - v_3).toNatClampNeg) σ10 (fun r13 σ12 => K r13 σ12))))))) → X21 v_1 v_2 v_3 v_4 v_5 s_0 σ) →
  (C_Gr_symbolAt a0 a1 σ (fun r2 σ1 => (¬ a2 = (1 : Int32) → X21 a0 a1 a2 a3 r2 (0 : Int64) σ1) ∧ (¬ (¬ a2 = (1 : Int32)) → X21 a0 a1 a2 a3 r2 (1 : Int64) σ1)))
def C_We_unfoldRule (a0 : Int32) (a1 : Int32) (a2 : Int64) (σ : gs_St) (K : Int32 → gs_St → Prop) : Prop :=
  ∀ X68 : Int32 → Int32 → Int32 → Int64 → Int32 → gs_St → Prop,
  ∀ X94 : Int32 → Int32 → Int32 → Int64 → Int32 → Int32 → Int64 → gs_St → Prop,
  ∀ X138 : Int32 → Int32 → Int32 → Int64 → Int32 → Int32 → gs_St → Prop,
  (∀ (v_1 : Int32) (v_5 : Int32) (v_6 : Int32) (v_7 : Int64) (v_9 : Int32) (σ : gs_St), ((v_5 ≤ v_9 → ∀ σ7 : gs_St, σ7 = gs_I σ 8 ((σ.1 8) + v_5) → K (1 : Int32) σ7) ∧ (¬ (v_5 ≤ v_9) → C_Co_endingsWith v_1 v_9 (0 : Int32) v_6 σ (fun r9 σ8 => X94 v_1 v_5 v_6 v_7 v_9 (0 : Int32) r9 σ8))) → X68 v_1 v_5 v_6 v_7 v_9 σ) →
  (∀ (v_1 : Int32) (v_5 : Int32) (v_6 : Int32) (v_7 : Int64) (v_9 : Int32) (v_10 : Int32) (v_11 : Int64) (σ : gs_St), ((v_6 ≤ v_10 → X138 v_1 v_5 v_6 v_7 v_9 v_10 σ) ∧ (¬ (v_6 ≤ v_10) → (v_7 < v_11 → X138 v_1 v_5 v_6 v_7 v_9 v_10 σ) ∧ (¬ (v_7 < v_11) → ∀ v10 : Int64, v10 = v_7 - v_11 → ∀ v11 : Int32, v11 = v_10 + 1 → C_Co_endingsWith v_1 v_9 v11 v_6 σ (fun r13 σ12 => X94 v_1 v_5 v_6 v10 v_9 v11 r13 σ12)))) → X94 v_1 v_5 v_6 v_7 v_9 v_10 v_11 σ) →
  (∀ (v_1 : Int32) (v_5 : Int32) (v_6 : Int32) (v_7 : Int64) (v_9 : Int32) (v_10 : Int32) (σ : gs_St), (∀ v14 : Int32, v14 = v_6 - v_10 → C_Co_endingsOf v_1 (v_9 + (1 : Int32)) v14 σ (fun r16 σ15 => ∀ v17 : Int64, v17 = (if r16 < (1 : Int64) then (1 : Int64) else r16) → C_Gr_symbolAt v_1 v_9 σ15 (fun r19 σ18 => ¬ v17 = 0 ∧ (C_Pi_put ((((σ15.1 8) + v_5) - (1 : Int32)) - v_9) r19 v_10 (v_7 / v17) σ18 (fun σ20 => ¬ v17 = 0 ∧ (∀ v21 : Int64, v21 = v_7 - v_7 / v17 * v17 → ∀ v22 : Int32, v22 = v_9 + 1 → X68 v_1 v_5 v14 v21 v22 σ20)))))) → X138 v_1 v_5 v_6 v_7 v_9 v_10 σ) →
  (C_Gr_nonterminalsIn a0 σ (fun r2 σ1 => ∀ σ3 : gs_St, σ3 = gs_I σ1 9 ((σ.1 9) + (r2 - (1 : Int32))) → ((((σ3.1 12) + (1 : Int32)) + (σ3.1 9)) ≤ (200 : Int32) → C_Dr_addRule a0 σ3 (fun σ4 => C_Gr_sizeOf a0 σ4 (fun r6 σ5 => X68 a0 r6 a1 a2 (0 : Int32) σ5))) ∧ (¬ ((((σ3.1 12) + (1 : Int32)) + (σ3.1 9)) ≤ (200 : Int32)) → K (0 : Int32) σ3)))
def C_We_unfold (a0 : Int32) (a1 : Int32) (a2 : Int64) (σ : gs_St) (K : Int32 → gs_St → Prop) : Prop :=
  ∀ X6 : Int32 → Int32 → Int64 → Int32 → gs_St → Prop,
  (∀ (v_1 : Int32) (v_2 : Int32) (v_5 : Int64) (v_7 : Int32) (σ : gs_St), (((σ.1 2) ≤ v_7 → K (0 : Int32) σ) ∧ (¬ ((σ.1 2) ≤ v_7) → C_Gr_leftOf v_7 σ (fun r2 σ1 => (¬ r2 = v_1 → ∀ v3 : Int32, v3 = v_7 + 1 → X6 v_1 v_2 v_5 v3 σ1) ∧ (¬ (¬ r2 = v_1) → C_Co_endingsOf v_7 (0 : Int32) v_2 σ1 (fun r5 σ4 => (r5 ≤ v_5 → ∀ v6 : Int64, v6 = v_5 - r5 → ∀ v7 : Int32, v7 = v_7 + 1 → X6 v_1 v_2 v6 v7 σ4) ∧ (¬ (r5 ≤ v_5) → C_We_unfoldRule v_7 v_2 v_5 σ4 (fun r9 σ8 => K r9 σ8))))))) → X6 v_1 v_2 v_5 v_7 σ) →
  (X6 a0 a1 a2 (0 : Int32) σ)
def C_Dr_addLeaf (a0 : Int32) (σ : gs_St) (K : gs_St → Prop) : Prop :=
  (((16 : Int32) ≤ (σ.1 13) → K σ) ∧ (¬ ((16 : Int32) ≤ (σ.1 13)) → vp_in (σ.1 13) 16 ∧ ∀ σ1 : gs_St, σ1 = gs_A σ 13 (upd (σ.2.1 13) (σ.1 13).toNatClampNeg a0) → ∀ σ2 : gs_St, σ2 = gs_I σ1 13 ((σ1.1 13) + (1 : Int32)) → K σ2))
def C_We_weave (a0 : Int32) (a1 : Int32) (a2 : Int64) (σ : gs_St) (K : Int32 → (gs_St × Bool) → Prop) : Prop :=
  ∀ X34 : Int32 → gs_St → Prop,
  (∀ (v_5 : Int32) (σ : gs_St), (((216 : Int32) ≤ v_5 → K ((gs_sS σ).1 10) (gs_sS σ, true)) ∧ (¬ ((216 : Int32) ≤ v_5) → ((σ.1 8) ≤ 0 → K ((gs_sS σ).1 10) (gs_sS σ, true)) ∧ (¬ ((σ.1 8) ≤ 0) → ∀ σ5 : gs_St, σ5 = gs_I σ 8 ((σ.1 8) - (1 : Int32)) → vp_in (σ5.1 8) 216 ∧ (∀ v6 : Int32, v6 = σ5.2.1 8 (σ5.1 8).toNatClampNeg → C_Gl_isNonterminal v6 σ5 (fun r8 σ7 => (¬ r8 = 0 → vp_in (σ7.1 8) 216 ∧ (vp_in (σ7.1 8) 216 ∧ (C_We_unfold v6 (σ7.2.1 9 (σ7.1 8).toNatClampNeg) (σ7.2.2 4 (σ7.1 8).toNatClampNeg) σ7 (fun r10 σ9 => (¬ r10 = 0 → ∀ v11 : Int32, v11 = v_5 + 1 → X34 v11 σ9) ∧ (¬ (¬ r10 = 0) → K (-2 : Int32) (σ9, false)))))) ∧ (¬ (¬ r8 = 0) → C_Dr_addLeaf v6 σ7 (fun σ12 => ∀ v13 : Int32, v13 = v_5 + 1 → X34 v13 σ12))))))) → X34 v_5 σ) →
  (C_Dr_clear σ (fun σ1 => C_Pi_put (0 : Int32) a0 a1 a2 σ1 (fun σ2 => ∀ σ3 : gs_St, σ3 = gs_I σ2 8 (1 : Int32) → ∀ σ4 : gs_St, σ4 = gs_I σ3 9 (1 : Int32) → X34 (0 : Int32) σ4)))
def C_Gl_draw (a0 : Int32) (a1 : Int32) (a2 : Int64) (σ : gs_St) (K : Int32 → (gs_St × Bool) → Prop) : Prop :=
  ((a2 < (0 : Int64) → K (-1 : Int32) (σ, false)) ∧ (¬ (a2 < (0 : Int64)) → C_Gl_trees a0 a1 σ (fun r2 σ1 => (a2 < r2 → C_We_weave a0 a1 a2 σ1 (fun r4 σ3 => K r4 σ3)) ∧ (¬ (a2 < r2) → K (-1 : Int32) (σ1, false)))))
def C_We_ruleAt (a0 : Int32) (σ : gs_St) (K : Int32 → gs_St → Prop) : Prop :=
  ((a0 < 0 → K (-1 : Int32) σ) ∧ (¬ (a0 < 0) → ((σ.1 10) ≤ a0 → K (-1 : Int32) σ) ∧ (¬ ((σ.1 10) ≤ a0) → vp_in a0 200 ∧ (K (σ.2.1 10 a0.toNatClampNeg) σ))))
def C_Gl_row (a0 : Int32) (σ : gs_St) (K : Int32 → gs_St → Prop) : Prop :=
  (C_We_ruleAt a0 σ (fun r2 σ1 => K r2 σ1))
def C_We_leafAt (a0 : Int32) (σ : gs_St) (K : Int32 → gs_St → Prop) : Prop :=
  ((a0 < 0 → K (-1 : Int32) σ) ∧ (¬ (a0 < 0) → ((σ.1 11) ≤ a0 → K (-1 : Int32) σ) ∧ (¬ ((σ.1 11) ≤ a0) → vp_in a0 16 ∧ (K (σ.2.1 11 a0.toNatClampNeg) σ))))
def C_Gl_leaf (a0 : Int32) (σ : gs_St) (K : Int32 → gs_St → Prop) : Prop :=
  (C_We_leafAt a0 σ (fun r2 σ1 => K r2 σ1))
def C_Li_add (a0 : Int32) (σ : gs_St) (K : Int32 → gs_St → Prop) : Prop :=
  (((σ.1 14) < (200 : Int32) → vp_in (σ.1 14) 200 ∧ ∀ σ1 : gs_St, σ1 = gs_A σ 14 (upd (σ.2.1 14) (σ.1 14).toNatClampNeg a0) → ∀ σ2 : gs_St, σ2 = gs_I σ1 14 ((σ1.1 14) + (1 : Int32)) → K (σ2.1 14) σ2) ∧ (¬ ((σ.1 14) < (200 : Int32)) → K (-1 : Int32) σ))
def C_Gl_list (a0 : Int32) (σ : gs_St) (K : Int32 → gs_St → Prop) : Prop :=
  (C_Li_add a0 σ (fun r2 σ1 => K r2 σ1))
def C_Li_terminals (σ : gs_St) (K : Int32 → gs_St → Prop) : Prop :=
  ∀ X4 : Int32 → Int32 → gs_St → Prop,
  (∀ (v_1 : Int32) (v_2 : Int32) (σ : gs_St), (((σ.1 14) ≤ v_2 → K v_1 σ) ∧ (¬ ((σ.1 14) ≤ v_2) → vp_in v_2 200 ∧ (C_Gr_has (σ.2.1 14 v_2.toNatClampNeg) σ (fun r2 σ1 => (¬ r2 = 0 → vp_in v_2 200 ∧ (C_Gr_sizeOf (σ1.2.1 14 v_2.toNatClampNeg) σ1 (fun r4 σ3 => vp_in v_2 200 ∧ (C_Gr_nonterminalsIn (σ3.2.1 14 v_2.toNatClampNeg) σ3 (fun r6 σ5 => ∀ v7 : Int32, v7 = v_1 + (r4 - r6) → ∀ v8 : Int32, v8 = v_2 + 1 → X4 v7 v8 σ5))))) ∧ (¬ (¬ r2 = 0) → K (-1 : Int32) σ1))))) → X4 v_1 v_2 σ) →
  (X4 (0 : Int32) (0 : Int32) σ)
def C_Li_treesBefore (a0 : Int32) (a1 : Int32) (σ : gs_St) (K : Int64 → gs_St → Prop) : Prop :=
  ∀ X5 : Int32 → Int32 → Int64 → Int32 → gs_St → Prop,
  (∀ (v_1 : Int32) (v_2 : Int32) (v_3 : Int64) (v_5 : Int32) (σ : gs_St), ((v_1 ≤ v_5 → K v_3 σ) ∧ (¬ (v_1 ≤ v_5) → C_Gr_leftOf v_5 σ (fun r2 σ1 => C_Gr_leftOf v_1 σ1 (fun r4 σ3 => (¬ r2 = r4 → ∀ v5 : Int32, v5 = v_5 + 1 → X5 v_1 v_2 v_3 v5 σ3) ∧ (¬ (¬ r2 = r4) → C_Co_endingsOf v_5 (0 : Int32) v_2 σ3 (fun r7 σ6 => ∀ v8 : Int64, v8 = v_3 + r7 → ∀ v9 : Int32, v9 = v_5 + 1 → X5 v_1 v_2 v8 v9 σ6)))))) → X5 v_1 v_2 v_3 v_5 σ) →
  (X5 a0 a1 (0 : Int64) (0 : Int32) σ)
def C_Li_numberInRule (a0 : Int32) (a1 : Int32) (σ : gs_St) (K : Int64 → gs_St → Prop) : Prop :=
  ∀ X17 : Int32 → Int64 → Int32 → Int32 → Int32 → gs_St → Prop,
  ∀ X82 : Int32 → Int64 → Int32 → Int32 → Int32 → Int32 → Int64 → Int32 → gs_St → Prop,
  (∀ (v_1 : Int32) (v_3 : Int64) (v_5 : Int32) (v_6 : Int32) (v_7 : Int32) (σ : gs_St), (C_Gr_sizeOf v_1 σ (fun r3 σ2 => (r3 ≤ v_7 → K v_3 σ2) ∧ (¬ (r3 ≤ v_7) → C_Gr_symbolAt v_1 v_7 σ2 (fun r5 σ4 => C_Gl_isNonterminal r5 σ4 (fun r7 σ6 => (r7 = 0 → X82 v_1 v_3 v_5 v_6 v_7 (1 : Int32) (0 : Int64) (0 : Int32) σ6) ∧ (¬ (r7 = 0) → ∀ v8 : Int32, v8 = v_6 + (-1) → vp_in v8 216 ∧ (∀ v9 : Int32, v9 = σ6.2.1 9 v8.toNatClampNeg → vp_in v8 216 ∧ (∀ v10 : Int64, v10 = σ6.2.2 4 v8.toNatClampNeg → X82 v_1 v_3 v_5 v8 v_7 v9 v10 (0 : Int32) σ6)))))))) → X17 v_1 v_3 v_5 v_6 v_7 σ) →
  (∀ (v_1 : Int32) (v_3 : Int64) (v_5 : Int32) (v_6 : Int32) (v_7 : Int32) (v_8 : Int32) (v_9 : Int64) (v_11 : Int32) (σ : gs_St), ((v_8 ≤ v_11 → ∀ v11 : Int32, v11 = v_5 - v_8 → C_Co_endingsOf v_1 (v_7 + (1 : Int32)) v11 σ (fun r13 σ12 => ∀ v14 : Int64, v14 = v_3 + (v_9 * r13) → ∀ v15 : Int32, v15 = v_7 + 1 → X17 v_1 v14 v11 v_6 v15 σ12)) ∧ (¬ (v_8 ≤ v_11) → C_Co_endingsWith v_1 v_7 v_11 v_5 σ (fun r17 σ16 => ∀ v18 : Int64, v18 = v_3 + r17 → ∀ v19 : Int32, v19 = v_11 + 1 → X82 v_1 v18 v_5 v_6 v_7 v_8 v_9 v19 σ16))) → X82 v_1 v_3 v_5 v_6 v_7 v_8 v_9 v_11 σ) →
  (∀ v1 : Int32, v1 = σ.1 8 → X17 a0 (0 : Int64) a1 v1 (0 : Int32) σ)
def C_Li_fold (a0 : Int32) (σ : gs_St) (K : Int32 → gs_St → Prop) : Prop :=
  ∀ X13 : Int32 → Int32 → Int32 → Int32 → gs_St → Prop,
  (∀ (v_1 : Int32) (v_2 : Int32) (v_3 : Int32) (v_4 : Int32) (σ : gs_St), (C_Gr_sizeOf v_1 σ (fun r3 σ2 => (r3 ≤ v_4 → C_Li_treesBefore v_1 v_2 σ2 (fun r5 σ4 => C_Li_numberInRule v_1 v_2 σ4 (fun r7 σ6 => ∀ v8 : Int64, v8 = r5 + r7 → C_Gr_leftOf v_1 σ6 (fun r10 σ9 => C_Pi_put v_3 r10 v_2 v8 σ9 (fun σ11 => ∀ σ12 : gs_St, σ12 = gs_I σ11 8 (v_3 + (1 : Int32)) → K (1 : Int32) σ12))))) ∧ (¬ (r3 ≤ v_4) → C_Gr_symbolAt v_1 v_4 σ2 (fun r14 σ13 => C_Gl_isNonterminal r14 σ13 (fun r16 σ15 => (¬ r16 = 0 → ∀ v17 : Int32, v17 = v_3 + (-1) → (v17 < 0 → K (0 : Int32) σ15) ∧ (¬ (v17 < 0) → vp_in v17 216 ∧ (((σ15.2.1 8 v17.toNatClampNeg) = r14 → vp_in v17 216 ∧ (∀ v18 : Int32, v18 = v_2 + (σ15.2.1 9 v17.toNatClampNeg) → ∀ v19 : Int32, v19 = v_4 + 1 → X13 v_1 v18 v17 v19 σ15)) ∧ (¬ ((σ15.2.1 8 v17.toNatClampNeg) = r14) → K (0 : Int32) σ15)))) ∧ (¬ (¬ r16 = 0) → ∀ v20 : Int32, v20 = v_2 + 1 → ∀ v21 : Int32, v21 = v_4 + 1 → X13 v_1 v20 v_3 v21 σ15)))))) → X13 v_1 v_2 v_3 v_4 σ) →
  (∀ v1 : Int32, v1 = σ.1 8 → X13 a0 (0 : Int32) v1 (0 : Int32) σ)
def C_Li_numberOf (a0 : Int32) (σ : gs_St) (K : Int64 → gs_St → Prop) : Prop :=
  ∀ X51 : Int32 → Int32 → gs_St → Prop,
  (∀ (v_1 : Int32) (v_3 : Int32) (σ : gs_St), ((v_3 < 0 → (¬ (σ.1 8) = (1 : Int32) → K (-1 : Int64) σ) ∧ (¬ (¬ (σ.1 8) = (1 : Int32)) → vp_in (0 : Int32) 216 ∧ ((¬ (σ.2.1 8 (0 : Int32).toNatClampNeg) = v_1 → K (-1 : Int64) σ) ∧ (¬ (¬ (σ.2.1 8 (0 : Int32).toNatClampNeg) = v_1) → vp_in (0 : Int32) 216 ∧ (K (σ.2.2 4 (0 : Int32).toNatClampNeg) σ))))) ∧ (¬ (v_3 < 0) → vp_in v_3 200 ∧ (C_Li_fold (σ.2.1 14 v_3.toNatClampNeg) σ (fun r8 σ7 => (¬ r8 = 0 → ∀ v9 : Int32, v9 = v_3 + (-1) → X51 v_1 v9 σ7) ∧ (¬ (¬ r8 = 0) → K (-1 : Int64) σ7))))) → X51 v_1 v_3 σ) →
  (C_Li_terminals σ (fun r2 σ1 => (r2 = (-1 : Int32) → K (-1 : Int64) σ1) ∧ (¬ (r2 = (-1 : Int32)) → ((16 : Int32) < r2 → K (-1 : Int64) σ1) ∧ (¬ ((16 : Int32) < r2) → C_Co_treesOf a0 r2 σ1 (fun r4 σ3 => (r4 ≤ (1000000000000000000 : Int64) → ∀ σ5 : gs_St, σ5 = gs_I σ3 8 (0 : Int32) → ∀ v6 : Int32, v6 = (σ5.1 14) - (1 : Int32) → X51 a0 v6 σ5) ∧ (¬ (r4 ≤ (1000000000000000000 : Int64)) → K (-1 : Int64) σ3))))))
def C_Gl_number (a0 : Int32) (σ : gs_St) (K : Int64 → gs_St → Prop) : Prop :=
  (C_Gl_isNonterminal a0 σ (fun r2 σ1 => (r2 = 0 → ∀ σ3 : gs_St, σ3 = gs_I σ1 14 (0 : Int32) → K (-1 : Int64) σ3) ∧ (¬ (r2 = 0) → C_Gl_circle σ1 (fun r5 σ4 => (¬ r5 = 0 → ∀ σ6 : gs_St, σ6 = gs_I σ4 14 (0 : Int32) → K (-1 : Int64) σ6) ∧ (¬ (¬ r5 = 0) → C_Li_numberOf a0 σ4 (fun r8 σ7 => ∀ σ9 : gs_St, σ9 = gs_I σ7 14 (0 : Int32) → K r8 σ9))))))
def C_Mo_symbol (a0 : Int32) (σ : gs_St) (K : Int32 → gs_St → Prop) : Prop :=
  ((a0 < 0 → K (-1 : Int32) σ) ∧ (¬ (a0 < 0) → ((24 : Int32) ≤ a0 → K (-1 : Int32) σ) ∧ (¬ ((24 : Int32) ≤ a0) → (¬ (σ.1 1) = (6 : Int32) → vp_in (σ.1 1) 6 ∧ ∀ σ1 : gs_St, σ1 = gs_A σ 3 (upd (σ.2.1 3) (σ.1 1).toNatClampNeg a0) → ∀ σ2 : gs_St, σ2 = gs_I σ1 1 ((σ1.1 1) + (1 : Int32)) → K (σ2.1 1) σ2) ∧ (¬ (¬ (σ.1 1) = (6 : Int32)) → K (-1 : Int32) σ))))
def C_Mo_isNonterminal (a0 : Int32) (σ : gs_St) (K : Int32 → gs_St → Prop) : Prop :=
  ((a0 < 0 → K (0 : Int32) σ) ∧ (¬ (a0 < 0) → ((8 : Int32) ≤ a0 → K (0 : Int32) σ) ∧ (¬ ((8 : Int32) ≤ a0) → K (1 : Int32) σ)))
def C_Mo_rule (a0 : Int32) (σ : gs_St) (K : Int32 → gs_St → Prop) : Prop :=
  ∀ X50 : Int32 → Int32 → gs_St → Prop,
  (∀ (v_2 : Int32) (v_3 : Int32) (σ : gs_St), ((v_2 ≤ v_3 → ∀ σ7 : gs_St, σ7 = gs_I σ 0 ((σ.1 0) + (1 : Int32)) → ∀ σ8 : gs_St, σ8 = gs_I σ7 5 (0 : Int32) → K ((σ8.1 0) - (1 : Int32)) σ8) ∧ (¬ (v_2 ≤ v_3) → vp_in v_3 6 ∧ (vp_in (((6 : Int32) * (σ.1 0)) + v_3) 144 ∧ ∀ σ9 : gs_St, σ9 = gs_A σ 2 (upd (σ.2.1 2) (((6 : Int32) * (σ.1 0)) + v_3).toNatClampNeg (σ.2.1 3 v_3.toNatClampNeg)) → ∀ v10 : Int32, v10 = v_3 + 1 → X50 v_2 v10 σ9))) → X50 v_2 v_3 σ) →
  (∀ v1 : Int32, v1 = σ.1 1 → ∀ σ2 : gs_St, σ2 = gs_I σ 1 (0 : Int32) → ((σ2.1 0) = (24 : Int32) → K (-1 : Int32) σ2) ∧ (¬ ((σ2.1 0) = (24 : Int32)) → C_Mo_isNonterminal a0 σ2 (fun r4 σ3 => (¬ r4 = 0 → vp_in (σ3.1 0) 24 ∧ ∀ σ5 : gs_St, σ5 = gs_A σ3 0 (upd (σ3.2.1 0) (σ3.1 0).toNatClampNeg a0) → vp_in (σ5.1 0) 24 ∧ ∀ σ6 : gs_St, σ6 = gs_A σ5 1 (upd (σ5.2.1 1) (σ5.1 0).toNatClampNeg v1) → X50 v1 (0 : Int32) σ6) ∧ (¬ (¬ r4 = 0) → K (-1 : Int32) σ3))))
def C_Mo_isRule (a0 : Int32) (σ : gs_St) (K : Int32 → gs_St → Prop) : Prop :=
  ((a0 < 0 → K (0 : Int32) σ) ∧ (¬ (a0 < 0) → ((σ.1 0) ≤ a0 → K (0 : Int32) σ) ∧ (¬ ((σ.1 0) ≤ a0) → K (1 : Int32) σ)))
def C_Mo_drop (a0 : Int32) (σ : gs_St) (K : Int32 → gs_St → Prop) : Prop :=
  ∀ X22 : Int32 → gs_St → Prop,
  ∀ X60 : Int32 → Int32 → gs_St → Prop,
  (∀ (v_2 : Int32) (σ : gs_St), (((σ.1 0) ≤ v_2 → ∀ σ4 : gs_St, σ4 = gs_I σ 5 (0 : Int32) → K (1 : Int32) σ4) ∧ (¬ ((σ.1 0) ≤ v_2) → vp_in (v_2 + (1 : Int32)) 24 ∧ (vp_in v_2 24 ∧ ∀ σ5 : gs_St, σ5 = gs_A σ 0 (upd (σ.2.1 0) v_2.toNatClampNeg (σ.2.1 0 (v_2 + (1 : Int32)).toNatClampNeg)) → vp_in (v_2 + (1 : Int32)) 24 ∧ (vp_in v_2 24 ∧ ∀ σ6 : gs_St, σ6 = gs_A σ5 1 (upd (σ5.2.1 1) v_2.toNatClampNeg (σ5.2.1 1 (v_2 + (1 : Int32)).toNatClampNeg)) → X60 v_2 (0 : Int32) σ6)))) → X22 v_2 σ) →
  (∀ (v_2 : Int32) (v_3 : Int32) (σ : gs_St), (((6 : Int32) ≤ v_3 → ∀ v7 : Int32, v7 = v_2 + 1 → X22 v7 σ) ∧ (¬ ((6 : Int32) ≤ v_3) → vp_in ((((6 : Int32) * v_2) + (6 : Int32)) + v_3) 144 ∧ (vp_in (((6 : Int32) * v_2) + v_3) 144 ∧ ∀ σ8 : gs_St, σ8 = gs_A σ 2 (upd (σ.2.1 2) (((6 : Int32) * v_2) + v_3).toNatClampNeg (σ.2.1 2 ((((6 : Int32) * v_2) + (6 : Int32)) + v_3).toNatClampNeg)) → ∀ v9 : Int32, v9 = v_3 + 1 → X60 v_2 v9 σ8))) → X60 v_2 v_3 σ) →
  (C_Mo_isRule a0 σ (fun r2 σ1 => (¬ r2 = 0 → ∀ σ3 : gs_St, σ3 = gs_I σ1 0 ((σ1.1 0) - (1 : Int32)) → X22 a0 σ3) ∧ (¬ (¬ r2 = 0) → K (0 : Int32) σ1)))
def C_Mo_count (a0 : Int32) (σ : gs_St) (K : Int32 → gs_St → Prop) : Prop :=
  ((¬ a0 = 0 → (¬ a0 = (1 : Int32) → (¬ a0 = (2 : Int32) → K (-1 : Int32) σ) ∧ (¬ (¬ a0 = (2 : Int32)) → K (σ.1 2) σ)) ∧ (¬ (¬ a0 = (1 : Int32)) → K (σ.1 1) σ)) ∧ (¬ (¬ a0 = 0) → K (σ.1 0) σ))
def C_Mo_at (a0 : Int32) (a1 : Int32) (σ : gs_St) (K : Int32 → gs_St → Prop) : Prop :=
  (vp_in (((6 : Int32) * a0) + a1) 144 ∧ (K (σ.2.1 2 (((6 : Int32) * a0) + a1).toNatClampNeg) σ))
def C_Mo_about (a0 : Int32) (a1 : Int32) (σ : gs_St) (K : Int32 → gs_St → Prop) : Prop :=
  (C_Mo_isRule a0 σ (fun r2 σ1 => (r2 = 0 → K (-1 : Int32) σ1) ∧ (¬ (r2 = 0) → (a1 < (-1 : Int32) → K (-1 : Int32) σ1) ∧ (¬ (a1 < (-1 : Int32)) → vp_in a0 24 ∧ ((a1 < (σ1.2.1 1 a0.toNatClampNeg) → (¬ a1 = (-1 : Int32) → C_Mo_at a0 a1 σ1 (fun r4 σ3 => K r4 σ3)) ∧ (¬ (¬ a1 = (-1 : Int32)) → vp_in a0 24 ∧ (K (σ1.2.1 0 a0.toNatClampNeg) σ1))) ∧ (¬ (a1 < (σ1.2.1 1 a0.toNatClampNeg)) → K (-1 : Int32) σ1))))))
def C_Mo_leastOf (a0 : Int32) (σ : gs_St) (K : Int64 → gs_St → Prop) : Prop :=
  (C_Mo_isNonterminal a0 σ (fun r2 σ1 => (r2 = 0 → K (1 : Int64) σ1) ∧ (¬ (r2 = 0) → vp_in a0 8 ∧ (K (σ1.2.2 0 a0.toNatClampNeg) σ1))))
def C_Mo_leastBut (a0 : Int32) (a1 : Int32) (σ : gs_St) (K : Int64 → gs_St → Prop) : Prop :=
  ∀ X5 : Int32 → Int32 → Int64 → Int32 → gs_St → Prop,
  (∀ (v_1 : Int32) (v_2 : Int32) (v_3 : Int64) (v_5 : Int32) (σ : gs_St), (vp_in v_1 24 ∧ (((σ.2.1 1 v_1.toNatClampNeg) ≤ v_5 → ((1152921504606846976 : Int64) ≤ v_3 → K (1152921504606846976 : Int64) σ) ∧ (¬ ((1152921504606846976 : Int64) ≤ v_3) → K v_3 σ)) ∧ (¬ ((σ.2.1 1 v_1.toNatClampNeg) ≤ v_5) → (¬ v_5 = v_2 → C_Mo_at v_1 v_5 σ (fun r2 σ1 => C_Mo_leastOf r2 σ1 (fun r4 σ3 => ∀ v5 : Int64, v5 = v_3 + r4 → ∀ v6 : Int32, v6 = v_5 + 1 → X5 v_1 v_2 v5 v6 σ3))) ∧ (¬ (¬ v_5 = v_2) → ∀ v7 : Int64, v7 = v_3 + (0 : Int64) → ∀ v8 : Int32, v8 = v_5 + 1 → X5 v_1 v_2 v7 v8 σ)))) → X5 v_1 v_2 v_3 v_5 σ) →
  (X5 a0 a1 (0 : Int64) (0 : Int32) σ)
def C_Mo_shorten (σ : gs_St) (K : gs_St → Prop) : Prop :=
  ∀ X2 : Int32 → gs_St → Prop,
  ∀ X25 : Int32 → gs_St → Prop,
  ∀ X33 : Int32 → Int32 → gs_St → Prop,
  (∀ (v_1 : Int32) (σ : gs_St), (((8 : Int32) ≤ v_1 → X25 (0 : Int32) σ) ∧ (¬ ((8 : Int32) ≤ v_1) → vp_in v_1 8 ∧ ∀ σ1 : gs_St, σ1 = gs_L σ 0 (vp_updL (σ.2.2 0) v_1.toNatClampNeg (1152921504606846976 : Int64)) → ∀ v2 : Int32, v2 = v_1 + 1 → X2 v2 σ1)) → X2 v_1 σ) →
  (∀ (v_1 : Int32) (σ : gs_St), (((8 : Int32) ≤ v_1 → K σ) ∧ (¬ ((8 : Int32) ≤ v_1) → X33 v_1 (0 : Int32) σ)) → X25 v_1 σ) →
  (∀ (v_1 : Int32) (v_2 : Int32) (σ : gs_St), (((σ.1 0) ≤ v_2 → ∀ v3 : Int32, v3 = v_1 + 1 → X25 v3 σ) ∧ (¬ ((σ.1 0) ≤ v_2) → C_Mo_leastBut v_2 (-1 : Int32) σ (fun r5 σ4 => vp_in v_2 24 ∧ (vp_in v_2 24 ∧ (vp_in (σ4.2.1 0 v_2.toNatClampNeg) 8 ∧ (((σ4.2.2 0 (σ4.2.1 0 v_2.toNatClampNeg).toNatClampNeg) ≤ r5 → vp_in v_2 24 ∧ (vp_in (σ4.2.1 0 v_2.toNatClampNeg) 8 ∧ (vp_in (σ4.2.1 0 v_2.toNatClampNeg) 8 ∧ ∀ σ6 : gs_St, σ6 = gs_L σ4 0 (vp_updL (σ4.2.2 0) (σ4.2.1 0 v_2.toNatClampNeg).toNatClampNeg (σ4.2.2 0 (σ4.2.1 0 v_2.toNatClampNeg).toNatClampNeg)) → ∀ v7 : Int32, v7 = v_2 + 1 → X33 v_1 v7 σ6))) ∧ (¬ ((σ4.2.2 0 (σ4.2.1 0 v_2.toNatClampNeg).toNatClampNeg) ≤ r5) → vp_in (σ4.2.1 0 v_2.toNatClampNeg) 8 ∧ ∀ σ8 : gs_St, σ8 = gs_L σ4 0 (vp_updL (σ4.2.2 0) (σ4.2.1 0 v_2.toNatClampNeg).toNatClampNeg r5) → ∀ v9 : Int32, v9 = v_2 + 1 → X33 v_1 v9 σ8))))))) → X33 v_1 v_2 σ) →
  (X2 (0 : Int32) σ)
def C_Mo_shortest (a0 : Int32) (σ : gs_St) (K : Int32 → gs_St → Prop) : Prop :=
  (C_Mo_isNonterminal a0 σ (fun r2 σ1 => (¬ r2 = 0 → C_Mo_shorten σ1 (fun σ3 => vp_in a0 8 ∧ (((1152921504606846976 : Int64) ≤ (σ3.2.2 0 a0.toNatClampNeg) → K (-1 : Int32) σ3) ∧ (¬ ((1152921504606846976 : Int64) ≤ (σ3.2.2 0 a0.toNatClampNeg)) → vp_in a0 8 ∧ (K ((σ3.2.2 0 a0.toNatClampNeg).toInt32) σ3))))) ∧ (¬ (¬ r2 = 0) → K (-1 : Int32) σ1)))
def C_Mo_shortestWith (a0 : Int32) (σ : gs_St) (K : Int32 → gs_St → Prop) : Prop :=
  ∀ X16 : Int32 → Int32 → gs_St → Prop,
  ∀ X56 : Int32 → gs_St → Prop,
  ∀ X64 : Int32 → Int32 → gs_St → Prop,
  ∀ X75 : Int32 → Int32 → Int32 → gs_St → Prop,
  (∀ (v_1 : Int32) (v_2 : Int32) (σ : gs_St), (((8 : Int32) ≤ v_2 → vp_in v_1 24 ∧ (C_Mo_leastBut v_1 (-1 : Int32) σ (fun r5 σ4 => vp_in (σ.2.1 0 v_1.toNatClampNeg) 8 ∧ ∀ σ6 : gs_St, σ6 = gs_L σ4 1 (vp_updL (σ4.2.2 1) (σ.2.1 0 v_1.toNatClampNeg).toNatClampNeg r5) → X56 (0 : Int32) σ6))) ∧ (¬ ((8 : Int32) ≤ v_2) → vp_in v_2 8 ∧ ∀ σ7 : gs_St, σ7 = gs_L σ 1 (vp_updL (σ.2.2 1) v_2.toNatClampNeg (1152921504606846976 : Int64)) → ∀ v8 : Int32, v8 = v_2 + 1 → X16 v_1 v8 σ7)) → X16 v_1 v_2 σ) →
  (∀ (v_2 : Int32) (σ : gs_St), (((8 : Int32) ≤ v_2 → vp_in (0 : Int32) 8 ∧ (((1152921504606846976 : Int64) ≤ (σ.2.2 1 (0 : Int32).toNatClampNeg) → K (-1 : Int32) σ) ∧ (¬ ((1152921504606846976 : Int64) ≤ (σ.2.2 1 (0 : Int32).toNatClampNeg)) → vp_in (0 : Int32) 8 ∧ (K ((σ.2.2 1 (0 : Int32).toNatClampNeg).toInt32) σ)))) ∧ (¬ ((8 : Int32) ≤ v_2) → X64 v_2 (0 : Int32) σ)) → X56 v_2 σ) →
  (∀ (v_2 : Int32) (v_3 : Int32) (σ : gs_St), (((σ.1 0) ≤ v_3 → ∀ v9 : Int32, v9 = v_2 + 1 → X56 v9 σ) ∧ (¬ ((σ.1 0) ≤ v_3) → X75 v_2 v_3 (0 : Int32) σ)) → X64 v_2 v_3 σ) →
  (∀ (v_2 : Int32) (v_3 : Int32) (v_4 : Int32) (σ : gs_St), (vp_in v_3 24 ∧ (((σ.2.1 1 v_3.toNatClampNeg) ≤ v_4 → ∀ v10 : Int32, v10 = v_3 + 1 → X64 v_2 v10 σ) ∧ (¬ ((σ.2.1 1 v_3.toNatClampNeg) ≤ v_4) → C_Mo_at v_3 v_4 σ (fun r12 σ11 => C_Mo_isNonterminal r12 σ11 (fun r14 σ13 => (r14 = 0 → ∀ v15 : Int32, v15 = v_4 + 1 → X75 v_2 v_3 v15 σ13) ∧ (¬ (r14 = 0) → C_Mo_leastBut v_3 v_4 σ13 (fun r17 σ16 => C_Mo_at v_3 v_4 σ16 (fun r19 σ18 => vp_in r19 8 ∧ (∀ v20 : Int64, v20 = r17 + (σ18.2.2 1 r19.toNatClampNeg) → vp_in v_3 24 ∧ (vp_in v_3 24 ∧ (vp_in (σ18.2.1 0 v_3.toNatClampNeg) 8 ∧ (((σ18.2.2 1 (σ18.2.1 0 v_3.toNatClampNeg).toNatClampNeg) ≤ v20 → vp_in v_3 24 ∧ (vp_in (σ18.2.1 0 v_3.toNatClampNeg) 8 ∧ (vp_in (σ18.2.1 0 v_3.toNatClampNeg) 8 ∧ ∀ σ21 : gs_St, σ21 = gs_L σ18 1 (vp_updL (σ18.2.2 1) (σ18.2.1 0 v_3.toNatClampNeg).toNatClampNeg (σ18.2.2 1 (σ18.2.1 0 v_3.toNatClampNeg).toNatClampNeg)) → ∀ v22 : Int32, v22 = v_4 + 1 → X75 v_2 v_3 v22 σ21))) ∧ (¬ ((σ18.2.2 1 (σ18.2.1 0 v_3.toNatClampNeg).toNatClampNeg) ≤ v20) → vp_in (σ18.2.1 0 v_3.toNatClampNeg) 8 ∧ ∀ σ23 : gs_St, σ23 = gs_L σ18 1 (vp_updL (σ18.2.2 1) (σ18.2.1 0 v_3.toNatClampNeg).toNatClampNeg v20) → ∀ v24 : Int32, v24 = v_4 + 1 → X75 v_2 v_3 v24 σ23))))))))))))) → X75 v_2 v_3 v_4 σ) →
  (C_Mo_isRule a0 σ (fun r2 σ1 => (¬ r2 = 0 → C_Mo_shorten σ1 (fun σ3 => X16 a0 (0 : Int32) σ3)) ∧ (¬ (¬ r2 = 0) → K (-1 : Int32) σ1)))
def C_Mo_isEmpty (a0 : Int32) (σ : gs_St) (K : Int32 → gs_St → Prop) : Prop :=
  (C_Mo_isNonterminal a0 σ (fun r2 σ1 => (r2 = 0 → K (0 : Int32) σ1) ∧ (¬ (r2 = 0) → vp_in a0 8 ∧ (((σ1.2.1 7 a0.toNatClampNeg) = 0 → K (0 : Int32) σ1) ∧ (¬ ((σ1.2.1 7 a0.toNatClampNeg) = 0) → K (1 : Int32) σ1)))))
def C_Mo_allEmpty (a0 : Int32) (a1 : Int32) (σ : gs_St) (K : Int32 → gs_St → Prop) : Prop :=
  ∀ X5 : Int32 → Int32 → Int32 → Int32 → gs_St → Prop,
  (∀ (v_1 : Int32) (v_2 : Int32) (v_3 : Int32) (v_4 : Int32) (σ : gs_St), (vp_in v_1 24 ∧ (((σ.2.1 1 v_1.toNatClampNeg) ≤ v_4 → (v_3 = 0 ∨ v_3 = 1) ∧ K v_3 σ) ∧ (¬ ((σ.2.1 1 v_1.toNatClampNeg) ≤ v_4) → (v_3 = 0 → ∀ v1 : Int32, v1 = v_4 + 1 → X5 v_1 v_2 (0 : Int32) v1 σ) ∧ (¬ (v_3 = 0) → (v_4 = v_2 → ∀ v2 : Int32, v2 = v_4 + 1 → X5 v_1 v_2 (1 : Int32) v2 σ) ∧ (¬ (v_4 = v_2) → C_Mo_at v_1 v_4 σ (fun r4 σ3 => C_Mo_isEmpty r4 σ3 (fun r6 σ5 => (r6 = 0 → ∀ v7 : Int32, v7 = v_4 + 1 → X5 v_1 v_2 (0 : Int32) v7 σ5) ∧ (¬ (r6 = 0) → ∀ v8 : Int32, v8 = v_4 + 1 → X5 v_1 v_2 (1 : Int32) v8 σ5)))))))) → X5 v_1 v_2 v_3 v_4 σ) →
  (X5 a0 a1 (1 : Int32) (0 : Int32) σ)
def C_Mo_circle (σ : gs_St) (K : Int32 → gs_St → Prop) : Prop :=
  ∀ X2 : Int32 → gs_St → Prop,
  ∀ X23 : Int32 → gs_St → Prop,
  ∀ X31 : Int32 → Int32 → gs_St → Prop,
  ∀ X92 : Int32 → gs_St → Prop,
  ∀ X113 : Int32 → gs_St → Prop,
  ∀ X123 : Int32 → Int32 → gs_St → Prop,
  ∀ X190 : Int32 → gs_St → Prop,
  ∀ X198 : Int32 → Int32 → gs_St → Prop,
  ∀ X274 : Int32 → Int32 → gs_St → Prop,
  (∀ (v_1 : Int32) (σ : gs_St), (((8 : Int32) ≤ v_1 → X23 (0 : Int32) σ) ∧ (¬ ((8 : Int32) ≤ v_1) → vp_in v_1 8 ∧ ∀ σ1 : gs_St, σ1 = gs_A σ 7 (upd (σ.2.1 7) v_1.toNatClampNeg (vp_nar .boolean (0 : Int32))) → ∀ v2 : Int32, v2 = v_1 + 1 → X2 v2 σ1)) → X2 v_1 σ) →
  (∀ (v_1 : Int32) (σ : gs_St), (((8 : Int32) ≤ v_1 → X92 (0 : Int32) σ) ∧ (¬ ((8 : Int32) ≤ v_1) → X31 v_1 (0 : Int32) σ)) → X23 v_1 σ) →
  (∀ (v_1 : Int32) (v_2 : Int32) (σ : gs_St), (((σ.1 0) ≤ v_2 → ∀ v3 : Int32, v3 = v_1 + 1 → X23 v3 σ) ∧ (¬ ((σ.1 0) ≤ v_2) → vp_in v_2 24 ∧ (vp_in v_2 24 ∧ (vp_in (σ.2.1 0 v_2.toNatClampNeg) 8 ∧ ((¬ (σ.2.1 7 (σ.2.1 0 v_2.toNatClampNeg).toNatClampNeg) = 0 → vp_in (σ.2.1 0 v_2.toNatClampNeg) 8 ∧ ∀ σ4 : gs_St, σ4 = gs_A σ 7 (upd (σ.2.1 7) (σ.2.1 0 v_2.toNatClampNeg).toNatClampNeg (vp_nar .boolean (1 : Int32))) → ∀ v5 : Int32, v5 = v_2 + 1 → X31 v_1 v5 σ4) ∧ (¬ (¬ (σ.2.1 7 (σ.2.1 0 v_2.toNatClampNeg).toNatClampNeg) = 0) → C_Mo_allEmpty v_2 (-1 : Int32) σ (fun r7 σ6 => (r7 = 0 → vp_in (σ.2.1 0 v_2.toNatClampNeg) 8 ∧ ∀ σ8 : gs_St, σ8 = gs_A σ6 7 (upd (σ6.2.1 7) (σ.2.1 0 v_2.toNatClampNeg).toNatClampNeg (vp_nar .boolean (0 : Int32))) → ∀ v9 : Int32, v9 = v_2 + 1 → X31 v_1 v9 σ8) ∧ (¬ (r7 = 0) → vp_in (σ.2.1 0 v_2.toNatClampNeg) 8 ∧ ∀ σ10 : gs_St, σ10 = gs_A σ6 7 (upd (σ6.2.1 7) (σ.2.1 0 v_2.toNatClampNeg).toNatClampNeg (vp_nar .boolean (1 : Int32))) → ∀ v11 : Int32, v11 = v_2 + 1 → X31 v_1 v11 σ10)))))))) → X31 v_1 v_2 σ) →
  (∀ (v_1 : Int32) (σ : gs_St), (((64 : Int32) ≤ v_1 → X113 (0 : Int32) σ) ∧ (¬ ((64 : Int32) ≤ v_1) → vp_in v_1 64 ∧ ∀ σ12 : gs_St, σ12 = gs_A σ 8 (upd (σ.2.1 8) v_1.toNatClampNeg (vp_nar .boolean (0 : Int32))) → ∀ v13 : Int32, v13 = v_1 + 1 → X92 v13 σ12)) → X92 v_1 σ) →
  (∀ (v_1 : Int32) (σ : gs_St), (((σ.1 0) ≤ v_1 → X190 (0 : Int32) σ) ∧ (¬ ((σ.1 0) ≤ v_1) → X123 v_1 (0 : Int32) σ)) → X113 v_1 σ) →
  (∀ (v_1 : Int32) (v_2 : Int32) (σ : gs_St), (vp_in v_1 24 ∧ (((σ.2.1 1 v_1.toNatClampNeg) ≤ v_2 → ∀ v14 : Int32, v14 = v_1 + 1 → X113 v14 σ) ∧ (¬ ((σ.2.1 1 v_1.toNatClampNeg) ≤ v_2) → C_Mo_at v_1 v_2 σ (fun r16 σ15 => C_Mo_isNonterminal r16 σ15 (fun r18 σ17 => (r18 = 0 → ∀ v19 : Int32, v19 = v_2 + 1 → X123 v_1 v19 σ17) ∧ (¬ (r18 = 0) → C_Mo_allEmpty v_1 v_2 σ17 (fun r21 σ20 => (r21 = 0 → ∀ v22 : Int32, v22 = v_2 + 1 → X123 v_1 v22 σ20) ∧ (¬ (r21 = 0) → vp_in v_1 24 ∧ (C_Mo_at v_1 v_2 σ20 (fun r24 σ23 => vp_in (((8 : Int32) * (σ20.2.1 0 v_1.toNatClampNeg)) + r24) 64 ∧ ∀ σ25 : gs_St, σ25 = gs_A σ23 8 (upd (σ23.2.1 8) (((8 : Int32) * (σ20.2.1 0 v_1.toNatClampNeg)) + r24).toNatClampNeg (vp_nar .boolean (1 : Int32))) → ∀ v26 : Int32, v26 = v_2 + 1 → X123 v_1 v26 σ25)))))))))) → X123 v_1 v_2 σ) →
  (∀ (v_1 : Int32) (σ : gs_St), (((8 : Int32) ≤ v_1 → X274 (0 : Int32) (0 : Int32) σ) ∧ (¬ ((8 : Int32) ≤ v_1) → X198 v_1 (0 : Int32) σ)) → X190 v_1 σ) →
  (∀ (v_1 : Int32) (v_2 : Int32) (σ : gs_St), (((64 : Int32) ≤ v_2 → ∀ v27 : Int32, v27 = v_1 + 1 → X190 v27 σ) ∧ (¬ ((64 : Int32) ≤ v_2) → vp_in v_2 64 ∧ ((¬ (σ.2.1 8 v_2.toNatClampNeg) = 0 → vp_in v_2 64 ∧ ∀ σ28 : gs_St, σ28 = gs_A σ 8 (upd (σ.2.1 8) v_2.toNatClampNeg (vp_nar .boolean (1 : Int32))) → ∀ v29 : Int32, v29 = v_2 + 1 → X198 v_1 v29 σ28) ∧ (¬ (¬ (σ.2.1 8 v_2.toNatClampNeg) = 0) → ¬ (8 : Int32) = 0 ∧ (vp_in (((v_2 / (8 : Int32)) * (8 : Int32)) + v_1) 64 ∧ (((σ.2.1 8 (((v_2 / (8 : Int32)) * (8 : Int32)) + v_1).toNatClampNeg) = 0 → vp_in v_2 64 ∧ ∀ σ30 : gs_St, σ30 = gs_A σ 8 (upd (σ.2.1 8) v_2.toNatClampNeg (vp_nar .boolean (0 : Int32))) → ∀ v31 : Int32, v31 = v_2 + 1 → X198 v_1 v31 σ30) ∧ (¬ ((σ.2.1 8 (((v_2 / (8 : Int32)) * (8 : Int32)) + v_1).toNatClampNeg) = 0) → ¬ (8 : Int32) = 0 ∧ (vp_in (((8 : Int32) * v_1) + (v_2 - v_2 / (8 : Int32) * (8 : Int32))) 64 ∧ (((σ.2.1 8 (((8 : Int32) * v_1) + (v_2 - v_2 / (8 : Int32) * (8 : Int32))).toNatClampNeg) = 0 → vp_in v_2 64 ∧ ∀ σ32 : gs_St, σ32 = gs_A σ 8 (upd (σ.2.1 8) v_2.toNatClampNeg (vp_nar .boolean (0 : Int32))) → ∀ v33 : Int32, v33 = v_2 + 1 → X198 v_1 v33 σ32) ∧ (¬ ((σ.2.1 8 (((8 : Int32) * v_1) + (v_2 - v_2 / (8 : Int32) * (8 : Int32))).toNatClampNeg) = 0) → vp_in v_2 64 ∧ ∀ σ34 : gs_St, σ34 = gs_A σ 8 (upd (σ.2.1 8) v_2.toNatClampNeg (vp_nar .boolean (1 : Int32))) → ∀ v35 : Int32, v35 = v_2 + 1 → X198 v_1 v35 σ34)))))))))) → X198 v_1 v_2 σ) →
  (∀ (v_1 : Int32) (v_2 : Int32) (σ : gs_St), (((8 : Int32) ≤ v_2 → (v_1 = 0 ∨ v_1 = 1) ∧ K v_1 σ) ∧ (¬ ((8 : Int32) ≤ v_2) → (¬ v_1 = 0 → ∀ v36 : Int32, v36 = v_2 + 1 → X274 (1 : Int32) v36 σ) ∧ (¬ (¬ v_1 = 0) → vp_in ((9 : Int32) * v_2) 64 ∧ (((σ.2.1 8 ((9 : Int32) * v_2).toNatClampNeg) = 0 → ∀ v37 : Int32, v37 = v_2 + 1 → X274 (0 : Int32) v37 σ) ∧ (¬ ((σ.2.1 8 ((9 : Int32) * v_2).toNatClampNeg) = 0) → ∀ v38 : Int32, v38 = v_2 + 1 → X274 (1 : Int32) v38 σ))))) → X274 v_1 v_2 σ) →
  (X2 (0 : Int32) σ)
def C_Mo_isLength (a0 : Int32) (σ : gs_St) (K : Int32 → gs_St → Prop) : Prop :=
  ((a0 < 0 → K (0 : Int32) σ) ∧ (¬ (a0 < 0) → ((17 : Int32) ≤ a0 → K (0 : Int32) σ) ∧ (¬ ((17 : Int32) ≤ a0) → K (1 : Int32) σ)))
def C_Mo_of (a0 : Int32) (a1 : Int32) (σ : gs_St) (K : Int64 → gs_St → Prop) : Prop :=
  (C_Mo_isNonterminal a0 σ (fun r2 σ1 => (r2 = 0 → (¬ a1 = (1 : Int32) → K (0 : Int64) σ1) ∧ (¬ (¬ a1 = (1 : Int32)) → K (1 : Int64) σ1)) ∧ (¬ (r2 = 0) → vp_in (((17 : Int32) * a0) + a1) 136 ∧ (K (σ1.2.2 2 (((17 : Int32) * a0) + a1).toNatClampNeg) σ1))))
def C_Mo_product (a0 : Int64) (a1 : Int64) (σ : gs_St) (K : Int64 → gs_St → Prop) : Prop :=
  ((a0 = (0 : Int64) → K (0 : Int64) σ) ∧ (¬ (a0 = (0 : Int64)) → (¬ a1 = (0 : Int64) → ¬ a1 = 0 ∧ ((a0 ≤ ((1000000000000000000 : Int64) / a1) → K (a0 * a1) σ) ∧ (¬ (a0 ≤ ((1000000000000000000 : Int64) / a1)) → K (1000000000000000001 : Int64) σ))) ∧ (¬ (¬ a1 = (0 : Int64)) → K (0 : Int64) σ)))
def C_Mo_sum (a0 : Int64) (a1 : Int64) (σ : gs_St) (K : Int64 → gs_St → Prop) : Prop :=
  (((a0 + a1) ≤ (1000000000000000000 : Int64) → K (a0 + a1) σ) ∧ (¬ ((a0 + a1) ≤ (1000000000000000000 : Int64)) → K (1000000000000000001 : Int64) σ))
def C_Mo_fill (a0 : Int32) (a1 : Int32) (σ : gs_St) (K : gs_St → Prop) : Prop :=
  ∀ X2 : Int32 → Int32 → Int32 → gs_St → Prop,
  ∀ X47 : Int32 → Int32 → Int32 → gs_St → Prop,
  ∀ X54 : Int32 → Int32 → Int32 → Int32 → gs_St → Prop,
  ∀ X66 : Int32 → Int32 → Int32 → Int32 → Int64 → Int32 → gs_St → Prop,
  (∀ (v_1 : Int32) (v_2 : Int32) (v_3 : Int32) (σ : gs_St), ((v_2 < v_3 → vp_in v_1 24 ∧ (∀ v1 : Int32, v1 = (σ.2.1 1 v_1.toNatClampNeg) - (1 : Int32) → X47 v_1 v_2 v1 σ)) ∧ (¬ (v_2 < v_3) → vp_in v_1 24 ∧ ((¬ v_3 = 0 → vp_in (((17 : Int32) * (σ.2.1 1 v_1.toNatClampNeg)) + v_3) 119 ∧ ∀ σ2 : gs_St, σ2 = gs_L σ 3 (vp_updL (σ.2.2 3) (((17 : Int32) * (σ.2.1 1 v_1.toNatClampNeg)) + v_3).toNatClampNeg (0 : Int64)) → ∀ v3 : Int32, v3 = v_3 + 1 → X2 v_1 v_2 v3 σ2) ∧ (¬ (¬ v_3 = 0) → vp_in (((17 : Int32) * (σ.2.1 1 v_1.toNatClampNeg)) + v_3) 119 ∧ ∀ σ4 : gs_St, σ4 = gs_L σ 3 (vp_updL (σ.2.2 3) (((17 : Int32) * (σ.2.1 1 v_1.toNatClampNeg)) + v_3).toNatClampNeg (1 : Int64)) → ∀ v5 : Int32, v5 = v_3 + 1 → X2 v_1 v_2 v5 σ4)))) → X2 v_1 v_2 v_3 σ) →
  (∀ (v_1 : Int32) (v_2 : Int32) (v_3 : Int32) (σ : gs_St), ((v_3 < 0 → K σ) ∧ (¬ (v_3 < 0) → X54 v_1 v_2 v_3 (0 : Int32) σ)) → X47 v_1 v_2 v_3 σ) →
  (∀ (v_1 : Int32) (v_2 : Int32) (v_3 : Int32) (v_4 : Int32) (σ : gs_St), ((v_2 < v_4 → ∀ v6 : Int32, v6 = v_3 + (-1) → X47 v_1 v_2 v6 σ) ∧ (¬ (v_2 < v_4) → X66 v_1 v_2 v_3 v_4 (0 : Int64) (0 : Int32) σ)) → X54 v_1 v_2 v_3 v_4 σ) →
  (∀ (v_1 : Int32) (v_2 : Int32) (v_3 : Int32) (v_4 : Int32) (v_5 : Int64) (v_7 : Int32) (σ : gs_St), ((v_4 < v_7 → vp_in (((17 : Int32) * v_3) + v_4) 119 ∧ ∀ σ7 : gs_St, σ7 = gs_L σ 3 (vp_updL (σ.2.2 3) (((17 : Int32) * v_3) + v_4).toNatClampNeg v_5) → ∀ v8 : Int32, v8 = v_4 + 1 → X54 v_1 v_2 v_3 v8 σ7) ∧ (¬ (v_4 < v_7) → C_Mo_at v_1 v_3 σ (fun r10 σ9 => C_Mo_of r10 v_7 σ9 (fun r12 σ11 => vp_in (((((17 : Int32) * v_3) + (17 : Int32)) + v_4) - v_7) 119 ∧ (C_Mo_product r12 (σ11.2.2 3 (((((17 : Int32) * v_3) + (17 : Int32)) + v_4) - v_7).toNatClampNeg) σ11 (fun r14 σ13 => C_Mo_sum v_5 r14 σ13 (fun r16 σ15 => ∀ v17 : Int32, v17 = v_7 + 1 → X66 v_1 v_2 v_3 v_4 r16 v17 σ15))))))) → X66 v_1 v_2 v_3 v_4 v_5 v_7 σ) →
  (X2 a0 a1 (0 : Int32) σ)
def C_Mo_reckon (a0 : Int32) (σ : gs_St) (K : gs_St → Prop) : Prop :=
  ∀ X28 : Int32 → Int32 → gs_St → Prop,
  ∀ X50 : Int32 → Int32 → gs_St → Prop,
  ∀ X61 : Int32 → Int32 → Int32 → Int32 → gs_St → Prop,
  ∀ X77 : Int32 → Int32 → Int32 → Int32 → Int32 → gs_St → Prop,
  ∀ X90 : Int32 → Int32 → Int32 → Int32 → Int32 → Int64 → Int32 → gs_St → Prop,
  (∀ (v_1 : Int32) (v_2 : Int32) (σ : gs_St), (((136 : Int32) ≤ v_2 → X50 v_1 (0 : Int32) σ) ∧ (¬ ((136 : Int32) ≤ v_2) → vp_in v_2 136 ∧ ∀ σ5 : gs_St, σ5 = gs_L σ 2 (vp_updL (σ.2.2 2) v_2.toNatClampNeg (0 : Int64)) → ∀ v6 : Int32, v6 = v_2 + 1 → X28 v_1 v6 σ5)) → X28 v_1 v_2 σ) →
  (∀ (v_1 : Int32) (v_2 : Int32) (σ : gs_St), (((17 : Int32) ≤ v_2 → K σ) ∧ (¬ ((17 : Int32) ≤ v_2) → X61 v_1 v_2 (1 : Int32) (0 : Int32) σ)) → X50 v_1 v_2 σ) →
  (∀ (v_1 : Int32) (v_2 : Int32) (v_3 : Int32) (v_4 : Int32) (σ : gs_St), (((10 : Int32) ≤ v_4 → ∀ v7 : Int32, v7 = v_2 + 1 → X50 v_1 v7 σ) ∧ (¬ ((10 : Int32) ≤ v_4) → (v_3 = 0 → ∀ v8 : Int32, v8 = v_2 + 1 → X50 v_1 v8 σ) ∧ (¬ (v_3 = 0) → X77 v_1 v_2 (0 : Int32) v_4 (0 : Int32) σ))) → X61 v_1 v_2 v_3 v_4 σ) →
  (∀ (v_1 : Int32) (v_2 : Int32) (v_3 : Int32) (v_4 : Int32) (v_5 : Int32) (σ : gs_St), (((8 : Int32) ≤ v_5 → ∀ v9 : Int32, v9 = v_4 + 1 → X61 v_1 v_2 v_3 v9 σ) ∧ (¬ ((8 : Int32) ≤ v_5) → X90 v_1 v_2 v_3 v_4 v_5 (0 : Int64) (0 : Int32) σ)) → X77 v_1 v_2 v_3 v_4 v_5 σ) →
  (∀ (v_1 : Int32) (v_2 : Int32) (v_3 : Int32) (v_4 : Int32) (v_5 : Int32) (v_6 : Int64) (v_8 : Int32) (σ : gs_St), (((σ.1 0) ≤ v_8 → (¬ v_3 = 0 → vp_in (((17 : Int32) * v_5) + v_2) 136 ∧ ∀ σ10 : gs_St, σ10 = gs_L σ 2 (vp_updL (σ.2.2 2) (((17 : Int32) * v_5) + v_2).toNatClampNeg v_6) → ∀ v11 : Int32, v11 = v_5 + 1 → X77 v_1 v_2 (1 : Int32) v_4 v11 σ10) ∧ (¬ (¬ v_3 = 0) → vp_in (((17 : Int32) * v_5) + v_2) 136 ∧ ((v_6 = (σ.2.2 2 (((17 : Int32) * v_5) + v_2).toNatClampNeg) → vp_in (((17 : Int32) * v_5) + v_2) 136 ∧ ∀ σ12 : gs_St, σ12 = gs_L σ 2 (vp_updL (σ.2.2 2) (((17 : Int32) * v_5) + v_2).toNatClampNeg v_6) → ∀ v13 : Int32, v13 = v_5 + 1 → X77 v_1 v_2 (0 : Int32) v_4 v13 σ12) ∧ (¬ (v_6 = (σ.2.2 2 (((17 : Int32) * v_5) + v_2).toNatClampNeg)) → vp_in (((17 : Int32) * v_5) + v_2) 136 ∧ ∀ σ14 : gs_St, σ14 = gs_L σ 2 (vp_updL (σ.2.2 2) (((17 : Int32) * v_5) + v_2).toNatClampNeg v_6) → ∀ v15 : Int32, v15 = v_5 + 1 → X77 v_1 v_2 (1 : Int32) v_4 v15 σ14)))) ∧ (¬ ((σ.1 0) ≤ v_8) → vp_in v_8 24 ∧ ((¬ (σ.2.1 0 v_8.toNatClampNeg) = v_5 → ∀ v16 : Int32, v16 = v_8 + 1 → X90 v_1 v_2 v_3 v_4 v_5 v_6 v16 σ) ∧ (¬ (¬ (σ.2.1 0 v_8.toNatClampNeg) = v_5) → (v_8 = v_1 → ∀ v17 : Int32, v17 = v_8 + 1 → X90 v_1 v_2 v_3 v_4 v_5 v_6 v17 σ) ∧ (¬ (v_8 = v_1) → C_Mo_fill v_8 v_2 σ (fun σ18 => vp_in v_2 119 ∧ (C_Mo_sum v_6 (σ18.2.2 3 v_2.toNatClampNeg) σ18 (fun r20 σ19 => ∀ v21 : Int32, v21 = v_8 + 1 → X90 v_1 v_2 v_3 v_4 v_5 r20 v21 σ19)))))))) → X90 v_1 v_2 v_3 v_4 v_5 v_6 v_8 σ) →
  (((σ.1 5) = 0 → ∀ σ1 : gs_St, σ1 = gs_I σ 5 (1 : Int32) → ∀ σ2 : gs_St, σ2 = gs_I σ1 6 a0 → X28 a0 (0 : Int32) σ2) ∧ (¬ ((σ.1 5) = 0) → (¬ (σ.1 6) = a0 → ∀ σ3 : gs_St, σ3 = gs_I σ 5 (1 : Int32) → ∀ σ4 : gs_St, σ4 = gs_I σ3 6 a0 → X28 a0 (0 : Int32) σ4) ∧ (¬ (¬ (σ.1 6) = a0) → K σ)))
def C_Mo_trees (a0 : Int32) (a1 : Int32) (σ : gs_St) (K : Int64 → gs_St → Prop) : Prop :=
  (C_Mo_isNonterminal a0 σ (fun r2 σ1 => (r2 = 0 → K (-1 : Int64) σ1) ∧ (¬ (r2 = 0) → C_Mo_isLength a1 σ1 (fun r4 σ3 => (r4 = 0 → K (-1 : Int64) σ3) ∧ (¬ (r4 = 0) → C_Mo_circle σ3 (fun r6 σ5 => (r6 = 0 → C_Mo_reckon (-1 : Int32) σ5 (fun σ7 => C_Mo_of a0 a1 σ7 (fun r9 σ8 => (r9 ≤ (1000000000000000000 : Int64) → K r9 σ8) ∧ (¬ (r9 ≤ (1000000000000000000 : Int64)) → K (-2 : Int64) σ8)))) ∧ (¬ (r6 = 0) → K (-1 : Int64) σ5)))))))
def C_Mo_treesWith (a0 : Int32) (a1 : Int32) (σ : gs_St) (K : Int64 → gs_St → Prop) : Prop :=
  (C_Mo_isRule a0 σ (fun r2 σ1 => (r2 = 0 → K (-1 : Int64) σ1) ∧ (¬ (r2 = 0) → C_Mo_isLength a1 σ1 (fun r4 σ3 => (r4 = 0 → K (-1 : Int64) σ3) ∧ (¬ (r4 = 0) → C_Mo_circle σ3 (fun r6 σ5 => (r6 = 0 → C_Mo_trees (0 : Int32) a1 σ5 (fun r8 σ7 => ((0 : Int64) ≤ r8 → C_Mo_reckon a0 σ7 (fun σ9 => C_Mo_of (0 : Int32) a1 σ9 (fun r11 σ10 => K (r8 - r11) σ10))) ∧ (¬ ((0 : Int64) ≤ r8) → K r8 σ7))) ∧ (¬ (r6 = 0) → K (-1 : Int64) σ5)))))))
def C_Mo_put (a0 : Int32) (a1 : Int32) (a2 : Int64) (σ : gs_St) (K : gs_St → Prop) : Prop :=
  (vp_in (σ.1 7) 1300 ∧ ∀ σ1 : gs_St, σ1 = gs_A σ 9 (upd (σ.2.1 9) (σ.1 7).toNatClampNeg a0) → vp_in (σ1.1 7) 1300 ∧ ∀ σ2 : gs_St, σ2 = gs_A σ1 10 (upd (σ1.2.1 10) (σ1.1 7).toNatClampNeg a1) → vp_in (σ2.1 7) 1300 ∧ ∀ σ3 : gs_St, σ3 = gs_L σ2 4 (vp_updL (σ2.2.2 4) (σ2.1 7).toNatClampNeg a2) → ∀ σ4 : gs_St, σ4 = gs_I σ3 7 ((σ3.1 7) + (1 : Int32)) → K σ4)
def C_Mo_split (a0 : Int32) (a1 : Int32) (a2 : Int64) (σ : gs_St) (K : Int32 → gs_St → Prop) : Prop :=
  ∀ X9 : Int32 → Int32 → Int64 → Int32 → Int32 → gs_St → Prop,
  ∀ X52 : Int32 → Int32 → Int64 → Int32 → Int64 → gs_St → Prop,
  ∀ X91 : Int64 → Int32 → Int32 → Int32 → gs_St → Prop,
  ∀ X140 : Int64 → Int32 → Int32 → Int32 → Int32 → Int64 → gs_St → Prop,
  ∀ X206 : Int64 → Int32 → Int32 → Int32 → Int32 → gs_St → Prop,
  ∀ X276 : Int32 → Int32 → gs_St → Prop,
  (∀ (v_1 : Int32) (v_2 : Int32) (v_5 : Int64) (v_7 : Int32) (v_8 : Int32) (σ : gs_St), ((¬ v_8 = 0 → X91 v_5 v_7 v_2 (0 : Int32) σ) ∧ (¬ (¬ v_8 = 0) → ((σ.1 0) ≤ v_7 → X91 v_5 v_7 v_2 (0 : Int32) σ) ∧ (¬ ((σ.1 0) ≤ v_7) → vp_in v_7 24 ∧ ((¬ (σ.2.1 0 v_7.toNatClampNeg) = v_1 → X52 v_1 v_2 v_5 v_7 (0 : Int64) σ) ∧ (¬ (¬ (σ.2.1 0 v_7.toNatClampNeg) = v_1) → C_Mo_fill v_7 v_2 σ (fun σ1 => vp_in v_2 119 ∧ (∀ v2 : Int64, v2 = σ1.2.2 3 v_2.toNatClampNeg → X52 v_1 v_2 v_5 v_7 v2 σ1))))))) → X9 v_1 v_2 v_5 v_7 v_8 σ) →
  (∀ (v_1 : Int32) (v_2 : Int32) (v_5 : Int64) (v_7 : Int32) (v_9 : Int64) (σ : gs_St), ((v_9 ≤ v_5 → (¬ (0 : Int32) = 0 → X9 v_1 v_2 v_5 v_7 (0 : Int32) σ) ∧ (¬ (¬ (0 : Int32) = 0) → ∀ v3 : Int64, v3 = v_5 - v_9 → ∀ v4 : Int32, v4 = v_7 + 1 → X9 v_1 v_2 v3 v4 (0 : Int32) σ)) ∧ (¬ (v_9 ≤ v_5) → (¬ (1 : Int32) = 0 → X9 v_1 v_2 v_5 v_7 (1 : Int32) σ) ∧ (¬ (¬ (1 : Int32) = 0) → ∀ v5 : Int64, v5 = v_5 - v_9 → ∀ v6 : Int32, v6 = v_7 + 1 → X9 v_1 v_2 v5 v6 (1 : Int32) σ))) → X52 v_1 v_2 v_5 v_7 v_9 σ) →
  (∀ (v_5 : Int64) (v_7 : Int32) (v_9 : Int32) (v_10 : Int32) (σ : gs_St), (vp_in v_7 24 ∧ (((σ.2.1 1 v_7.toNatClampNeg) ≤ v_10 → vp_in v_7 24 ∧ (∀ v7 : Int32, v7 = (σ.2.1 1 v_7.toNatClampNeg) - (1 : Int32) → X276 v_7 v7 σ)) ∧ (¬ ((σ.2.1 1 v_7.toNatClampNeg) ≤ v_10) → C_Mo_at v_7 v_10 σ (fun r9 σ8 => C_Mo_of r9 (0 : Int32) σ8 (fun r11 σ10 => vp_in ((((17 : Int32) * v_10) + (17 : Int32)) + v_9) 119 ∧ (C_Mo_product r11 (σ10.2.2 3 ((((17 : Int32) * v_10) + (17 : Int32)) + v_9).toNatClampNeg) σ10 (fun r13 σ12 => X140 v_5 v_7 v_9 v_10 (0 : Int32) r13 σ12))))))) → X91 v_5 v_7 v_9 v_10 σ) →
  (∀ (v_5 : Int64) (v_7 : Int32) (v_9 : Int32) (v_10 : Int32) (v_11 : Int32) (v_12 : Int64) (σ : gs_St), ((v_5 < v_12 → X206 v_5 v_7 v_9 v_10 v_11 σ) ∧ (¬ (v_5 < v_12) → (v_9 ≤ v_11 → X206 v_5 v_7 v_9 v_10 v_11 σ) ∧ (¬ (v_9 ≤ v_11) → ∀ v14 : Int64, v14 = v_5 - v_12 → ∀ v15 : Int32, v15 = v_11 + 1 → C_Mo_at v_7 v_10 σ (fun r17 σ16 => C_Mo_of r17 v15 σ16 (fun r19 σ18 => vp_in (((((17 : Int32) * v_10) + (17 : Int32)) + v_9) - v15) 119 ∧ (C_Mo_product r19 (σ18.2.2 3 (((((17 : Int32) * v_10) + (17 : Int32)) + v_9) - v15).toNatClampNeg) σ18 (fun r21 σ20 => X140 v14 v_7 v_9 v_10 v15 r21 σ20))))))) → X140 v_5 v_7 v_9 v_10 v_11 v_12 σ) →
  (∀ (v_5 : Int64) (v_7 : Int32) (v_9 : Int32) (v_10 : Int32) (v_11 : Int32) (σ : gs_St), (∀ v22 : Int32, v22 = v_9 - v_11 → vp_in ((((17 : Int32) * v_10) + (17 : Int32)) + v22) 119 ∧ (∀ v23 : Int64, v23 = σ.2.2 3 ((((17 : Int32) * v_10) + (17 : Int32)) + v22).toNatClampNeg → vp_in v_10 6 ∧ ∀ σ24 : gs_St, σ24 = gs_A σ 13 (upd (σ.2.1 13) v_10.toNatClampNeg v_11) → ¬ v23 = 0 ∧ (vp_in v_10 6 ∧ ∀ σ25 : gs_St, σ25 = gs_L σ24 5 (vp_updL (σ24.2.2 5) v_10.toNatClampNeg (v_5 / v23)) → ¬ v23 = 0 ∧ (∀ v26 : Int64, v26 = v_5 - v_5 / v23 * v23 → ∀ v27 : Int32, v27 = v_10 + 1 → X91 v26 v_7 v22 v27 σ25)))) → X206 v_5 v_7 v_9 v_10 v_11 σ) →
  (∀ (v_7 : Int32) (v_10 : Int32) (σ : gs_St), ((v_10 < 0 → K v_7 σ) ∧ (¬ (v_10 < 0) → C_Mo_at v_7 v_10 σ (fun r29 σ28 => vp_in v_10 6 ∧ (vp_in v_10 6 ∧ (C_Mo_put r29 (σ28.2.1 13 v_10.toNatClampNeg) (σ28.2.2 5 v_10.toNatClampNeg) σ28 (fun σ30 => ∀ v31 : Int32, v31 = v_10 + (-1) → X276 v_7 v31 σ30)))))) → X276 v_7 v_10 σ) →
  (X9 a0 a1 a2 (0 : Int32) (0 : Int32) σ)
def C_Mo_draw (a0 : Int32) (a1 : Int32) (a2 : Int64) (σ : gs_St) (K : Int32 → gs_St → Prop) : Prop :=
  ∀ X48 : Int32 → Int32 → gs_St → Prop,
  ∀ X162 : Int32 → gs_St → Prop,
  ∀ X194 : Int32 → gs_St → Prop,
  (∀ (v_7 : Int32) (v_8 : Int32) (σ : gs_St), (((σ.1 7) ≤ 0 → ∀ σ5 : gs_St, σ5 = gs_I σ 3 v_7 → ∀ σ6 : gs_St, σ6 = gs_I σ5 4 v_8 → X162 (0 : Int32) σ6) ∧ (¬ ((σ.1 7) ≤ 0) → ∀ σ7 : gs_St, σ7 = gs_I σ 7 ((σ.1 7) - (1 : Int32)) → vp_in (σ7.1 7) 1300 ∧ (∀ v8 : Int32, v8 = σ7.2.1 9 (σ7.1 7).toNatClampNeg → C_Mo_isNonterminal v8 σ7 (fun r10 σ9 => (¬ r10 = 0 → (¬ v_7 = (200 : Int32) → vp_in (σ9.1 7) 1300 ∧ (vp_in (σ9.1 7) 1300 ∧ (C_Mo_split v8 (σ9.2.1 10 (σ9.1 7).toNatClampNeg) (σ9.2.2 4 (σ9.1 7).toNatClampNeg) σ9 (fun r12 σ11 => vp_in v_7 200 ∧ ∀ σ13 : gs_St, σ13 = gs_A σ11 11 (upd (σ11.2.1 11) v_7.toNatClampNeg r12) → ∀ v14 : Int32, v14 = v_7 + 1 → X48 v14 v_8 σ13)))) ∧ (¬ (¬ v_7 = (200 : Int32)) → K (-2 : Int32) σ9)) ∧ (¬ (¬ r10 = 0) → vp_in v_8 16 ∧ ∀ σ15 : gs_St, σ15 = gs_A σ9 12 (upd (σ9.2.1 12) v_8.toNatClampNeg v8) → ∀ v16 : Int32, v16 = v_8 + 1 → X48 v_7 v16 σ15))))) → X48 v_7 v_8 σ) →
  (∀ (v_9 : Int32) (σ : gs_St), (((σ.1 3) ≤ v_9 → X194 (0 : Int32) σ) ∧ (¬ ((σ.1 3) ≤ v_9) → vp_in v_9 200 ∧ (vp_in v_9 200 ∧ ∀ σ17 : gs_St, σ17 = gs_A σ 5 (upd (σ.2.1 5) v_9.toNatClampNeg (σ.2.1 11 v_9.toNatClampNeg)) → ∀ v18 : Int32, v18 = v_9 + 1 → X162 v18 σ17))) → X162 v_9 σ) →
  (∀ (v_9 : Int32) (σ : gs_St), (((σ.1 4) ≤ v_9 → K (σ.1 3) σ) ∧ (¬ ((σ.1 4) ≤ v_9) → vp_in v_9 16 ∧ (vp_in v_9 16 ∧ ∀ σ19 : gs_St, σ19 = gs_A σ 6 (upd (σ.2.1 6) v_9.toNatClampNeg (σ.2.1 12 v_9.toNatClampNeg)) → ∀ v20 : Int32, v20 = v_9 + 1 → X194 v20 σ19))) → X194 v_9 σ) →
  (C_Mo_trees a0 a1 σ (fun r2 σ1 => (r2 < (0 : Int64) → K (-1 : Int32) σ1) ∧ (¬ (r2 < (0 : Int64)) → (a2 < (0 : Int64) → K (-1 : Int32) σ1) ∧ (¬ (a2 < (0 : Int64)) → (a2 < r2 → ∀ σ3 : gs_St, σ3 = gs_I σ1 7 (0 : Int32) → C_Mo_put a0 a1 a2 σ3 (fun σ4 => X48 (0 : Int32) (0 : Int32) σ4)) ∧ (¬ (a2 < r2) → K (-1 : Int32) σ1)))))
def C_Mo_row (a0 : Int32) (σ : gs_St) (K : Int32 → gs_St → Prop) : Prop :=
  ((a0 < 0 → K (-1 : Int32) σ) ∧ (¬ (a0 < 0) → (a0 < (σ.1 3) → vp_in a0 200 ∧ (K (σ.2.1 5 a0.toNatClampNeg) σ)) ∧ (¬ (a0 < (σ.1 3)) → K (-1 : Int32) σ)))
def C_Mo_leaf (a0 : Int32) (σ : gs_St) (K : Int32 → gs_St → Prop) : Prop :=
  ((a0 < 0 → K (-1 : Int32) σ) ∧ (¬ (a0 < 0) → (a0 < (σ.1 4) → vp_in a0 16 ∧ (K (σ.2.1 6 a0.toNatClampNeg) σ)) ∧ (¬ (a0 < (σ.1 4)) → K (-1 : Int32) σ)))
def C_Mo_list (a0 : Int32) (σ : gs_St) (K : Int32 → gs_St → Prop) : Prop :=
  ((¬ (σ.1 2) = (200 : Int32) → vp_in (σ.1 2) 200 ∧ ∀ σ1 : gs_St, σ1 = gs_A σ 4 (upd (σ.2.1 4) (σ.1 2).toNatClampNeg a0) → ∀ σ2 : gs_St, σ2 = gs_I σ1 2 ((σ1.1 2) + (1 : Int32)) → K (σ2.1 2) σ2) ∧ (¬ (¬ (σ.1 2) = (200 : Int32)) → K (-1 : Int32) σ))
def C_Mo_join (a0 : Int32) (σ : gs_St) (K : Int32 → gs_St → Prop) : Prop :=
  ∀ X10 : Int32 → Int32 → Int32 → Int32 → gs_St → Prop,
  ∀ X130 : Int32 → Int32 → Int32 → Int64 → Int32 → gs_St → Prop,
  ∀ X190 : Int32 → Int32 → Int32 → Int64 → Int32 → Int32 → gs_St → Prop,
  ∀ X204 : Int32 → Int32 → Int32 → Int64 → Int32 → Int32 → Int32 → gs_St → Prop,
  (∀ (v_1 : Int32) (v_2 : Int32) (v_3 : Int32) (v_4 : Int32) (σ : gs_St), (vp_in v_1 24 ∧ (((σ.2.1 1 v_1.toNatClampNeg) ≤ v_4 → (v_2 < (17 : Int32) → X130 v_1 v_2 v_3 (0 : Int64) (0 : Int32) σ) ∧ (¬ (v_2 < (17 : Int32)) → K (0 : Int32) σ)) ∧ (¬ ((σ.2.1 1 v_1.toNatClampNeg) ≤ v_4) → C_Mo_at v_1 v_4 σ (fun r3 σ2 => vp_in v_4 6 ∧ ∀ σ4 : gs_St, σ4 = gs_A σ2 13 (upd (σ2.2.1 13) v_4.toNatClampNeg (1 : Int32)) → vp_in v_4 6 ∧ ∀ σ5 : gs_St, σ5 = gs_L σ4 5 (vp_updL (σ4.2.2 5) v_4.toNatClampNeg (0 : Int64)) → C_Mo_isNonterminal r3 σ5 (fun r7 σ6 => (r7 = 0 → vp_in v_4 6 ∧ (∀ v8 : Int32, v8 = v_2 + (σ6.2.1 13 v_4.toNatClampNeg) → ∀ v9 : Int32, v9 = v_4 + 1 → X10 v_1 v8 v_3 v9 σ6)) ∧ (¬ (r7 = 0) → ∀ v10 : Int32, v10 = v_3 + (-1) → (v10 < 0 → K (0 : Int32) σ6) ∧ (¬ (v10 < 0) → vp_in v10 1300 ∧ (((σ6.2.1 9 v10.toNatClampNeg) = r3 → vp_in v10 1300 ∧ (vp_in v_4 6 ∧ ∀ σ11 : gs_St, σ11 = gs_A σ6 13 (upd (σ6.2.1 13) v_4.toNatClampNeg (σ6.2.1 10 v10.toNatClampNeg)) → vp_in v10 1300 ∧ (vp_in v_4 6 ∧ ∀ σ12 : gs_St, σ12 = gs_L σ11 5 (vp_updL (σ11.2.2 5) v_4.toNatClampNeg (σ11.2.2 4 v10.toNatClampNeg)) → vp_in v_4 6 ∧ (∀ v13 : Int32, v13 = v_2 + (σ12.2.1 13 v_4.toNatClampNeg) → ∀ v14 : Int32, v14 = v_4 + 1 → X10 v_1 v13 v10 v14 σ12)))) ∧ (¬ ((σ6.2.1 9 v10.toNatClampNeg) = r3) → K (0 : Int32) σ6))))))))) → X10 v_1 v_2 v_3 v_4 σ) →
  (∀ (v_1 : Int32) (v_2 : Int32) (v_3 : Int32) (v_4 : Int64) (v_6 : Int32) (σ : gs_St), ((v_1 ≤ v_6 → C_Mo_fill v_1 v_2 σ (fun σ15 => X190 v_1 v_2 v_3 v_4 v_2 (0 : Int32) σ15)) ∧ (¬ (v_1 ≤ v_6) → vp_in v_6 24 ∧ (vp_in v_1 24 ∧ ((¬ (σ.2.1 0 v_6.toNatClampNeg) = (σ.2.1 0 v_1.toNatClampNeg) → ∀ v16 : Int32, v16 = v_6 + 1 → X130 v_1 v_2 v_3 v_4 v16 σ) ∧ (¬ (¬ (σ.2.1 0 v_6.toNatClampNeg) = (σ.2.1 0 v_1.toNatClampNeg)) → C_Mo_fill v_6 v_2 σ (fun σ17 => vp_in v_2 119 ∧ (C_Mo_sum v_4 (σ17.2.2 3 v_2.toNatClampNeg) σ17 (fun r19 σ18 => ∀ v20 : Int32, v20 = v_6 + 1 → X130 v_1 v_2 v_3 r19 v20 σ18)))))))) → X130 v_1 v_2 v_3 v_4 v_6 σ) →
  (∀ (v_1 : Int32) (v_2 : Int32) (v_3 : Int32) (v_4 : Int64) (v_6 : Int32) (v_7 : Int32) (σ : gs_St), (vp_in v_1 24 ∧ (((σ.2.1 1 v_1.toNatClampNeg) ≤ v_7 → ∀ σ21 : gs_St, σ21 = gs_I σ 7 v_3 → vp_in v_1 24 ∧ (C_Mo_put (σ21.2.1 0 v_1.toNatClampNeg) v_2 v_4 σ21 (fun σ22 => K (1 : Int32) σ22))) ∧ (¬ ((σ.2.1 1 v_1.toNatClampNeg) ≤ v_7) → X204 v_1 v_2 v_3 v_4 v_6 v_7 (0 : Int32) σ))) → X190 v_1 v_2 v_3 v_4 v_6 v_7 σ) →
  (∀ (v_1 : Int32) (v_2 : Int32) (v_3 : Int32) (v_4 : Int64) (v_6 : Int32) (v_7 : Int32) (v_8 : Int32) (σ : gs_St), (vp_in v_7 6 ∧ (((σ.2.1 13 v_7.toNatClampNeg) ≤ v_8 → vp_in v_7 6 ∧ (∀ v23 : Int32, v23 = v_6 - (σ.2.1 13 v_7.toNatClampNeg) → vp_in v_7 6 ∧ (vp_in ((((17 : Int32) * v_7) + (17 : Int32)) + v23) 119 ∧ (C_Mo_product (σ.2.2 5 v_7.toNatClampNeg) (σ.2.2 3 ((((17 : Int32) * v_7) + (17 : Int32)) + v23).toNatClampNeg) σ (fun r25 σ24 => C_Mo_sum v_4 r25 σ24 (fun r27 σ26 => ∀ v28 : Int32, v28 = v_7 + 1 → X190 v_1 v_2 v_3 r27 v23 v28 σ26)))))) ∧ (¬ ((σ.2.1 13 v_7.toNatClampNeg) ≤ v_8) → C_Mo_at v_1 v_7 σ (fun r30 σ29 => C_Mo_of r30 v_8 σ29 (fun r32 σ31 => vp_in (((((17 : Int32) * v_7) + (17 : Int32)) + v_6) - v_8) 119 ∧ (C_Mo_product r32 (σ31.2.2 3 (((((17 : Int32) * v_7) + (17 : Int32)) + v_6) - v_8).toNatClampNeg) σ31 (fun r34 σ33 => C_Mo_sum v_4 r34 σ33 (fun r36 σ35 => ∀ v37 : Int32, v37 = v_8 + 1 → X204 v_1 v_2 v_3 r36 v_6 v_7 v37 σ35)))))))) → X204 v_1 v_2 v_3 v_4 v_6 v_7 v_8 σ) →
  (∀ v1 : Int32, v1 = σ.1 7 → X10 a0 (0 : Int32) v1 (0 : Int32) σ)
def C_Mo_number (a0 : Int32) (σ : gs_St) (K : Int64 → gs_St → Prop) : Prop :=
  ∀ X42 : Int32 → Int32 → gs_St → Prop,
  (∀ (v_1 : Int32) (v_3 : Int32) (σ : gs_St), ((v_3 < 0 → (¬ (σ.1 7) = (1 : Int32) → K (-1 : Int64) σ) ∧ (¬ (¬ (σ.1 7) = (1 : Int32)) → vp_in (0 : Int32) 1300 ∧ ((¬ (σ.2.1 9 (0 : Int32).toNatClampNeg) = v_1 → K (-1 : Int64) σ) ∧ (¬ (¬ (σ.2.1 9 (0 : Int32).toNatClampNeg) = v_1) → vp_in (0 : Int32) 1300 ∧ (C_Mo_of v_1 (σ.2.1 10 (0 : Int32).toNatClampNeg) σ (fun r11 σ10 => (r11 ≤ (1000000000000000000 : Int64) → vp_in (0 : Int32) 1300 ∧ (K (σ10.2.2 4 (0 : Int32).toNatClampNeg) σ10)) ∧ (¬ (r11 ≤ (1000000000000000000 : Int64)) → K (-1 : Int64) σ10))))))) ∧ (¬ (v_3 < 0) → vp_in v_3 200 ∧ (C_Mo_isRule (σ.2.1 4 v_3.toNatClampNeg) σ (fun r13 σ12 => (r13 = 0 → K (-1 : Int64) σ12) ∧ (¬ (r13 = 0) → vp_in v_3 200 ∧ (C_Mo_join (σ12.2.1 4 v_3.toNatClampNeg) σ12 (fun r15 σ14 => (¬ r15 = 0 → ∀ v16 : Int32, v16 = v_3 + (-1) → X42 v_1 v16 σ14) ∧ (¬ (¬ r15 = 0) → K (-1 : Int64) σ14)))))))) → X42 v_1 v_3 σ) →
  (∀ v1 : Int32, v1 = σ.1 2 → ∀ σ2 : gs_St, σ2 = gs_I σ 2 (0 : Int32) → C_Mo_isNonterminal a0 σ2 (fun r4 σ3 => (r4 = 0 → K (-1 : Int64) σ3) ∧ (¬ (r4 = 0) → C_Mo_circle σ3 (fun r6 σ5 => (r6 = 0 → C_Mo_reckon (-1 : Int32) σ5 (fun σ7 => ∀ σ8 : gs_St, σ8 = gs_I σ7 7 (0 : Int32) → ∀ v9 : Int32, v9 = v1 - (1 : Int32) → X42 a0 v9 σ8)) ∧ (¬ (r6 = 0) → K (-1 : Int64) σ5)))))
end
section
/-! Trees of a grammar, without trees: gm_D R k A m: nonterminal A has a tree of height at most k and of length m.
R is the list of the rules (left side, right side); symbols below 8 are nonterminals. DRAFT, not compiled yet. -/
theorem gm_ph : ∀ (n : Nat) (f : Nat → Nat), (∀ i, i ≤ n → f i < n) → ∃ i j, i < j ∧ j ≤ n ∧ f i = f j
  | 0, f, h => absurd (h 0 (Nat.le_refl 0)) (Nat.not_lt_zero _)
  | n + 1, f, h => by
    by_cases hx : ∃ i, i ≤ n ∧ f i = f (n + 1)
    · obtain ⟨i, h1, h2⟩ := hx
      exact ⟨i, n + 1, by omega, Nat.le_refl _, h2⟩
    · have hne : ∀ i, i ≤ n → f i ≠ f (n + 1) := fun i hi e => hx ⟨i, hi, e⟩
      obtain ⟨i, j, h1, h2, h3⟩ := gm_ph n (fun i => if f (n + 1) < f i then f i - 1 else f i) (fun i hi => by
        have a := h i (by omega)
        have b := h (n + 1) (Nat.le_refl _)
        have c := hne i hi
        show (if f (n + 1) < f i then f i - 1 else f i) < n
        split <;> omega)
      refine ⟨i, j, h1, by omega, ?_⟩
      have a := hne i (by omega)
      have b := hne j h2
      have h3 : (if f (n + 1) < f i then f i - 1 else f i) = (if f (n + 1) < f j then f j - 1 else f j) := h3
      split at h3 <;> split at h3 <;> omega
/-- the symbols xs together have a length m, D says which lengths a nonterminal has -/
def gm_S (D : Nat → Nat → Prop) : List Nat → Nat → Prop
  | [], m => m = 0
  | x :: xs, m => ∃ a b, m = a + b ∧ (x < 8 → D x a) ∧ (8 ≤ x → a = 1) ∧ gm_S D xs b
def gm_D (R : List (Nat × List Nat)) : Nat → Nat → Nat → Prop
  | 0, _, _ => False
  | k + 1, A, m => ∃ r, r ∈ R ∧ r.1 = A ∧ gm_S (gm_D R k) r.2 m
theorem gm_S_mono {D E : Nat → Nat → Prop} (h : ∀ x a, x < 8 → D x a → E x a) : ∀ (xs : List Nat) (m : Nat), gm_S D xs m → gm_S E xs m
  | [], _, hs => hs
  | _ :: xs, _, hs => by
    obtain ⟨a, b, e, h1, h2, h3⟩ := hs
    exact ⟨a, b, e, fun hx => h _ _ hx (h1 hx), h2, gm_S_mono h xs b h3⟩
theorem gm_D_up {R : List (Nat × List Nat)} : ∀ (k A m : Nat), gm_D R k A m → gm_D R (k + 1) A m
  | 0, _, _, h => h.elim
  | k + 1, _, _, h => by
    obtain ⟨r, h1, h2, h3⟩ := h
    exact ⟨r, h1, h2, gm_S_mono (fun x a _ hd => gm_D_up k x a hd) _ _ h3⟩
theorem gm_D_le {R : List (Nat × List Nat)} {k n A m : Nat} (h : gm_D R k A m) (hkn : k ≤ n) : gm_D R n A m := by
  induction n with
  | zero =>
    have e : k = 0 := by omega
    subst e
    exact h
  | succ n ih =>
    by_cases e : k = n + 1
    · subst e
      exact h
    · exact gm_D_up n A m (ih (by omega))
/-- m is the least length of A's trees -/
def gm_V (R : List (Nat × List Nat)) (A m : Nat) : Prop := (∃ k, gm_D R k A m) ∧ ∀ k n, gm_D R k A n → m ≤ n
theorem gm_V_uniq {R : List (Nat × List Nat)} {A m n : Nat} (h : gm_V R A m) (h' : gm_V R A n) : m = n := by
  obtain ⟨⟨k, hk⟩, h2⟩ := h
  obtain ⟨⟨k', hk'⟩, h2'⟩ := h'
  have a := h2 k' n hk'
  have b := h2' k m hk
  omega
theorem gm_V_ex {R : List (Nat × List Nat)} {k A n : Nat} (h : gm_D R k A n) : ∃ m, gm_V R A m ∧ m ≤ n := by
  obtain ⟨m, ⟨k', hk'⟩, hl⟩ := pk_least (fun m => ∃ k, gm_D R k A m) ⟨n, k, h⟩
  refine ⟨m, ⟨⟨k', hk'⟩, fun k2 n2 h2 => ?_⟩, ?_⟩
  · rcases Nat.lt_or_ge n2 m with q | q
    · exact absurd ⟨k2, h2⟩ (hl n2 q)
    · exact q
  · rcases Nat.lt_or_ge n m with q | q
    · exact absurd ⟨k, h⟩ (hl n q)
    · exact q
/-- a row of symbols at heights k: at least lengths it isn't longer; if it is as long, all were least -/
theorem gm_S_min {R : List (Nat × List Nat)} {k : Nat} : ∀ (xs : List Nat) (m : Nat), gm_S (gm_D R k) xs m → ∃ m', gm_S (gm_V R) xs m' ∧ m' ≤ m ∧ (m' = m → gm_S (fun x a => gm_D R k x a ∧ gm_V R x a) xs m)
  | [], m, h => ⟨m, h, Nat.le_refl _, fun _ => h⟩
  | x :: xs, m, h => by
    obtain ⟨a, b, e, h1, h2, h3⟩ := h
    obtain ⟨b', g1, g2, g3⟩ := gm_S_min xs b h3
    by_cases hx : x < 8
    · obtain ⟨a', q1, q2⟩ := gm_V_ex (h1 hx)
      refine ⟨a' + b', ⟨a', b', rfl, fun _ => q1, fun z => absurd z (by omega), g1⟩, by omega, fun eq => ?_⟩
      have ea : a' = a := by omega
      have eb : b' = b := by omega
      subst ea
      exact ⟨a', b, e, fun _ => ⟨h1 hx, q1⟩, h2, g3 eb⟩
    · refine ⟨a + b', ⟨a, b', rfl, fun z => absurd z hx, h2, g1⟩, by omega, fun eq => ?_⟩
      exact ⟨a, b, e, fun z => absurd z hx, h2, g3 (by omega)⟩
theorem gm_S_or {E F : Nat → Nat → Prop} : ∀ (xs : List Nat) (m : Nat), gm_S E xs m → gm_S F xs m ∨ ∃ x a, x < 8 ∧ E x a ∧ ¬ F x a
  | [], _, h => Or.inl h
  | x :: xs, m, h => by
    obtain ⟨a, b, e, h1, h2, h3⟩ := h
    rcases gm_S_or (F := F) xs b h3 with g | g
    · by_cases hx : x < 8
      · by_cases hf : F x a
        · exact Or.inl ⟨a, b, e, fun _ => hf, h2, g⟩
        · exact Or.inr ⟨x, a, hx, h1 hx, hf⟩
      · exact Or.inl ⟨a, b, e, fun z => absurd z hx, h2, g⟩
    · exact Or.inr g
/-- some height serves for all of a row -/
theorem gm_S_height {R : List (Nat × List Nat)} : ∀ (xs : List Nat) (m : Nat), gm_S (gm_V R) xs m → ∃ k, gm_S (gm_D R k) xs m
  | [], m, h => ⟨0, h⟩
  | x :: xs, m, h => by
    obtain ⟨a, b, e, h1, h2, h3⟩ := h
    obtain ⟨k, hk⟩ := gm_S_height xs b h3
    by_cases hx : x < 8
    · obtain ⟨⟨k2, hk2⟩, -⟩ := h1 hx
      refine ⟨k + k2, a, b, e, fun _ => gm_D_le hk2 (by omega), h2, gm_S_mono (fun y c _ hd => gm_D_le hd (by omega)) _ _ hk⟩
    · exact ⟨k, a, b, e, fun z => absurd z hx, h2, hk⟩
/-- A's least length is reached at height k and not below -/
def gm_H (R : List (Nat × List Nat)) (k A : Nat) : Prop := ∃ m, gm_V R A m ∧ gm_D R k A m ∧ ¬ gm_D R (k - 1) A m
theorem gm_H_down {R : List (Nat × List Nat)} {k A : Nat} (h : gm_H R (k + 2) A) : ∃ x, x < 8 ∧ gm_H R (k + 1) x := by
  obtain ⟨m, hv, hd, hn⟩ := h
  obtain ⟨r, h1, h2, h3⟩ := hd
  obtain ⟨m', g1, g2, g3⟩ := gm_S_min _ _ h3
  have hm : m ≤ m' := by
    obtain ⟨k2, hk2⟩ := gm_S_height _ _ g1
    exact hv.2 (k2 + 1) m' ⟨r, h1, h2, hk2⟩
  have h4 := g3 (by omega)
  rcases gm_S_or (F := gm_D R k) _ _ h4 with q | ⟨x, a, hx, ⟨q1, q2⟩, q3⟩
  · exact absurd (⟨r, h1, h2, q⟩ : gm_D R (k + 1) A m) hn
  · exact ⟨x, hx, a, q2, q1, q3⟩
theorem gm_H_le {R : List (Nat × List Nat)} {k A : Nat} (hA : A < 8) (h : gm_H R k A) : k ≤ 8 := by
  rcases Nat.lt_or_ge 8 k with q | q
  · have all : ∀ j, j + 1 ≤ k → ∃ x, x < 8 ∧ gm_H R (k - j) x := by
      intro j
      induction j with
      | zero => exact fun _ => ⟨A, hA, h⟩
      | succ j ih =>
        intro hj
        obtain ⟨x, hx, hh⟩ := ih (by omega)
        have e : k - j = (k - (j + 1) - 1) + 2 := by omega
        rw [e] at hh
        obtain ⟨y, hy, hh2⟩ := gm_H_down hh
        have e2 : k - (j + 1) - 1 + 1 = k - (j + 1) := by omega
        rw [e2] at hh2
        exact ⟨y, hy, hh2⟩
    have ex : ∀ i, ∃ x, i ≤ 8 → x < 8 ∧ gm_H R (i + 1) x := by
      intro i
      by_cases hi : i ≤ 8
      · obtain ⟨x, hx, hh⟩ := all (k - (i + 1)) (by omega)
        have e : k - (k - (i + 1)) = i + 1 := by omega
        rw [e] at hh
        exact ⟨x, fun _ => ⟨hx, hh⟩⟩
      · exact ⟨0, fun z => absurd z hi⟩
    obtain ⟨f, hf⟩ : ∃ f : Nat → Nat, ∀ i, i ≤ 8 → f i < 8 ∧ gm_H R (i + 1) (f i) := ⟨fun i => Classical.choose (ex i), fun i hi => Classical.choose_spec (ex i) hi⟩
    obtain ⟨i, j, hij, hj, e⟩ := gm_ph 8 f (fun i hi => (hf i hi).1)
    obtain ⟨-, m, v1, d1, n1⟩ := hf i (by omega)
    obtain ⟨-, m2, v2, d2, n2⟩ := hf j hj
    rw [e] at v1 d1
    have em := gm_V_uniq v1 v2
    subst em
    exact absurd (gm_D_le d1 (show i + 1 ≤ j + 1 - 1 by omega)) n2
  · exact q
/-- eight rounds reach every least length -/
theorem gm_eight {R : List (Nat × List Nat)} {A m : Nat} (hA : A < 8) (h : gm_V R A m) : gm_D R 8 A m := by
  obtain ⟨k, hk, hl⟩ := pk_least (fun k => gm_D R k A m) h.1
  have hH : gm_H R k A := by
    refine ⟨m, h, hk, ?_⟩
    cases k with
    | zero => exact hk.elim
    | succ k => exact hl k (by omega)
  exact gm_D_le hk (gm_H_le hA hH)
/-! Counts of trees, held at 10^18 + 1. T x p: how many trees of length p nonterminal x has. DRAFT, not compiled yet. -/
def gc_cap (n : Nat) : Nat := if n ≤ 1000000000000000000 then n else 1000000000000000001
def gc_sum (f : Nat → Nat) : Nat → Nat
  | 0 => 0
  | n + 1 => gc_sum f n + f n
theorem gc_sum_congr {f g : Nat → Nat} : ∀ (n : Nat), (∀ p, p < n → f p = g p) → gc_sum f n = gc_sum g n
  | 0, _ => rfl
  | n + 1, h => by
    show gc_sum f n + f n = gc_sum g n + g n
    rw [gc_sum_congr n (fun p hp => h p (by omega)), h n (by omega)]
/-- how many ways the symbols have to yield a length -/
def gc_E (T : Nat → Nat → Nat) : List Nat → Nat → Nat
  | [], n => if n = 0 then 1 else 0
  | x :: xs, n => if x < 8 then gc_cap (gc_sum (fun p => T x p * gc_E T xs (n - p)) (n + 1)) else (if n = 0 then 0 else gc_E T xs (n - 1))
/-- over the rules of A -/
def gc_tot (T : Nat → Nat → Nat) : List (Nat × List Nat) → Nat → Nat → Nat
  | [], _, _ => 0
  | r :: R, A, n => (if r.1 = A then gc_E T r.2 n else 0) + gc_tot T R A n
theorem gc_cap_add (a b : Nat) : gc_cap (gc_cap a + b) = gc_cap (a + b) := by
  unfold gc_cap
  split <;> split <;> (try split) <;> omega
theorem gc_cap_zero : gc_cap 0 = 0 := rfl
theorem gc_cap_le (a : Nat) : gc_cap a ≤ 1000000000000000001 := by
  unfold gc_cap
  split <;> omega
theorem gc_cap_cap (a : Nat) : gc_cap (gc_cap a) = gc_cap a := by
  unfold gc_cap
  split <;> (try split) <;> omega
theorem gc_cap_eq0 {a : Nat} : gc_cap a = 0 ↔ a = 0 := by
  unfold gc_cap
  split <;> omega
theorem gc_E_nt {T : Nat → Nat → Nat} {x : Nat} {xs : List Nat} {n : Nat} (h : x < 8) : gc_E T (x :: xs) n = gc_cap (gc_sum (fun p => T x p * gc_E T xs (n - p)) (n + 1)) := by
  show (if x < 8 then _ else _) = _
  rw [if_pos h]
theorem gc_E_t {T : Nat → Nat → Nat} {x : Nat} {xs : List Nat} {n : Nat} (h : ¬ x < 8) : gc_E T (x :: xs) n = if n = 0 then 0 else gc_E T xs (n - 1) := by
  show (if x < 8 then _ else _) = _
  rw [if_neg h]
/-- the table up to n alone counts -/
theorem gc_E_upto {T T' : Nat → Nat → Nat} : ∀ (xs : List Nat) (n : Nat), (∀ x p, x < 8 → p ≤ n → T x p = T' x p) → gc_E T xs n = gc_E T' xs n
  | [], _, _ => rfl
  | x :: xs, n, h => by
    by_cases hx : x < 8
    · rw [gc_E_nt hx, gc_E_nt hx]
      congr 1
      refine gc_sum_congr _ (fun p hp => ?_)
      rw [h x p hx (by omega), gc_E_upto xs (n - p) (fun y q hy hq => h y q hy (by omega))]
    · rw [gc_E_t hx, gc_E_t hx]
      by_cases hn : n = 0
      · rw [if_pos hn, if_pos hn]
      · rw [if_neg hn, if_neg hn, gc_E_upto xs (n - 1) (fun y q hy hq => h y q hy (by omega))]
/-- nothing but empty nonterminals yields nothing -/
theorem gc_E_zero {T : Nat → Nat → Nat} : ∀ (xs : List Nat), gc_E T xs 0 ≠ 0 → ∀ y ∈ xs, y < 8 ∧ T y 0 ≠ 0
  | [], _, _, hy => absurd hy List.not_mem_nil
  | x :: xs, h, y, hy => by
    by_cases hx : x < 8
    · rw [gc_E_nt hx] at h
      have h1 : T x 0 * gc_E T xs 0 ≠ 0 := by
        intro e
        apply h
        have e2 : gc_sum (fun p => T x p * gc_E T xs (0 - p)) (0 + 1) = 0 := by
          show 0 + T x 0 * gc_E T xs (0 - 0) = 0
          rw [Nat.sub_zero, e]
        rw [e2]
        rfl
      have h2 : T x 0 ≠ 0 := fun e => h1 (by rw [e, Nat.zero_mul])
      have h3 : gc_E T xs 0 ≠ 0 := fun e => h1 (by rw [e, Nat.mul_zero])
      rcases List.mem_cons.mp hy with e | e
      · subst e
        exact ⟨hx, h2⟩
      · exact gc_E_zero xs h3 y e
    · rw [gc_E_t hx, if_pos rfl] at h
      exact absurd rfl h
/-- two tables that are alike below n, sound at 0, and alike at n where a symbol stands alone among empty ones -/
theorem gc_E_congr {em : Nat → Prop} {T T' : Nat → Nat → Nat} {n : Nat} (ha : ∀ x p, x < 8 → p < n → T x p = T' x p) (hb : ∀ x, x < 8 → ¬ em x → T x 0 = 0 ∧ T' x 0 = 0) :
    ∀ (xs : List Nat), (∀ l1 x l2, xs = l1 ++ x :: l2 → x < 8 → (∀ y, y ∈ l1 ++ l2 → y < 8 ∧ em y) → T x n = T' x n) → gc_E T xs n = gc_E T' xs n
  | [], _ => rfl
  | x :: xs, hc => by
    by_cases hx : x < 8
    · rw [gc_E_nt hx, gc_E_nt hx]
      congr 1
      refine gc_sum_congr _ (fun p hp => ?_)
      have first : p = 0 → T x 0 * gc_E T xs n = T x 0 * gc_E T' xs n := by
        intro _
        by_cases hz : T x 0 = 0
        · rw [hz, Nat.zero_mul, Nat.zero_mul]
        · have hem : em x := Classical.byContradiction (fun q => hz (hb x hx q).1)
          rw [gc_E_congr ha hb xs (fun l1 z l2 e hz2 hall => hc (x :: l1) z l2 (by rw [e]; rfl) hz2 (fun y hy => by
            rcases List.mem_cons.mp hy with q | q
            · subst q
              exact ⟨hx, hem⟩
            · exact hall y q))]
      have last : gc_E T xs 0 = gc_E T' xs 0 → T x n * gc_E T xs 0 = T' x n * gc_E T' xs 0 := by
        intro e
        by_cases hz : gc_E T xs 0 = 0
        · rw [← e, hz, Nat.mul_zero, Nat.mul_zero]
        · rw [← e, hc [] x xs rfl hx (fun y hy => by
            obtain ⟨h1, h2⟩ := gc_E_zero xs hz y (by simpa using hy)
            exact ⟨h1, Classical.byContradiction (fun q => h2 (hb y h1 q).1)⟩)]
      show T x p * gc_E T xs (n - p) = T' x p * gc_E T' xs (n - p)
      by_cases hn : n = 0
      · subst hn
        have hp0 : p = 0 := by omega
        subst hp0
        by_cases hem : em x
        · exact last (gc_E_congr ha hb xs (fun l1 z l2 e hz2 hall => hc (x :: l1) z l2 (by rw [e]; rfl) hz2 (fun y hy => by
            rcases List.mem_cons.mp hy with q | q
            · subst q
              exact ⟨hx, hem⟩
            · exact hall y q)))
        · rw [(hb x hx hem).1, (hb x hx hem).2, Nat.zero_mul, Nat.zero_mul]
      · by_cases hp0 : p = 0
        · subst hp0
          rw [Nat.sub_zero, ← ha x 0 hx (by omega)]
          exact first rfl
        · by_cases hpn : p = n
          · subst hpn
            rw [Nat.sub_self]
            exact last (gc_E_upto xs 0 (fun y q hy hq => ha y q hy (by omega)))
          · rw [ha x p hx (by omega), gc_E_upto xs (n - p) (fun y q hy hq => ha y q hy (by omega))]
    · rw [gc_E_t hx, gc_E_t hx]
      by_cases hn : n = 0
      · rw [if_pos hn, if_pos hn]
      · rw [if_neg hn, if_neg hn, gc_E_upto xs (n - 1) (fun y q hy hq => ha y q hy (by omega))]
/-- A leads to x: a rule of A has x among empty nonterminals -/
def gc_leads (em : Nat → Prop) (R : List (Nat × List Nat)) (A x : Nat) : Prop := ∃ r, r ∈ R ∧ r.1 = A ∧ ∃ l1 l2, r.2 = l1 ++ x :: l2 ∧ ∀ y, y ∈ l1 ++ l2 → y < 8 ∧ em y
theorem gc_tot_congr {em : Nat → Prop} {T T' : Nat → Nat → Nat} {n A : Nat} (ha : ∀ x p, x < 8 → p < n → T x p = T' x p) (hb : ∀ x, x < 8 → ¬ em x → T x 0 = 0 ∧ T' x 0 = 0) :
    ∀ (R : List (Nat × List Nat)), (∀ x, x < 8 → gc_leads em R A x → T x n = T' x n) → gc_tot T R A n = gc_tot T' R A n
  | [], _ => rfl
  | r :: R, hc => by
    have h1 : gc_tot T R A n = gc_tot T' R A n := gc_tot_congr ha hb R (fun x hx hl => hc x hx (by
      obtain ⟨r2, q1, q2, q3⟩ := hl
      exact ⟨r2, List.mem_cons_of_mem _ q1, q2, q3⟩))
    show (if r.1 = A then gc_E T r.2 n else 0) + gc_tot T R A n = (if r.1 = A then gc_E T' r.2 n else 0) + gc_tot T' R A n
    rw [h1]
    by_cases hr : r.1 = A
    · rw [if_pos hr, if_pos hr, gc_E_congr ha hb r.2 (fun l1 x l2 e hx hall => hc x hx ⟨r, List.mem_cons_self, hr, l1, l2, e, hall⟩)]
    · rw [if_neg hr, if_neg hr]
/-- a table of counts for a grammar -/
def gc_ok (em : Nat → Prop) (R : List (Nat × List Nat)) (T : Nat → Nat → Nat) (N : Nat) : Prop :=
  (∀ A n, A < 8 → n ≤ N → T A n = gc_cap (gc_tot T R A n)) ∧ ∀ A, A < 8 → ¬ em A → T A 0 = 0
/-- there is one table only, where an order shows that there is no circle -/
theorem gc_one {em : Nat → Prop} {R : List (Nat × List Nat)} {T T' : Nat → Nat → Nat} {N : Nat} (rk : Nat → Nat) (hrk : ∀ A x, A < 8 → x < 8 → gc_leads em R A x → rk x < rk A) (h : gc_ok em R T N) (h' : gc_ok em R T' N) : ∀ n, n ≤ N → ∀ A, A < 8 → T A n = T' A n := by
  intro n
  induction n using Nat.strongRecOn with
  | _ n ihn =>
    intro hn
    have key : ∀ (k A : Nat), A < 8 → rk A < k → T A n = T' A n := by
      intro k
      induction k with
      | zero => exact fun A _ hk => absurd hk (Nat.not_lt_zero _)
      | succ k ih =>
        intro A hA hk
        rw [h.1 A n hA hn, h'.1 A n hA hn, gc_tot_congr (T := T) (T' := T') (em := em) (fun x p hx hp => ihn p hp (by omega) x hx) (fun x hx hem => ⟨h.2 x hx hem, h'.2 x hx hem⟩) R (fun x hx hl => ih x hx (by have := hrk A x hA hx hl; omega))]
    exact fun A hA => key (rk A + 1) A hA (Nat.lt_succ_self _)
end
section
/-! Layer 2, part a: the grammar as a list, the small methods of the class over a state that holds it. -/
theorem gs_AA (σ : gs_St) (k : Nat) (f g : Nat → Int32) : gs_A (gs_A σ k f) k g = gs_A σ k g := by
  refine Prod.ext rfl (Prod.ext (funext fun j => ?_) rfl)
  show (if j = k then g else (if j = k then f else σ.2.1 j)) = (if j = k then g else σ.2.1 j)
  split <;> rfl
theorem gs_Aid (σ : gs_St) (k : Nat) : gs_A σ k (σ.2.1 k) = σ := by
  refine Prod.ext rfl (Prod.ext (funext fun j => ?_) rfl)
  show (if j = k then σ.2.1 k else σ.2.1 j) = σ.2.1 j
  split
  · rename_i e
    rw [e]
  · rfl
abbrev gg_R : Type := List (Nat × List Nat)
def gg_l (G : gg_R) (r : Nat) : Nat := (G.getD r (0, [])).1
def gg_y (G : gg_R) (r : Nat) : List Nat := (G.getD r (0, [])).2
/-- a grammar within the limits -/
def gg_ok (G : gg_R) : Prop := G.length ≤ 24 ∧ ∀ r, r < G.length → gg_l G r < 8 ∧ (gg_y G r).length ≤ 6 ∧ ∀ i, i < (gg_y G r).length → (gg_y G r).getD i 0 < 24
/-- the class's fields hold the grammar -/
def gr_at (G : gg_R) (σ : gs_St) : Prop := gg_ok G ∧ σ.1 2 = nI G.length ∧ ∀ r, r < G.length → σ.2.1 1 r = nI (gg_l G r) ∧ σ.2.1 2 r = nI (gg_y G r).length ∧ ∀ i, i < (gg_y G r).length → σ.2.1 3 (r * 6 + i) = nI ((gg_y G r).getD i 0)
theorem gr_at.of {G : gg_R} {σ τ : gs_St} (h : gr_at G σ) (h0 : τ.1 2 = σ.1 2) (h1 : τ.2.1 1 = σ.2.1 1) (h2 : τ.2.1 2 = σ.2.1 2) (h3 : τ.2.1 3 = σ.2.1 3) : gr_at G τ := by
  refine ⟨h.1, h0.trans h.2.1, fun r hr => ?_⟩
  rw [h1, h2, h3]
  exact h.2.2 r hr
theorem gg_getD {α : Type} {l : List α} {i : Nat} {d : α} (h : i < l.length) : l.getD i d = l[i] := by
  rw [List.getD_eq_getElem?_getD, List.getElem?_eq_getElem h]
  rfl
theorem gg_mem {G : gg_R} {r : Nat} (hr : r < G.length) : (gg_l G r, gg_y G r) ∈ G := by
  have e : G.getD r (0, []) = G[r] := gg_getD hr
  show ((G.getD r (0, [])).1, (G.getD r (0, [])).2) ∈ G
  rw [e]
  exact List.getElem_mem hr
theorem gg_idx {G : gg_R} {q : Nat × List Nat} (h : q ∈ G) : ∃ r, r < G.length ∧ gg_l G r = q.1 ∧ gg_y G r = q.2 := by
  obtain ⟨r, hr, e⟩ := List.getElem_of_mem h
  refine ⟨r, hr, ?_, ?_⟩
  · show (G.getD r (0, [])).1 = q.1
    rw [gg_getD hr, e]
  · show (G.getD r (0, [])).2 = q.2
    rw [gg_getD hr, e]
theorem gg_nil {ys : List Nat} {i : Nat} (h : ys.drop i = []) : ys.length ≤ i := List.drop_eq_nil_iff.mp h
theorem gg_cons {ys zs : List Nat} {i s : Nat} (h : ys.drop i = s :: zs) : i < ys.length ∧ ys.getD i 0 = s ∧ ys.drop (i + 1) = zs := by
  have hi : i < ys.length := by
    rcases Nat.lt_or_ge i ys.length with q | q
    · exact q
    · rw [List.drop_eq_nil_iff.mpr q] at h
      cases h
  rw [List.drop_eq_getElem_cons hi] at h
  injection h with h1 h2
  exact ⟨hi, by rw [gg_getD hi]; exact h1, h2⟩
theorem gg_drop {ys : List Nat} {i : Nat} (h : i < ys.length) : ys.drop i = ys.getD i 0 :: ys.drop (i + 1) := by
  rw [List.drop_eq_getElem_cons h, gg_getD h]
/-- no answer is -1 -/
def gg_o : Option Nat → Int32
  | none => -1
  | some n => nI n
theorem gg_o_none {o : Option Nat} (hb : ∀ n, o = some n → n < 2 ^ 31) : gg_o o = -1 ↔ o = none := by
  cases o with
  | none => exact ⟨fun _ => rfl, fun _ => rfl⟩
  | some n =>
    constructor
    · intro h
      have h1 : nI n = -1 := h
      have h2 := nI_pos (n := n) (hb n rfl)
      rw [h1] at h2
      exact absurd (by decide) h2
    · intro h
      cases h
section L2A
variable {G : gg_R} {σ : gs_St}
theorem s_isNt {x : Int32} {K : Int32 → gs_St → Prop} (h1 : ∀ j, j < 8 → x = nI j → K 1 σ) (h0 : (∀ j, j < 8 → x ≠ nI j) → K 0 σ) : C_Gl_isNonterminal x σ K := by
  rcases pk_ix x (n := 8) (by decide) with h | h | ⟨j, hj, rfl⟩
  · have hno : ∀ j, j < 8 → x ≠ nI j := fun j hj e => absurd (e ▸ h) (nI_pos (by omega))
    exact ⟨fun _ => h0 hno, fun q => absurd h q⟩
  · have hno : ∀ j, j < 8 → x ≠ nI j := fun j hj e => absurd (e ▸ h) (nI_ge hj (by decide))
    exact ⟨fun _ => h0 hno, fun _ => ⟨fun _ => h0 hno, fun q => absurd h q⟩⟩
  · exact ⟨fun q => absurd q (nI_pos (by omega)), fun _ => ⟨fun q => absurd q (nI_ge hj (by decide)), fun _ => h1 j hj rfl⟩⟩
theorem s_isNtN {s : Nat} {K : Int32 → gs_St → Prop} (hs : s < 2 ^ 31) (h1 : s < 8 → K 1 σ) (h0 : 8 ≤ s → K 0 σ) : C_Gl_isNonterminal (nI s) σ K :=
  ⟨fun q => absurd q (nI_pos hs), fun _ => pk_le 8 s h0 h1⟩
theorem s_has {x : Int32} {K : Int32 → gs_St → Prop} (h : gr_at G σ) (h1 : ∀ r, r < G.length → x = nI r → K 1 σ) (h0 : (∀ r, r < G.length → x ≠ nI r) → K 0 σ) : C_Gr_has x σ K := by
  have hG := h.1.1
  show (x < 0 → K 0 σ) ∧ (¬ (x < 0) → ((σ.1 2) ≤ x → K 0 σ) ∧ (¬ ((σ.1 2) ≤ x) → K 1 σ))
  rw [h.2.1]
  rcases pk_ix x (n := G.length) (by omega) with q | q | ⟨j, hj, rfl⟩
  · have hno : ∀ j, j < G.length → x ≠ nI j := fun j hj e => absurd (e ▸ q) (nI_pos (by omega))
    exact ⟨fun _ => h0 hno, fun z => absurd q z⟩
  · have hno : ∀ j, j < G.length → x ≠ nI j := fun j hj e => absurd (e ▸ q) (nI_ge hj (by omega))
    exact ⟨fun _ => h0 hno, fun _ => ⟨fun _ => h0 hno, fun z => absurd q z⟩⟩
  · exact ⟨fun z => absurd z (nI_pos (by omega)), fun _ => ⟨fun z => absurd z (nI_ge hj (by omega)), fun _ => h1 j hj rfl⟩⟩
theorem s_sizeOf {r : Nat} {K : Int32 → gs_St → Prop} (h : gr_at G σ) (hr : r < G.length) (k : K (nI (gg_y G r).length) σ) : C_Gr_sizeOf (nI r) σ K := by
  have hG := h.1.1
  refine ⟨vp_in_nI (by omega) (by decide), ?_⟩
  rw [nI_clamp (by omega), (h.2.2 r hr).2.1]
  exact k
theorem s_leftOf {r : Nat} {K : Int32 → gs_St → Prop} (h : gr_at G σ) (hr : r < G.length) (k : K (nI (gg_l G r)) σ) : C_Gr_leftOf (nI r) σ K := by
  have hG := h.1.1
  refine ⟨vp_in_nI (by omega) (by decide), ?_⟩
  rw [nI_clamp (by omega), (h.2.2 r hr).1]
  exact k
theorem s_symbolAt {r i : Nat} {K : Int32 → gs_St → Prop} (h : gr_at G σ) (hr : r < G.length) (hi : i < (gg_y G r).length) (k : K (nI ((gg_y G r).getD i 0)) σ) : C_Gr_symbolAt (nI r) (nI i) σ K := by
  have hG := h.1.1
  have hz := (h.1.2 r hr).2.1
  have e : nI r * (6 : Int32) + nI i = nI (r * 6 + i) := by rw [show (6 : Int32) = nI 6 from rfl, pk_mul, nI_add]
  show vp_in (nI r * (6 : Int32) + nI i) 144 ∧ K (σ.2.1 3 (nI r * (6 : Int32) + nI i).toNatClampNeg) σ
  rw [e, nI_clamp (by omega), (h.2.2 r hr).2.2 i hi]
  exact ⟨vp_in_nI (by omega) (by decide), k⟩
/-- how many nonterminals -/
def gg_ntn : List Nat → Nat
  | [] => 0
  | s :: ys => (if s < 8 then 1 else 0) + gg_ntn ys
theorem gg_ntn_le : ∀ ys : List Nat, gg_ntn ys ≤ ys.length
  | [] => Nat.le_refl 0
  | s :: ys => by
    have := gg_ntn_le ys
    show (if s < 8 then 1 else 0) + gg_ntn ys ≤ ys.length + 1
    split <;> omega
theorem s_ntIn {r : Nat} {K : Int32 → gs_St → Prop} (h : gr_at G σ) (hr : r < G.length) (k : K (nI (gg_ntn (gg_y G r))) σ) : C_Gr_nonterminalsIn (nI r) σ K := by
  intro X4 h4
  have hG := h.1.1
  have hz := (h.1.2 r hr).2.1
  have key : ∀ (zs : List Nat) (i a : Nat), (gg_y G r).drop i = zs → i + zs.length = (gg_y G r).length → a + gg_ntn zs = gg_ntn (gg_y G r) → X4 (nI r) (nI a) (nI i) σ := by
    intro zs
    induction zs with
    | nil =>
      intro i a hd hi ha
      have hi : i = (gg_y G r).length := hi
      have ha : a = gg_ntn (gg_y G r) := ha
      apply h4
      refine ⟨vp_in_nI (by omega) (by decide), ?_⟩
      rw [nI_clamp (by omega), (h.2.2 r hr).2.1]
      exact pk_le (gg_y G r).length i (fun _ => ha ▸ k) (fun q => absurd q (by omega))
    | cons s zs ih =>
      intro i a hd hi ha
      obtain ⟨h1, h2, h3⟩ := gg_cons hd
      have hi : i + (zs.length + 1) = (gg_y G r).length := hi
      have ha : a + ((if s < 8 then 1 else 0) + gg_ntn zs) = gg_ntn (gg_y G r) := ha
      have h24 := (h.1.2 r hr).2.2 i h1
      rw [h2] at h24
      apply h4
      refine ⟨vp_in_nI (by omega) (by decide), ?_⟩
      rw [nI_clamp (by omega), (h.2.2 r hr).2.1]
      refine pk_le (gg_y G r).length i (fun q => absurd q (by omega)) (fun _ => ?_)
      refine s_symbolAt h hr h1 ?_
      rw [h2]
      refine s_isNtN (by omega) (fun q => ?_) (fun q => ?_)
      · refine br_f (by decide) (nm_r (nI_1 a) (nm_r (nI_1 i) (ih (i + 1) (a + 1) h3 (by omega) ?_)))
        rw [if_pos q] at ha
        omega
      · refine br_t rfl (nm_r (nI_1 i) (ih (i + 1) a h3 (by omega) ?_))
        rw [if_neg (by omega)] at ha
        omega
  exact key (gg_y G r) 0 0 rfl (by omega) (by omega)
end L2A
end
section
/-! Layer 2, part b: least lengths (the class's Lengths). D A: the length known of A. -/
def gg_add : Option Nat → Option Nat → Option Nat
  | some a, some b => some (a + b)
  | _, _ => none
/-- a symbol's length -/
def gg_len (D : Nat → Option Nat) (s : Nat) : Option Nat := if s < 8 then D s else some 1
/-- the lengths of a row of symbols together, all but the one at place x -/
def gg_but (D : Nat → Option Nat) (x : Int32) : Nat → List Nat → Option Nat
  | _, [] => some 0
  | i, s :: zs => if nI i = x then gg_but D x (i + 1) zs else gg_add (gg_len D s) (gg_but D x (i + 1) zs)
def gg_sum (D : Nat → Option Nat) : List Nat → Option Nat
  | [] => some 0
  | s :: zs => gg_add (gg_len D s) (gg_sum D zs)
theorem gg_but_no {D : Nat → Option Nat} : ∀ (zs : List Nat) (i : Nat), i + zs.length < 2 ^ 31 → gg_but D (-1) i zs = gg_sum D zs
  | [], _, _ => rfl
  | s :: zs, i, h => by
    have h : i + (zs.length + 1) < 2 ^ 31 := h
    show (if nI i = -1 then gg_but D (-1) (i + 1) zs else gg_add (gg_len D s) (gg_but D (-1) (i + 1) zs)) = gg_add (gg_len D s) (gg_sum D zs)
    have hne : ¬ nI i = -1 := fun e => absurd (e ▸ (by decide : (-1 : Int32) < 0)) (nI_pos (by omega))
    rw [if_neg hne, gg_but_no zs (i + 1) (by omega)]
/-- no known length is above B -/
def gg_bd (D : Nat → Option Nat) (B : Nat) : Prop := ∀ A, A < 8 → ∀ n, D A = some n → n ≤ B
theorem gg_len_le {D : Nat → Option Nat} {B s n : Nat} (hB : gg_bd D B) (h1 : 1 ≤ B) (h : gg_len D s = some n) : n ≤ B := by
  unfold gg_len at h
  split at h
  · exact hB s (by assumption) n h
  · injection h with h
    omega
theorem gg_but_le {D : Nat → Option Nat} {B : Nat} {x : Int32} (hB : gg_bd D B) (h1 : 1 ≤ B) : ∀ (zs : List Nat) (i n : Nat), gg_but D x i zs = some n → n ≤ zs.length * B
  | [], _, n, h => by
    injection h with h
    omega
  | s :: zs, i, n, h => by
    have h : (if nI i = x then gg_but D x (i + 1) zs else gg_add (gg_len D s) (gg_but D x (i + 1) zs)) = some n := h
    show n ≤ (zs.length + 1) * B
    rw [Nat.add_mul, Nat.one_mul]
    split at h
    · have := gg_but_le hB h1 zs (i + 1) n h
      omega
    · cases ha : gg_len D s with
      | none => rw [ha] at h; cases h
      | some a =>
        cases hb : gg_but D x (i + 1) zs with
        | none => rw [ha, hb] at h; cases h
        | some b =>
          rw [ha, hb] at h
          injection h with h
          have e1 := gg_len_le hB h1 ha
          have e2 := gg_but_le hB h1 zs (i + 1) b hb
          omega
/-- the field least holds D -/
def le_at (D : Nat → Option Nat) (σ : gs_St) : Prop := ∀ A, A < 8 → σ.2.1 4 A = gg_o (D A)
def ar_at (D : Nat → Option Nat) (σ : gs_St) : Prop := ∀ A, A < 8 → σ.2.1 5 A = gg_o (D A)
def gg_up (D : Nat → Option Nat) (A : Nat) (o : Option Nat) : Nat → Option Nat := fun x => if x = A then o else D x
theorem gg_up_s {D : Nat → Option Nat} {A : Nat} {o : Option Nat} : gg_up D A o A = o := if_pos rfl
theorem gg_up_n {D : Nat → Option Nat} {A x : Nat} {o : Option Nat} (h : x ≠ A) : gg_up D A o x = D x := if_neg h
/-- D or the new length, if it is shorter -/
def gg_low (D : Nat → Option Nat) (A : Nat) (o : Option Nat) : Nat → Option Nat :=
  match o, D A with
  | none, _ => D
  | some n, none => gg_up D A (some n)
  | some n, some m => if m ≤ n then D else gg_up D A (some n)
/-- how many lengths are known -/
def gg_cnt (D : Nat → Option Nat) : Nat → Nat
  | 0 => 0
  | n + 1 => gg_cnt D n + (if (D n).isSome then 1 else 0)
theorem gg_cnt_le (D : Nat → Option Nat) : ∀ n, gg_cnt D n ≤ n
  | 0 => Nat.le_refl 0
  | n + 1 => by
    have := gg_cnt_le D n
    show gg_cnt D n + (if (D n).isSome then 1 else 0) ≤ n + 1
    split <;> omega
theorem gg_cnt_o {D : Nat → Option Nat} {A : Nat} {o : Option Nat} : ∀ n, n ≤ A → gg_cnt (gg_up D A o) n = gg_cnt D n
  | 0, _ => rfl
  | n + 1, h => by
    show gg_cnt (gg_up D A o) n + (if (gg_up D A o n).isSome then 1 else 0) = gg_cnt D n + (if (D n).isSome then 1 else 0)
    rw [gg_cnt_o n (by omega), gg_up_n (by omega)]
theorem gg_cnt_new {D : Nat → Option Nat} {A m : Nat} (h0 : D A = none) : ∀ n, A < n → gg_cnt (gg_up D A (some m)) n = gg_cnt D n + 1
  | 0, h => absurd h (Nat.not_lt_zero _)
  | n + 1, h => by
    show gg_cnt (gg_up D A (some m)) n + (if (gg_up D A (some m) n).isSome then 1 else 0) = gg_cnt D n + (if (D n).isSome then 1 else 0) + 1
    by_cases e : n = A
    · subst e
      rw [gg_cnt_o n (Nat.le_refl _), gg_up_s, h0]
      rfl
    · rw [gg_cnt_new h0 n (by omega), gg_up_n e]
      omega
theorem gg_cnt_old {D : Nat → Option Nat} {A m k : Nat} (h0 : D A = some k) : ∀ n, gg_cnt (gg_up D A (some m)) n = gg_cnt D n
  | 0 => rfl
  | n + 1 => by
    show gg_cnt (gg_up D A (some m)) n + (if (gg_up D A (some m) n).isSome then 1 else 0) = gg_cnt D n + (if (D n).isSome then 1 else 0)
    by_cases e : n = A
    · subst e
      rw [gg_cnt_old h0 n, gg_up_s, h0]
      rfl
    · rw [gg_cnt_old h0 n, gg_up_n e]
/-- lengths that are known so far are small, by the number of known ones -/
def gg_sb (b : Nat → Nat) (D : Nat → Option Nat) : Prop := gg_bd D (b (gg_cnt D 8))
theorem gg_sb_low {b : Nat → Nat} {D : Nat → Option Nat} {A : Nat} {o : Option Nat} (hb : ∀ c, b c ≤ b (c + 1)) (hA : A < 8) (h : gg_sb b D) (ho : ∀ n, o = some n → n ≤ b (gg_cnt D 8 + 1)) : gg_sb b (gg_low D A o) := by
  unfold gg_low
  cases o with
  | none => exact h
  | some n =>
    cases hd : D A with
    | none =>
      show gg_sb b (gg_up D A (some n))
      intro B hB k hk
      rw [gg_cnt_new hd 8 hA]
      by_cases e : B = A
      · subst e
        rw [gg_up_s] at hk
        injection hk with hk
        exact hk ▸ ho n rfl
      · rw [gg_up_n e] at hk
        exact Nat.le_trans (h B hB k hk) (hb _)
    | some m =>
      show gg_sb b (if m ≤ n then D else gg_up D A (some n))
      split
      · exact h
      · intro B hB k hk
        rw [gg_cnt_old hd 8]
        by_cases e : B = A
        · subst e
          rw [gg_up_s] at hk
          injection hk with hk
          have h1 := h B hB m hd
          omega
        · rw [gg_up_n e] at hk
          exact h B hB k hk
theorem gg_mono {b : Nat → Nat} (hb : ∀ c, b c ≤ b (c + 1)) : ∀ {m n : Nat}, m ≤ n → b m ≤ b n := by
  intro m n h
  induction n with
  | zero => rw [show m = 0 by omega]; exact Nat.le_refl _
  | succ n ih =>
    by_cases e : m = n + 1
    · rw [e]; exact Nat.le_refl _
    · exact Nat.le_trans (ih (by omega)) (hb n)
theorem gg_sb_bd {b : Nat → Nat} {D : Nat → Option Nat} (hb : ∀ c, b c ≤ b (c + 1)) (h : gg_sb b D) : gg_bd D (b 8) := fun A hA n hn =>
  Nat.le_trans (h A hA n hn) (gg_mono hb (gg_cnt_le D 8))
section L2B
variable {G : gg_R} {σ : gs_St} {D : Nat → Option Nat}
theorem s_fill7 {x : Int32} {K : gs_St → Prop} (k : ∀ τ : gs_St, τ = gs_A σ 4 (fun j => if j < 8 then x else σ.2.1 4 j) → K τ) : C_Ar_fill_7 x σ K := by
  intro X5 h5
  have key : ∀ (n i : Nat) (f : Nat → Int32), i + n = 8 → (∀ j, f j = if j < i then x else σ.2.1 4 j) → X5 x (nI i) 8 (gs_A σ 4 f) := by
    intro n
    induction n with
    | zero =>
      intro i f hi hf
      have hi : i = 8 := hi
      subst hi
      apply h5
      exact br_t (by decide) (k _ (by rw [show f = (fun j => if j < 8 then x else σ.2.1 4 j) from funext hf]))
    | succ n ih =>
      intro i f hi hf
      apply h5
      refine pk_le 8 i (fun q => absurd q (by omega)) (fun _ => ⟨vp_in_nI (by omega) (by decide), ?_⟩)
      rw [nI_clamp (by omega)]
      intro τ hτ
      have e : τ = gs_A σ 4 (upd f i x) := by
        rw [hτ, gs_AA]
        rfl
      rw [e]
      refine nm_r (nI_1 i) ?_
      exact ih (i + 1) (upd f i x) (by omega) (fun j => by
        show (if j = i then x else f j) = _
        rw [hf j]
        split <;> split <;> (try split) <;> first | rfl | omega)
  have := key 8 0 (σ.2.1 4) rfl (fun j => by rw [if_neg (Nat.not_lt_zero _)])
  rw [gs_Aid] at this
  exact this
theorem s_fill8 {x : Int32} {K : gs_St → Prop} (k : ∀ τ : gs_St, τ = gs_A σ 5 (fun j => if j < 8 then x else σ.2.1 5 j) → K τ) : C_Ar_fill_8 x σ K := by
  intro X5 h5
  have key : ∀ (n i : Nat) (f : Nat → Int32), i + n = 8 → (∀ j, f j = if j < i then x else σ.2.1 5 j) → X5 x (nI i) 8 (gs_A σ 5 f) := by
    intro n
    induction n with
    | zero =>
      intro i f hi hf
      have hi : i = 8 := hi
      subst hi
      apply h5
      exact br_t (by decide) (k _ (by rw [show f = (fun j => if j < 8 then x else σ.2.1 5 j) from funext hf]))
    | succ n ih =>
      intro i f hi hf
      apply h5
      refine pk_le 8 i (fun q => absurd q (by omega)) (fun _ => ⟨vp_in_nI (by omega) (by decide), ?_⟩)
      rw [nI_clamp (by omega)]
      intro τ hτ
      have e : τ = gs_A σ 5 (upd f i x) := by
        rw [hτ, gs_AA]
        rfl
      rw [e]
      refine nm_r (nI_1 i) ?_
      exact ih (i + 1) (upd f i x) (by omega) (fun j => by
        show (if j = i then x else f j) = _
        rw [hf j]
        split <;> split <;> (try split) <;> first | rfl | omega)
  have := key 8 0 (σ.2.1 5) rfl (fun j => by rw [if_neg (Nat.not_lt_zero _)])
  rw [gs_Aid] at this
  exact this
theorem s_leastBut {r B : Nat} {x : Int32} {K : Int32 → gs_St → Prop} (h : gr_at G σ) (hr : r < G.length) (hD : le_at D σ) (hB : gg_bd D B) (hB1 : 1 ≤ B) (hB2 : B ≤ 100000000) (k : K (gg_o (gg_but D x 0 (gg_y G r))) σ) : C_Le_leastBut (nI r) x σ K := by
  intro X5 h5
  have hG := h.1.1
  have hz := (h.1.2 r hr).2.1
  have key : ∀ (zs : List Nat) (i a : Nat), (gg_y G r).drop i = zs → i + zs.length = (gg_y G r).length → gg_add (some a) (gg_but D x i zs) = gg_but D x 0 (gg_y G r) → a ≤ i * B → X5 (nI r) x (nI a) (nI i) σ := by
    intro zs
    induction zs with
    | nil =>
      intro i a hd hi ha hb
      have hi : i = (gg_y G r).length := hi
      have ha : some (a + 0) = gg_but D x 0 (gg_y G r) := ha
      apply h5
      refine s_sizeOf h hr ?_
      refine pk_le (gg_y G r).length i (fun _ => ?_) (fun q => absurd q (by omega))
      rw [← ha] at k
      exact k
    | cons s zs ih =>
      intro i a hd hi ha hb
      obtain ⟨h1, h2, h3⟩ := gg_cons hd
      have hi : i + (zs.length + 1) = (gg_y G r).length := hi
      have h24 := (h.1.2 r hr).2.2 i h1
      rw [h2] at h24
      have ha : gg_add (some a) (if nI i = x then gg_but D x (i + 1) zs else gg_add (gg_len D s) (gg_but D x (i + 1) zs)) = gg_but D x 0 (gg_y G r) := ha
      have hib : i * B ≤ 6 * B := Nat.mul_le_mul_right _ (by omega)
      have hi1 : (i + 1) * B = i * B + B := by rw [Nat.add_mul, Nat.one_mul]
      apply h5
      refine s_sizeOf h hr ?_
      refine pk_le (gg_y G r).length i (fun q => absurd q (by omega)) (fun _ => ?_)
      refine ⟨fun hne => ?_, fun he => ?_⟩
      · rw [if_neg hne] at ha
        refine s_symbolAt h hr h1 ?_
        rw [h2]
        refine s_isNtN (by omega) (fun q => ?_) (fun q => ?_)
        · refine br_f (by decide) ⟨vp_in_nI (by omega) (by decide), ?_⟩
          rw [nI_clamp (by omega), hD s q]
          have hl : gg_len D s = D s := if_pos q
          rw [hl] at ha
          cases hs : D s with
          | none =>
            rw [hs] at ha
            refine nm_e (br_f (fun z => z rfl) ?_)
            have ha : none = gg_but D x 0 (gg_y G r) := ha
            rw [← ha] at k
            exact k
          | some m =>
            have hm := hB s q m hs
            rw [hs] at ha
            refine nm_e (br_t (fun e => absurd ((gg_o_none (o := some m) (fun n e2 => by injection e2 with e2; omega)).mp e) (by intro z; cases z)) ?_)
            refine nm_r (nI_add a m) (nm_r (nI_1 i) (ih (i + 1) (a + m) h3 (by omega) ?_ (by omega)))
            rw [← ha]
            cases gg_but D x (i + 1) zs with
            | none => rfl
            | some b => exact congrArg some (Nat.add_assoc a m b)
        · refine br_t rfl (br_t (by decide) ?_)
          have hl : gg_len D s = some 1 := if_neg (by omega)
          rw [hl] at ha
          refine nm_r (nI_1 a) (nm_r (nI_1 i) (ih (i + 1) (a + 1) h3 (by omega) ?_ (by omega)))
          rw [← ha]
          cases gg_but D x (i + 1) zs with
          | none => rfl
          | some b => exact congrArg some (Nat.add_assoc a 1 b)
      · have he : nI i = x := Classical.byContradiction he
        rw [if_pos he] at ha
        exact nm_r (nI_1 i) (ih (i + 1) a h3 (by omega) ha (by omega))
  refine key (gg_y G r) 0 0 rfl (by omega) ?_ (by omega)
  cases gg_but D x 0 (gg_y G r) with
  | none => rfl
  | some b => exact congrArg some (Nat.zero_add b)
theorem s_lower7 {A : Nat} {o : Option Nat} {K : gs_St → Prop} (hA : A < 8) (hD : le_at D σ) (hs : ∀ n, D A = some n → n < 2 ^ 31) (ho : ∀ n, o = some n → n < 2 ^ 31) (k : ∀ f : Nat → Int32, (∀ B, B < 8 → f B = gg_o (gg_low D A o B)) → K (gs_A σ 4 f)) : C_Le_lower_7 (nI A) (gg_o o) σ K := by
  have same : gs_A σ 4 (σ.2.1 4) = σ := by
    refine Prod.ext rfl (Prod.ext (funext fun j => ?_) rfl)
    show (if j = 4 then σ.2.1 4 else σ.2.1 j) = σ.2.1 j
    split
    · subst j; rfl
    · rfl
  have stay : (∀ B, B < 8 → gg_low D A o B = D B) → K σ := fun e => by
    have := k (σ.2.1 4) (fun B hB => by rw [e B hB]; exact hD B hB)
    rw [same] at this
    exact this
  have set : ∀ n, o = some n → (∀ B, gg_low D A o B = gg_up D A (some n) B) → ∀ τ : gs_St, τ = gs_A σ 4 (upd (σ.2.1 4) A (gg_o o)) → K τ := fun n hn e => nm_e (k _ (fun B hB => by
    rw [e B]
    show (if B = A then gg_o o else σ.2.1 4 B) = gg_o (if B = A then some n else D B)
    split
    · rw [hn]
    · exact hD B hB))
  have hv : vp_in (nI A) 8 := vp_in_nI hA (by decide)
  refine ⟨hv, ?_⟩
  rw [nI_clamp (by omega), hD A hA]
  refine nm_e ?_
  cases ho' : o with
  | none =>
    subst ho'
    exact br_t rfl (stay (fun B _ => rfl))
  | some n =>
    subst ho'
    have hn := ho n rfl
    refine br_f (fun e => absurd ((gg_o_none (o := some n) (fun z e2 => by injection e2 with e2; omega)).mp e) (by intro z; cases z)) ?_
    cases hd : D A with
    | none =>
      refine br_t rfl ⟨hv, set n rfl (fun B => ?_)⟩
      unfold gg_low
      rw [hd]
    | some m =>
      have hm := hs m hd
      refine br_f (fun e => absurd ((gg_o_none (o := some m) (fun z e2 => by injection e2 with e2; omega)).mp e) (by intro z; cases z)) ?_
      refine pk_le m n (fun q => stay (fun B _ => ?_)) (fun q => ⟨hv, set n rfl (fun B => ?_)⟩)
      · unfold gg_low
        rw [hd]
        show (if m ≤ n then D else gg_up D A (some n)) B = D B
        rw [if_pos q]
      · unfold gg_low
        rw [hd]
        show (if m ≤ n then D else gg_up D A (some n)) B = gg_up D A (some n) B
        rw [if_neg (by omega)]
theorem s_lower8 {A : Nat} {o : Option Nat} {K : gs_St → Prop} (hA : A < 8) (hD : ar_at D σ) (hs : ∀ n, D A = some n → n < 2 ^ 31) (ho : ∀ n, o = some n → n < 2 ^ 31) (k : ∀ f : Nat → Int32, (∀ B, B < 8 → f B = gg_o (gg_low D A o B)) → K (gs_A σ 5 f)) : C_Le_lower_8 (nI A) (gg_o o) σ K := by
  have same : gs_A σ 5 (σ.2.1 5) = σ := by
    refine Prod.ext rfl (Prod.ext (funext fun j => ?_) rfl)
    show (if j = 5 then σ.2.1 5 else σ.2.1 j) = σ.2.1 j
    split
    · subst j; rfl
    · rfl
  have stay : (∀ B, B < 8 → gg_low D A o B = D B) → K σ := fun e => by
    have := k (σ.2.1 5) (fun B hB => by rw [e B hB]; exact hD B hB)
    rw [same] at this
    exact this
  have set : ∀ n, o = some n → (∀ B, gg_low D A o B = gg_up D A (some n) B) → ∀ τ : gs_St, τ = gs_A σ 5 (upd (σ.2.1 5) A (gg_o o)) → K τ := fun n hn e => nm_e (k _ (fun B hB => by
    rw [e B]
    show (if B = A then gg_o o else σ.2.1 5 B) = gg_o (if B = A then some n else D B)
    split
    · rw [hn]
    · exact hD B hB))
  have hv : vp_in (nI A) 8 := vp_in_nI hA (by decide)
  refine ⟨hv, ?_⟩
  rw [nI_clamp (by omega), hD A hA]
  refine nm_e ?_
  cases ho' : o with
  | none =>
    subst ho'
    exact br_t rfl (stay (fun B _ => rfl))
  | some n =>
    subst ho'
    have hn := ho n rfl
    refine br_f (fun e => absurd ((gg_o_none (o := some n) (fun z e2 => by injection e2 with e2; omega)).mp e) (by intro z; cases z)) ?_
    cases hd : D A with
    | none =>
      refine br_t rfl ⟨hv, set n rfl (fun B => ?_)⟩
      unfold gg_low
      rw [hd]
    | some m =>
      have hm := hs m hd
      refine br_f (fun e => absurd ((gg_o_none (o := some m) (fun z e2 => by injection e2 with e2; omega)).mp e) (by intro z; cases z)) ?_
      refine pk_le m n (fun q => stay (fun B _ => ?_)) (fun q => ⟨hv, set n rfl (fun B => ?_)⟩)
      · unfold gg_low
        rw [hd]
        show (if m ≤ n then D else gg_up D A (some n)) B = D B
        rw [if_pos q]
      · unfold gg_low
        rw [hd]
        show (if m ≤ n then D else gg_up D A (some n)) B = gg_up D A (some n) B
        rw [if_neg (by omega)]
end L2B
end
section
/-! Layer 2, part c: eight rounds find the least lengths. -/
/-- D' knows at least as much as D, and no longer lengths -/
def gg_le (D' D : Nat → Option Nat) : Prop := ∀ A n, D A = some n → ∃ m, m ≤ n ∧ D' A = some m
theorem gg_le.rfl' {D : Nat → Option Nat} : gg_le D D := fun _ n h => ⟨n, Nat.le_refl _, h⟩
theorem gg_le.tr {D D' D'' : Nat → Option Nat} (h : gg_le D'' D') (h' : gg_le D' D) : gg_le D'' D := fun A n e => by
  obtain ⟨m, h1, h2⟩ := h' A n e
  obtain ⟨m', h3, h4⟩ := h A m h2
  exact ⟨m', by omega, h4⟩
theorem gg_low_le {D : Nat → Option Nat} {A : Nat} {o : Option Nat} : gg_le (gg_low D A o) D := by
  unfold gg_low
  cases o with
  | none => exact gg_le.rfl'
  | some n =>
    cases hd : D A with
    | none =>
      show gg_le (gg_up D A (some n)) D
      intro B k hk
      by_cases e : B = A
      · subst e
        rw [hd] at hk
        cases hk
      · exact ⟨k, Nat.le_refl _, by rw [gg_up_n e]; exact hk⟩
    | some m =>
      show gg_le (if m ≤ n then D else gg_up D A (some n)) D
      split
      · exact gg_le.rfl'
      · intro B k hk
        by_cases e : B = A
        · subst e
          rw [hd] at hk
          injection hk with hk
          exact ⟨n, by omega, gg_up_s⟩
        · exact ⟨k, Nat.le_refl _, by rw [gg_up_n e]; exact hk⟩
theorem gg_low_hit {D : Nat → Option Nat} {A n : Nat} : ∃ m, m ≤ n ∧ gg_low D A (some n) A = some m := by
  unfold gg_low
  cases hd : D A with
  | none => exact ⟨n, Nat.le_refl _, gg_up_s⟩
  | some m =>
    show ∃ m', m' ≤ n ∧ (if m ≤ n then D else gg_up D A (some n)) A = some m'
    split
    · exact ⟨m, by assumption, hd⟩
    · exact ⟨n, Nat.le_refl _, gg_up_s⟩
theorem gg_low_snd {D : Nat → Option Nat} {A : Nat} {o : Option Nat} {P : Nat → Nat → Prop} (h : ∀ B m, D B = some m → P B m) (ho : ∀ n, o = some n → P A n) : ∀ B m, gg_low D A o B = some m → P B m := by
  unfold gg_low
  cases o with
  | none => exact h
  | some n =>
    have up : ∀ B m, gg_up D A (some n) B = some m → P B m := by
      intro B k hk
      by_cases e : B = A
      · subst e
        rw [gg_up_s] at hk
        injection hk with hk
        exact hk ▸ ho n rfl
      · rw [gg_up_n e] at hk
        exact h B k hk
    cases hd : D A with
    | none => exact up
    | some m =>
      show ∀ B k, (if m ≤ n then D else gg_up D A (some n)) B = some k → P B k
      split
      · exact h
      · exact up
theorem gg_add_some {a b : Option Nat} {n : Nat} (h : gg_add a b = some n) : ∃ x y, a = some x ∧ b = some y ∧ n = x + y := by
  cases a with
  | none => cases h
  | some x =>
    cases b with
    | none => cases h
    | some y =>
      injection h with h
      exact ⟨x, y, rfl, rfl, h.symm⟩
theorem gg_sum_S {D : Nat → Option Nat} {P : Nat → Nat → Prop} (hP : ∀ s m, s < 8 → D s = some m → P s m) : ∀ (ys : List Nat) (n : Nat), gg_sum D ys = some n → gm_S P ys n
  | [], n, h => by
    injection h with h
    exact h.symm
  | s :: ys, n, h => by
    obtain ⟨a, b, h1, h2, h3⟩ := gg_add_some (show gg_add (gg_len D s) (gg_sum D ys) = some n from h)
    refine ⟨a, b, h3, fun hs => ?_, fun hs => ?_, gg_sum_S hP ys b h2⟩
    · unfold gg_len at h1
      rw [if_pos hs] at h1
      exact hP s a hs h1
    · unfold gg_len at h1
      rw [if_neg (by omega)] at h1
      injection h1 with h1
      exact h1.symm
theorem gg_sum_le {D : Nat → Option Nat} {P : Nat → Nat → Prop} (hP : ∀ s m, s < 8 → P s m → ∃ n, n ≤ m ∧ D s = some n) : ∀ (ys : List Nat) (m : Nat), gm_S P ys m → ∃ n, n ≤ m ∧ gg_sum D ys = some n
  | [], m, h => ⟨0, Nat.zero_le _, rfl⟩
  | s :: ys, m, h => by
    obtain ⟨a, b, e, h1, h2, h3⟩ := h
    obtain ⟨n, g1, g2⟩ := gg_sum_le hP ys b h3
    by_cases hs : s < 8
    · obtain ⟨c, q1, q2⟩ := hP s a hs (h1 hs)
      refine ⟨c + n, by omega, ?_⟩
      show gg_add (gg_len D s) (gg_sum D ys) = some (c + n)
      have hl : gg_len D s = D s := if_pos hs
      rw [hl, q2, g2]
      rfl
    · have ha := h2 (by omega)
      refine ⟨1 + n, by omega, ?_⟩
      show gg_add (gg_len D s) (gg_sum D ys) = some (1 + n)
      have hl : gg_len D s = some 1 := if_neg hs
      rw [hl, g2]
      rfl
theorem gm_S_some {R : gg_R} : ∀ (xs : List Nat) (m : Nat), gm_S (fun x a => ∃ k, gm_D R k x a) xs m → ∃ k, gm_S (gm_D R k) xs m
  | [], m, h => ⟨0, h⟩
  | x :: xs, m, h => by
    obtain ⟨a, b, e, h1, h2, h3⟩ := h
    obtain ⟨k, hk⟩ := gm_S_some xs b h3
    by_cases hx : x < 8
    · obtain ⟨k2, hk2⟩ := h1 hx
      exact ⟨k + k2, a, b, e, fun _ => gm_D_le hk2 (by omega), h2, gm_S_mono (fun y c _ hd => gm_D_le hd (by omega)) _ _ hk⟩
    · exact ⟨k, a, b, e, fun z => absurd z hx, h2, hk⟩
/-- what D says is so; what is within height k, D knows; what rules below r give out of height k, D knows -/
def gm_snd (R : gg_R) (D : Nat → Option Nat) : Prop := ∀ A m, D A = some m → ∃ k, gm_D R k A m
def gm_cpl (R : gg_R) (k : Nat) (D : Nat → Option Nat) : Prop := ∀ A m, gm_D R k A m → ∃ n, n ≤ m ∧ D A = some n
def gm_dn (R : gg_R) (k r : Nat) (D : Nat → Option Nat) : Prop := ∀ q, q < r → ∀ m, gm_S (gm_D R k) (gg_y R q) m → ∃ n, n ≤ m ∧ D (gg_l R q) = some n
theorem gm_cpl.mono {R : gg_R} {k : Nat} {D D' : Nat → Option Nat} (hl : gg_le D' D) (h : gm_cpl R k D) : gm_cpl R k D' := fun A m hd => by
  obtain ⟨n, h1, h2⟩ := h A m hd
  obtain ⟨n', h3, h4⟩ := hl A n h2
  exact ⟨n', by omega, h4⟩
theorem gm_dn.mono {R : gg_R} {k r : Nat} {D D' : Nat → Option Nat} (hl : gg_le D' D) (h : gm_dn R k r D) : gm_dn R k r D' := fun q hq m hd => by
  obtain ⟨n, h1, h2⟩ := h q hq m hd
  obtain ⟨n', h3, h4⟩ := hl _ n h2
  exact ⟨n', by omega, h4⟩
theorem gm_dn.next {R : gg_R} {k : Nat} {D : Nat → Option Nat} (h : gm_dn R k R.length D) : gm_cpl R (k + 1) D := fun A m hd => by
  obtain ⟨q, h1, h2, h3⟩ := hd
  obtain ⟨r, hr, e1, e2⟩ := gg_idx h1
  rw [← e2] at h3
  obtain ⟨n, g1, g2⟩ := h r hr m h3
  rw [e1, h2] at g2
  exact ⟨n, g1, g2⟩
/-- one rule -/
theorem gm_step {R : gg_R} {k r : Nat} {D : Nat → Option Nat} (hr : r < R.length) (hs : gm_snd R D) (hc : gm_cpl R k D) (hd : gm_dn R k r D) :
    gm_snd R (gg_low D (gg_l R r) (gg_sum D (gg_y R r))) ∧ gm_cpl R k (gg_low D (gg_l R r) (gg_sum D (gg_y R r))) ∧ gm_dn R k (r + 1) (gg_low D (gg_l R r) (gg_sum D (gg_y R r))) := by
  refine ⟨gg_low_snd hs (fun n hn => ?_), hc.mono gg_low_le, fun q hq m hm => ?_⟩
  · obtain ⟨j, hj⟩ := gm_S_some _ _ (gg_sum_S (P := fun x a => ∃ k, gm_D R k x a) (fun s m _ h => hs s m h) _ _ hn)
    exact ⟨j + 1, _, gg_mem hr, rfl, hj⟩
  · by_cases e : q = r
    · subst e
      obtain ⟨n, h1, h2⟩ := gg_sum_le (fun s m _ h => hc s m h) _ _ hm
      rw [h2]
      obtain ⟨n', h3, h4⟩ := gg_low_hit (D := D) (A := gg_l R q) (n := n)
      exact ⟨n', by omega, h4⟩
    · exact (hd.mono gg_low_le) q (by omega) m hm
/-- D is the least lengths of the grammar's nonterminals -/
def gm_L (R : gg_R) (D : Nat → Option Nat) : Prop := ∀ A, A < 8 → ∀ m, D A = some m ↔ gm_V R A m
theorem gm_L_of {R : gg_R} {D : Nat → Option Nat} (hs : gm_snd R D) (hc : gm_cpl R 8 D) : gm_L R D := by
  intro A hA m
  constructor
  · intro h
    have hk := hs A m h
    refine ⟨hk, fun k n hn => ?_⟩
    obtain ⟨m', h1, h2⟩ := gm_V_ex hn
    obtain ⟨m'', h3, h4⟩ := hc A m' (gm_eight hA h1)
    rw [h] at h4
    injection h4 with h4
    omega
  · intro h
    obtain ⟨n, h1, h2⟩ := hc A m (gm_eight hA h)
    obtain ⟨k, hk⟩ := hs A n h2
    have := h.2 k n hk
    rw [h2]
    congr 1
    omega
theorem gm_L_eq {R : gg_R} {D D' : Nat → Option Nat} (h : gm_L R D) (h' : gm_L R D') : ∀ A, A < 8 → D A = D' A := by
  intro A hA
  cases hd : D A with
  | some m => exact ((h' A hA m).mpr ((h A hA m).mp hd)).symm
  | none =>
    cases hd' : D' A with
    | none => rfl
    | some m =>
      have := (h A hA m).mpr ((h' A hA m).mp hd')
      rw [hd] at this
      cases this
theorem gg_but_congr {D D' : Nat → Option Nat} {x : Int32} (h : ∀ A, A < 8 → D A = D' A) : ∀ (zs : List Nat) (i : Nat), gg_but D x i zs = gg_but D' x i zs
  | [], _ => rfl
  | s :: zs, i => by
    show (if nI i = x then gg_but D x (i + 1) zs else gg_add (gg_len D s) (gg_but D x (i + 1) zs)) = (if nI i = x then gg_but D' x (i + 1) zs else gg_add (gg_len D' s) (gg_but D' x (i + 1) zs))
    have hl : gg_len D s = gg_len D' s := by
      unfold gg_len
      split
      · exact h s (by assumption)
      · rfl
    rw [gg_but_congr h zs (i + 1), hl]
/-- around a nonterminal: as lengths of a grammar of its own -/
def gm_A (G : gg_R) (D : Nat → Option Nat) : gg_R := (0, []) :: (List.range G.length).flatMap (fun r => (List.range (gg_y G r).length).filterMap (fun i => if (gg_y G r).getD i 0 < 8 then (gg_but D (nI i) 0 (gg_y G r)).map (fun w => ((gg_y G r).getD i 0, gg_l G r :: List.replicate w 8)) else none))
theorem gm_A_mem {G : gg_R} {D : Nat → Option Nat} {q : Nat × List Nat} : q ∈ gm_A G D ↔ q = (0, []) ∨ ∃ r i w, r < G.length ∧ i < (gg_y G r).length ∧ (gg_y G r).getD i 0 < 8 ∧ gg_but D (nI i) 0 (gg_y G r) = some w ∧ q = ((gg_y G r).getD i 0, gg_l G r :: List.replicate w 8) := by
  unfold gm_A
  rw [List.mem_cons, List.mem_flatMap]
  refine or_congr Iff.rfl ?_
  constructor
  · rintro ⟨r, hr, h⟩
    rw [List.mem_filterMap] at h
    obtain ⟨i, hi, h⟩ := h
    split at h
    · rename_i hs
      cases hb : gg_but D (nI i) 0 (gg_y G r) with
      | none => rw [hb] at h; cases h
      | some w =>
        rw [hb] at h
        injection h with h
        exact ⟨r, i, w, List.mem_range.mp hr, List.mem_range.mp hi, hs, hb, h.symm⟩
    · cases h
  · rintro ⟨r, i, w, hr, hi, hs, hb, rfl⟩
    refine ⟨r, List.mem_range.mpr hr, List.mem_filterMap.mpr ⟨i, List.mem_range.mpr hi, ?_⟩⟩
    rw [if_pos hs, hb]
    rfl
theorem gm_S_rep {P : Nat → Nat → Prop} : ∀ (w m : Nat), gm_S P (List.replicate w 8) m ↔ m = w
  | 0, m => Iff.rfl
  | w + 1, m => by
    show (∃ a b, m = a + b ∧ (8 < 8 → P 8 a) ∧ (8 ≤ 8 → a = 1) ∧ gm_S P (List.replicate w 8) b) ↔ m = w + 1
    constructor
    · rintro ⟨a, b, h1, -, h2, h3⟩
      have := h2 (Nat.le_refl _)
      have := (gm_S_rep w b).mp h3
      omega
    · intro h
      exact ⟨1, w, by omega, fun z => absurd z (by omega), fun _ => rfl, (gm_S_rep w w).mpr rfl⟩
theorem gm_S_arw {P : Nat → Nat → Prop} {A w m : Nat} (hA : A < 8) : gm_S P (A :: List.replicate w 8) m ↔ ∃ a, P A a ∧ m = a + w := by
  show (∃ a b, m = a + b ∧ (A < 8 → P A a) ∧ (8 ≤ A → a = 1) ∧ gm_S P (List.replicate w 8) b) ↔ _
  constructor
  · rintro ⟨a, b, h1, h2, -, h3⟩
    have := (gm_S_rep w b).mp h3
    exact ⟨a, h2 hA, by omega⟩
  · rintro ⟨a, h1, h2⟩
    exact ⟨a, w, h2, fun _ => h1, fun z => absurd z (by omega), (gm_S_rep w w).mpr rfl⟩
/-- what a rule's own places give -/
def gm_aP (G : gg_R) (D : Nat → Option Nat) (r i a x m : Nat) : Prop := ∃ w, gg_but D (nI i) 0 (gg_y G r) = some w ∧ (gg_y G r).getD i 0 < 8 ∧ (gg_y G r).getD i 0 = x ∧ m = a + w
/-- O knows what rules below r give round about, out of height k -/
def gm_an (G : gg_R) (D : Nat → Option Nat) (k r : Nat) (O : Nat → Option Nat) : Prop := ∀ q, q < r → ∀ i, i < (gg_y G q).length → ∀ a, gm_D (gm_A G D) k (gg_l G q) a → ∀ w, gg_but D (nI i) 0 (gg_y G q) = some w → (gg_y G q).getD i 0 < 8 → ∃ n, n ≤ a + w ∧ O ((gg_y G q).getD i 0) = some n
theorem gm_an.mono {G : gg_R} {D O O' : Nat → Option Nat} {k r : Nat} (hl : gg_le O' O) (h : gm_an G D k r O) : gm_an G D k r O' := fun q hq i hi a ha w hw hx => by
  obtain ⟨n, h1, h2⟩ := h q hq i hi a ha w hw hx
  obtain ⟨n', h3, h4⟩ := hl _ n h2
  exact ⟨n', by omega, h4⟩
theorem gm_an.next {G : gg_R} {D O : Nat → Option Nat} {k : Nat} (hG : gg_ok G) (h0 : ∃ n, n ≤ 0 ∧ O 0 = some n) (h : gm_an G D k G.length O) : gm_cpl (gm_A G D) (k + 1) O := fun A m hd => by
  obtain ⟨q, h1, h2, h3⟩ := hd
  rcases gm_A_mem.mp h1 with e | ⟨r, i, w, hr, hi, hx, hw, e⟩
  · rw [e] at h2 h3
    have h3 : m = 0 := h3
    have h2 : (0 : Nat) = A := h2
    rw [h3, ← h2]
    exact h0
  · rw [e] at h2 h3
    obtain ⟨a, g1, g2⟩ := (gm_S_arw (hG.2 r hr).1).mp h3
    obtain ⟨n, g3, g4⟩ := h r hr i hi a g1 w hw hx
    have h2 : (gg_y G r).getD i 0 = A := h2
    rw [h2] at g4
    exact ⟨n, by omega, g4⟩
theorem gm_A_snd {G : gg_R} {D O : Nat → Option Nat} {r i a w : Nat} (hG : gg_ok G) (hr : r < G.length) (hi : i < (gg_y G r).length) (hx : (gg_y G r).getD i 0 < 8) (hw : gg_but D (nI i) 0 (gg_y G r) = some w) (ha : ∃ k, gm_D (gm_A G D) k (gg_l G r) a) : ∃ k, gm_D (gm_A G D) k ((gg_y G r).getD i 0) (a + w) := by
  obtain ⟨k, hk⟩ := ha
  exact ⟨k + 1, _, gm_A_mem.mpr (Or.inr ⟨r, i, w, hr, hi, hx, hw, rfl⟩), rfl, (gm_S_arw (hG.2 r hr).1).mpr ⟨a, hk, rfl⟩⟩
end
section
/-! Layer 2, part d: the class's Lengths.find -/
theorem gg_cnt_mono {O O' : Nat → Option Nat} (h : gg_le O' O) : ∀ n, gg_cnt O n ≤ gg_cnt O' n
  | 0 => Nat.le_refl 0
  | n + 1 => by
    have ih := gg_cnt_mono h n
    show gg_cnt O n + (if (O n).isSome then 1 else 0) ≤ gg_cnt O' n + (if (O' n).isSome then 1 else 0)
    cases hn : O n with
    | none =>
      show gg_cnt O n + 0 ≤ _
      omega
    | some m =>
      obtain ⟨m', -, e⟩ := h n m hn
      rw [e]
      show gg_cnt O n + 1 ≤ gg_cnt O' n + 1
      omega
def gg_b1 (c : Nat) : Nat := 6 ^ c
def gg_b2 (c : Nat) : Nat := c * 10077696
theorem gg_b1_up (c : Nat) : gg_b1 c ≤ gg_b1 (c + 1) := by
  unfold gg_b1
  rw [Nat.pow_succ]
  omega
theorem gg_b2_up (c : Nat) : gg_b2 c ≤ gg_b2 (c + 1) := by
  unfold gg_b2
  omega
theorem gg_b1_pos (c : Nat) : 1 ≤ gg_b1 c := by
  induction c with
  | zero => exact Nat.le_refl 1
  | succ c ih => exact Nat.le_trans ih (gg_b1_up c)
section L2D
variable {G : gg_R} {σ : gs_St} {D O : Nat → Option Nat}
theorem gg_o_ne {n : Nat} (h : n < 2 ^ 31) : ¬ gg_o (some n) = -1 := fun e => absurd ((gg_o_none (o := some n) (fun m e2 => by injection e2 with e2; omega)).mp e) (by intro z; cases z)
theorem s_lowerAround {r : Nat} {K : gs_St → Prop} (h : gr_at G σ) (hr : r < G.length) (hD : le_at D σ) (hbd : gg_bd D 1679616) (hO : ar_at O σ) (hsb : gg_sb gg_b2 O) (hsn : gm_snd (gm_A G D) O)
    (kk : ∀ (O' : Nat → Option Nat) (g : Nat → Int32), (∀ A, A < 8 → g A = gg_o (O' A)) → gg_sb gg_b2 O' → gg_le O' O → gm_snd (gm_A G D) O' → (∀ i, i < (gg_y G r).length → ∀ a w, O (gg_l G r) = some a → gg_but D (nI i) 0 (gg_y G r) = some w → (gg_y G r).getD i 0 < 8 → ∃ n, n ≤ a + w ∧ O' ((gg_y G r).getD i 0) = some n) → K (gs_A σ 5 g)) : C_Le_lowerAround (nI r) σ K := by
  intro X22 h22
  have hG := h.1.1
  obtain ⟨hl8, hz, h24⟩ := h.1.2 r hr
  have h5 : ∀ g, gr_at G (gs_A σ 5 g) := fun g => h.of rfl rfl rfl rfl
  refine s_leftOf h hr ⟨vp_in_nI hl8 (by decide), ?_⟩
  rw [nI_clamp (by omega), hO _ hl8]
  cases hout : O (gg_l G r) with
  | none =>
    refine nm_e (br_f (fun z => z rfl) ?_)
    have := kk O (σ.2.1 5) hO hsb gg_le.rfl' hsn (fun i _ a w e => by rw [hout] at e; cases e)
    rw [gs_Aid] at this
    exact this
  | some a =>
    have hacnt : a ≤ gg_b2 (gg_cnt O 8) := hsb _ hl8 a hout
    have hcO := gg_cnt_le O 8
    have ha31 : a < 2 ^ 31 := by
      unfold gg_b2 at hacnt
      omega
    refine nm_e (br_t (gg_o_ne ha31) ?_)
    have key : ∀ (zs : List Nat) (i : Nat) (O' : Nat → Option Nat) (g : Nat → Int32), (gg_y G r).drop i = zs → i + zs.length = (gg_y G r).length → (∀ A, A < 8 → g A = gg_o (O' A)) → gg_sb gg_b2 O' → gg_le O' O → gm_snd (gm_A G D) O' → (∀ j, j < i → ∀ w, gg_but D (nI j) 0 (gg_y G r) = some w → (gg_y G r).getD j 0 < 8 → ∃ n, n ≤ a + w ∧ O' ((gg_y G r).getD j 0) = some n) → X22 (nI r) (nI a) (nI i) (gs_A σ 5 g) := by
      intro zs
      induction zs with
      | nil =>
        intro i O' g hd hi hg hs hle hsnd hall
        have hi : i = (gg_y G r).length := hi
        apply h22
        refine s_sizeOf (h5 g) hr ?_
        refine pk_le (gg_y G r).length i (fun _ => ?_) (fun q => absurd q (by omega))
        exact kk O' g hg hs hle hsnd (fun j hj a' w e hw hx => by
          rw [hout] at e
          injection e with e
          subst e
          exact hall j (by omega) w hw hx)
      | cons s zs ih =>
        intro i O' g hd hi hg hs hle hsnd hall
        obtain ⟨h1, h2, h3⟩ := gg_cons hd
        have hi : i + (zs.length + 1) = (gg_y G r).length := hi
        have hs24 := h24 i h1
        rw [h2] at hs24
        apply h22
        refine s_sizeOf (h5 g) hr ?_
        refine pk_le (gg_y G r).length i (fun q => absurd q (by omega)) (fun _ => ?_)
        refine s_symbolAt (h5 g) hr h1 ?_
        rw [h2]
        refine s_leastBut (D := D) (B := 1679616) (h5 g) hr hD hbd (by decide) (by decide) ?_
        refine s_isNtN (by omega) (fun q => ?_) (fun q => ?_)
        · refine br_f (by decide) ?_
          cases hw : gg_but D (nI i) 0 (gg_y G r) with
          | none =>
            refine br_t rfl (nm_r (nI_1 i) (ih (i + 1) O' g h3 (by omega) hg hs hle hsnd (fun j hj w' hw' hx => ?_)))
            by_cases e : j = i
            · subst e
              rw [hw] at hw'
              cases hw'
            · exact hall j (by omega) w' hw' hx
          | some w =>
            have hwle := gg_but_le hbd (by decide) (gg_y G r) 0 w hw
            have hw6 : w ≤ 10077696 := Nat.le_trans hwle (Nat.le_trans (Nat.mul_le_mul_right _ hz) (by decide))
            refine br_f (gg_o_ne (by omega)) ?_
            have e : nI a + gg_o (some w) = gg_o (some (a + w)) := nI_add a w
            rw [e]
            have hc := gg_cnt_mono hle 8
            have hc8 := gg_cnt_le O' 8
            have hnew : a + w ≤ gg_b2 (gg_cnt O' 8 + 1) := by
              unfold gg_b2 at hacnt ⊢
              omega
            have hnb : a + w < 2 ^ 31 := by
              unfold gg_b2 at hnew
              omega
            refine s_lower8 (D := O') (o := some (a + w)) q hg (fun n hn => ?_) (fun n hn => by injection hn with hn; omega) (fun g2 hg2 => ?_)
            · have := hs s q n hn
              unfold gg_b2 at this
              omega
            · rw [gs_AA]
              refine nm_r (nI_1 i) (ih (i + 1) (gg_low O' s (some (a + w))) g2 h3 (by omega) hg2 (gg_sb_low gg_b2_up q hs (fun n hn => by injection hn with hn; omega)) (gg_low_le.tr hle) (gg_low_snd hsnd (fun n hn => ?_)) (fun j hj w' hw' hx => ?_))
              · injection hn with hn
                subst hn
                have := gm_A_snd (O := O) h.1 hr h1 (by rw [h2]; exact q) hw (hsn _ a hout)
                rw [h2] at this
                exact this
              · by_cases e2 : j = i
                · subst e2
                  rw [hw] at hw'
                  injection hw' with hw'
                  subst hw'
                  rw [h2]
                  exact gg_low_hit
                · obtain ⟨n, q1, q2⟩ := hall j (by omega) w' hw' hx
                  obtain ⟨n', q3, q4⟩ := gg_low_le (D := O') (A := s) (o := some (a + w)) _ n q2
                  exact ⟨n', by omega, q4⟩
        · refine br_t rfl (nm_r (nI_1 i) (ih (i + 1) O' g h3 (by omega) hg hs hle hsnd (fun j hj w' hw' hx => ?_)))
          by_cases e : j = i
          · subst e
            rw [h2] at hx
            omega
          · exact hall j (by omega) w' hw' hx
    have := key (gg_y G r) 0 O (σ.2.1 5) rfl (by omega) hO hsb gg_le.rfl' hsn (fun j hj => absurd hj (Nat.not_lt_zero _))
    rw [gs_Aid] at this
    exact this
theorem s_leFind {K : gs_St → Prop} (h : gr_at G σ)
    (kk : ∀ (D O : Nat → Option Nat) (f g : Nat → Int32), (∀ A, A < 8 → f A = gg_o (D A)) → (∀ A, A < 8 → g A = gg_o (O A)) → gm_L G D → gm_L (gm_A G D) O → gg_bd D 1679616 → gg_bd O 80621568 → K (gs_A (gs_A σ 4 f) 5 g)) : C_Le_find σ K := by
  intro X10 X18 X79 X87 h10 h18 h79 h87
  have hG := h.1.1
  have g4 : ∀ f, gr_at G (gs_A σ 4 f) := fun f => h.of rfl rfl rfl rfl
  have g5 : ∀ f g, gr_at G (gs_A (gs_A σ 4 f) 5 g) := fun f g => h.of rfl rfl rfl rfl
  have ph2 : ∀ (D : Nat → Option Nat) (f : Nat → Int32), (∀ A, A < 8 → f A = gg_o (D A)) → gm_L G D → gg_bd D 1679616 → ∀ (n k : Nat) (O : Nat → Option Nat) (g : Nat → Int32), k + n = 8 → (∀ A, A < 8 → g A = gg_o (O A)) → gg_sb gg_b2 O → gm_snd (gm_A G D) O → gm_cpl (gm_A G D) (k + 1) O → X79 (nI k) (gs_A (gs_A σ 4 f) 5 g) := by
    intro D f hf hL hbd n
    induction n with
    | zero =>
      intro k O g hk hg hsb hsn hcp
      have hk : k = 8 := hk
      subst hk
      apply h79
      refine br_t (by decide) (kk D O f g hf hg hL ?_ hbd (gg_sb_bd gg_b2_up hsb))
      exact gm_L_of hsn (fun A m hd => hcp A m (gm_D_le hd (by omega)))
    | succ n ih =>
      intro k O g hk hg hsb hsn hcp
      apply h79
      refine pk_le 8 k (fun q => absurd q (by omega)) (fun _ => ?_)
      have inner : ∀ (m r : Nat) (O : Nat → Option Nat) (g : Nat → Int32), r + m = G.length → (∀ A, A < 8 → g A = gg_o (O A)) → gg_sb gg_b2 O → gm_snd (gm_A G D) O → gm_cpl (gm_A G D) (k + 1) O → gm_an G D (k + 1) r O → X87 (nI k) (nI r) (gs_A (gs_A σ 4 f) 5 g) := by
        intro m
        induction m with
        | zero =>
          intro r O g hr hg hsb hsn hcp han
          have hr : r = G.length := hr
          subst hr
          apply h87
          refine pk_le G.length G.length (fun _ => nm_r (nI_1 k) (ih (k + 1) O g (by omega) hg hsb hsn ?_)) (fun q => absurd q (by omega)) h.2.1
          exact han.next h.1 (hcp 0 0 ⟨(0, []), gm_A_mem.mpr (Or.inl rfl), rfl, rfl⟩)
        | succ m ihm =>
          intro r O g hr hg hsb hsn hcp han
          apply h87
          refine pk_le G.length r (fun q => absurd q (by omega)) (fun _ => ?_) h.2.1
          refine s_lowerAround (D := D) (O := O) (g5 f g) (by omega) hf hbd hg hsb hsn (fun O' g' hg' hsb' hle' hsn' hall' => ?_)
          rw [gs_AA]
          refine nm_r (nI_1 r) (ihm (r + 1) O' g' (by omega) hg' hsb' hsn' (hcp.mono hle') (fun q hq i hi a ha w hw hx => ?_))
          by_cases e : q = r
          · subst e
            obtain ⟨a', e1, e2⟩ := hcp _ a ha
            obtain ⟨n', e3, e4⟩ := hall' i hi a' w e2 hw hx
            exact ⟨n', by omega, e4⟩
          · exact (han.mono hle') q (by omega) i hi a ha w hw hx
      exact inner G.length 0 O g (by omega) hg hsb hsn hcp (fun q hq => absurd hq (Nat.not_lt_zero _))
  have ph1 : ∀ (n k : Nat) (D : Nat → Option Nat) (f : Nat → Int32), k + n = 8 → (∀ A, A < 8 → f A = gg_o (D A)) → gg_sb gg_b1 D → gm_snd G D → gm_cpl G k D → X10 (nI k) (gs_A σ 4 f) := by
    intro n
    induction n with
    | zero =>
      intro k D f hk hf hsb hsn hcp
      have hk : k = 8 := hk
      subst hk
      apply h10
      refine br_t (by decide) (s_fill8 (fun τ hτ => ?_))
      have hbd : gg_bd D 1679616 := gg_sb_bd gg_b1_up hsb
      subst hτ
      refine ⟨vp_in_nI (n := 0) (by decide) (by decide), ?_⟩
      intro τ hτ
      have e : τ = gs_A (gs_A σ 4 f) 5 (upd (fun j => if j < 8 then (-1 : Int32) else σ.2.1 5 j) 0 0) := by
        rw [hτ, gs_AA]
        rfl
      rw [e]
      refine ph2 D f hf (gm_L_of hsn hcp) hbd 8 0 (gg_up (fun _ => none) 0 (some 0)) _ rfl (fun A hA => ?_) (fun A hA n hn => ?_) (fun A m hm => ?_) (fun A m hm => ?_)
      · show (if A = 0 then (0 : Int32) else (if A < 8 then (-1 : Int32) else σ.2.1 5 A)) = gg_o (if A = 0 then some 0 else none)
        by_cases e0 : A = 0
        · rw [if_pos e0, if_pos e0]
          rfl
        · rw [if_neg e0, if_neg e0, if_pos hA]
          rfl
      · by_cases e0 : A = 0
        · subst e0
          rw [gg_up_s] at hn
          injection hn with hn
          omega
        · rw [gg_up_n e0] at hn
          cases hn
      · by_cases e0 : A = 0
        · subst e0
          rw [gg_up_s] at hm
          injection hm with hm
          subst hm
          exact ⟨1, (0, []), gm_A_mem.mpr (Or.inl rfl), rfl, rfl⟩
        · rw [gg_up_n e0] at hm
          cases hm
      · obtain ⟨q, q1, q2, q3⟩ := hm
        rcases gm_A_mem.mp q1 with e1 | ⟨r, i, w, hr, hi, hx, hw, e1⟩
        · subst e1
          have q2 : (0 : Nat) = A := q2
          subst q2
          exact ⟨0, Nat.zero_le _, gg_up_s⟩
        · subst e1
          obtain ⟨a, a1, a2⟩ := (gm_S_arw (h.1.2 r hr).1).mp q3
          exact a1.elim
    | succ n ih =>
      intro k D f hk hf hsb hsn hcp
      apply h10
      refine pk_le 8 k (fun q => absurd q (by omega)) (fun _ => ?_)
      have inner : ∀ (m r : Nat) (D : Nat → Option Nat) (f : Nat → Int32), r + m = G.length → (∀ A, A < 8 → f A = gg_o (D A)) → gg_sb gg_b1 D → gm_snd G D → gm_cpl G k D → gm_dn G k r D → X18 (nI k) (nI r) (gs_A σ 4 f) := by
        intro m
        induction m with
        | zero =>
          intro r D f hr hf hsb hsn hcp hdn
          have hr : r = G.length := hr
          subst hr
          apply h18
          exact pk_le G.length G.length (fun _ => nm_r (nI_1 k) (ih (k + 1) D f (by omega) hf hsb hsn hdn.next)) (fun q => absurd q (by omega)) h.2.1
        | succ m ihm =>
          intro r D f hr hf hsb hsn hcp hdn
          have hr' : r < G.length := by omega
          obtain ⟨hl8, hz, h24⟩ := h.1.2 r hr'
          apply h18
          refine pk_le G.length r (fun q => absurd q (by omega)) (fun _ => ?_) h.2.1
          refine s_leftOf (g4 f) hr' ?_
          have hbd : gg_bd D 1679616 := gg_sb_bd gg_b1_up hsb
          refine s_leastBut (D := D) (B := 1679616) (g4 f) hr' hf hbd (by decide) (by decide) ?_
          rw [gg_but_no _ 0 (by omega)]
          have hsum : ∀ x, gg_sum D (gg_y G r) = some x → x ≤ gg_b1 (gg_cnt D 8 + 1) := fun x hx => by
            rw [← gg_but_no _ 0 (by omega)] at hx
            have e1 := gg_but_le hsb (gg_b1_pos _) (gg_y G r) 0 x hx
            refine Nat.le_trans e1 ?_
            unfold gg_b1
            rw [Nat.pow_succ, Nat.mul_comm]
            exact Nat.mul_le_mul_left _ hz
          have hb8 : gg_b1 (gg_cnt D 8 + 1) ≤ gg_b1 9 := gg_mono gg_b1_up (by have := gg_cnt_le D 8; omega)
          have hb9 : gg_b1 9 = 10077696 := by decide
          refine s_lower7 (D := D) hl8 hf (fun x hx => ?_) (fun x hx => ?_) (fun f2 hf2 => ?_)
          · have := hbd _ hl8 x hx
            omega
          · have := hsum x hx
            omega
          · rw [gs_AA]
            obtain ⟨s1, s2, s3⟩ := gm_step hr' hsn hcp hdn
            exact nm_r (nI_1 r) (ihm (r + 1) _ f2 (by omega) hf2 (gg_sb_low gg_b1_up hl8 hsb hsum) s1 s2 s3)
      exact inner G.length 0 D f (by omega) hf hsb hsn hcp (fun q hq => absurd hq (Nat.not_lt_zero _))
  refine s_fill7 (fun τ hτ => ?_)
  subst hτ
  refine ph1 8 0 (fun _ => none) _ rfl (fun A hA => ?_) (fun A _ n hn => by cases hn) (fun A m hm => by cases hm) (fun A m hm => hm.elim)
  show (if A < 8 then (-1 : Int32) else σ.2.1 4 A) = gg_o none
  rw [if_pos hA]
  rfl
end L2D
end
section
/-! Layer 2, part e: the class's Leads. Masks by their bits. -/
def gb (x : Int32) (i : Nat) : Bool := x.toBitVec.getLsbD i
theorem gb_or (x y : Int32) (i : Nat) : gb (x ||| y) i = (gb x i || gb y i) := by
  unfold gb
  rw [Int32.toBitVec_or, BitVec.getLsbD_or]
theorem gb_and (x y : Int32) (i : Nat) : gb (x &&& y) i = (gb x i && gb y i) := by
  unfold gb
  rw [Int32.toBitVec_and, BitVec.getLsbD_and]
theorem gb_xor (x y : Int32) (i : Nat) : gb (x ^^^ y) i = (gb x i ^^ gb y i) := by
  unfold gb
  rw [Int32.toBitVec_xor, BitVec.getLsbD_xor]
theorem gb_m1 : ∀ i, i < 32 → gb (-1) i = true := by decide +kernel
theorem gb_one : ∀ s, s < 8 → ∀ i, i < 32 → gb ((1 : Int32) <<< (nI s &&& 31)) i = decide (i = s) := by decide +kernel
theorem gb_0 (i : Nat) : gb 0 i = false := by
  unfold gb
  rw [show (0 : Int32).toBitVec = 0#32 from rfl, BitVec.getLsbD_zero]
theorem gb_zero {x : Int32} : x = 0 ↔ ∀ i, i < 32 → gb x i = false := by
  constructor
  · rintro rfl i -
    exact gb_0 i
  · intro h
    apply Int32.toBitVec_inj.mp
    apply BitVec.eq_of_getLsbD_eq
    intro i hi
    have h1 : x.toBitVec.getLsbD i = false := h i hi
    have h2 : (0 : Int32).toBitVec.getLsbD i = false := gb_0 i
    rw [h1, h2]
theorem gb_test {P : Int32} {A : Nat} (hA : A < 8) : P &&& ((1 : Int32) <<< (nI A &&& 31)) = 0 ↔ gb P A = false := by
  rw [gb_zero]
  constructor
  · intro h
    have h1 := h A (by omega)
    rw [gb_and, gb_one A hA A (by omega), decide_eq_true rfl, Bool.and_true] at h1
    exact h1
  · intro h i hi
    rw [gb_and, gb_one A hA i hi]
    by_cases e : i = A
    · rw [e, h, Bool.false_and]
    · rw [decide_eq_false e, Bool.and_false]
theorem gb_sub {t p : Int32} : t &&& (p ^^^ (-1 : Int32)) = 0 ↔ ∀ i, i < 32 → gb t i = true → gb p i = true := by
  rw [gb_zero]
  constructor
  · intro h i hi ht
    have h1 := h i hi
    rw [gb_and, gb_xor, gb_m1 i hi, ht] at h1
    cases hp : gb p i with
    | true => rfl
    | false => rw [hp] at h1; cases h1
  · intro h i hi
    rw [gb_and, gb_xor, gb_m1 i hi]
    cases ht : gb t i with
    | false => rfl
    | true => rw [h i hi ht]; rfl
/-- the other symbols of a right side are empty nonterminals -/
def gg_eb (D : Nat → Option Nat) (ys : List Nat) (x : Int32) : Prop := ∀ j, j < ys.length → nI j ≠ x → ys.getD j 0 < 8 ∧ D (ys.getD j 0) = some 0
/-- the place i of rule r leads from A to x -/
def gg_pl (G : gg_R) (D : Nat → Option Nat) (r i A x : Nat) : Prop := i < (gg_y G r).length ∧ gg_l G r = A ∧ (gg_y G r).getD i 0 = x ∧ x < 8 ∧ gg_eb D (gg_y G r) (nI i)
/-- A leads to x -/
def gg_to (G : gg_R) (D : Nat → Option Nat) (A x : Nat) : Prop := ∃ r i, r < G.length ∧ gg_pl G D r i A x
section L2E
variable {G : gg_R} {σ : gs_St} {D : Nat → Option Nat}
theorem gg_o_zero {o : Option Nat} (hb : ∀ n, o = some n → n < 2 ^ 31) : gg_o o = 0 ↔ o = some 0 := by
  cases o with
  | none => exact ⟨fun h => absurd h (by decide), fun h => by cases h⟩
  | some n =>
    constructor
    · intro h
      have h1 : nI n = nI 0 := h
      rw [(nI_eq (hb n rfl) (by decide)).mp h1]
    · intro h
      injection h with h
      rw [h]
      rfl
theorem s_leIsEmpty {s : Nat} {K : Int32 → gs_St → Prop} (hs : s < 2 ^ 31) (hD : le_at D σ) (hbd : gg_bd D 1679616) (h1 : s < 8 ∧ D s = some 0 → K 1 σ) (h0 : ¬ (s < 8 ∧ D s = some 0) → K 0 σ) : C_Le_isEmpty (nI s) σ K := by
  refine s_isNtN hs (fun q => br_f (by decide) ⟨vp_in_nI q (by decide), ?_⟩) (fun q => br_t rfl (h0 (fun z => by omega)))
  rw [nI_clamp (by omega), hD s q, gg_o_zero (fun n hn => by have := hbd s q n hn; omega)]
  exact ⟨fun z => h0 (fun y => z y.2), fun z => h1 ⟨q, Classical.byContradiction z⟩⟩
theorem s_isEmptyBut {r : Nat} {x : Int32} {K : Int32 → gs_St → Prop} (h : gr_at G σ) (hr : r < G.length) (hD : le_at D σ) (hbd : gg_bd D 1679616) (h1 : gg_eb D (gg_y G r) x → K 1 σ) (h0 : ¬ gg_eb D (gg_y G r) x → K 0 σ) : C_Ld_isEmptyBut (nI r) x σ K := by
  intro X2 h2
  have hG := h.1.1
  obtain ⟨hl8, hz, h24⟩ := h.1.2 r hr
  have key : ∀ (n i : Nat), i + n = (gg_y G r).length → (∀ j, j < i → nI j ≠ x → (gg_y G r).getD j 0 < 8 ∧ D ((gg_y G r).getD j 0) = some 0) → X2 (nI r) x (nI i) σ := by
    intro n
    induction n with
    | zero =>
      intro i hi ha
      have hi : i = (gg_y G r).length := hi
      apply h2
      refine s_sizeOf h hr ?_
      exact pk_le (gg_y G r).length i (fun _ => h1 (fun j hj => ha j (by omega))) (fun q => absurd q (by omega))
    | succ n ih =>
      intro i hi ha
      have hi' : i < (gg_y G r).length := by omega
      apply h2
      refine s_sizeOf h hr ?_
      refine pk_le (gg_y G r).length i (fun q => absurd q (by omega)) (fun _ => ?_)
      refine ⟨fun e => nm_r (nI_1 i) (ih (i + 1) (by omega) (fun j hj hne => ?_)), fun e => ?_⟩
      · by_cases ej : j = i
        · subst ej
          exact absurd e hne
        · exact ha j (by omega) hne
      · refine s_symbolAt h hr hi' ?_
        have h24i := h24 i hi'
        refine s_leIsEmpty (by omega) hD hbd (fun q => ?_) (fun q => ?_)
        · refine br_t (by decide) (nm_r (nI_1 i) (ih (i + 1) (by omega) (fun j hj hne => ?_)))
          by_cases ej : j = i
          · subst ej
            exact q
          · exact ha j (by omega) hne
        · exact br_f (fun z => z rfl) (h0 (fun w => q (w i hi' e)))
  exact key (gg_y G r).length 0 (by omega) (fun j hj => absurd hj (Nat.not_lt_zero _))
theorem s_fill10 {x : Int32} {K : gs_St → Prop} (k : ∀ τ : gs_St, τ = gs_A σ 6 (fun j => if j < 8 then x else σ.2.1 6 j) → K τ) : C_Ar_fill_10 x σ K := by
  intro X5 h5
  have key : ∀ (n i : Nat) (f : Nat → Int32), i + n = 8 → (∀ j, f j = if j < i then x else σ.2.1 6 j) → X5 x (nI i) 8 (gs_A σ 6 f) := by
    intro n
    induction n with
    | zero =>
      intro i f hi hf
      have hi : i = 8 := hi
      subst hi
      apply h5
      exact br_t (by decide) (k _ (by rw [show f = (fun j => if j < 8 then x else σ.2.1 6 j) from funext hf]))
    | succ n ih =>
      intro i f hi hf
      apply h5
      refine pk_le 8 i (fun q => absurd q (by omega)) (fun _ => ⟨vp_in_nI (by omega) (by decide), ?_⟩)
      rw [nI_clamp (by omega)]
      intro τ hτ
      have e : τ = gs_A σ 6 (upd f i x) := by
        rw [hτ, gs_AA]
        rfl
      rw [e]
      refine nm_r (nI_1 i) ?_
      exact ih (i + 1) (upd f i x) (by omega) (fun j => by
        show (if j = i then x else f j) = _
        rw [hf j]
        split <;> split <;> (try split) <;> first | rfl | omega)
  have := key 8 0 (σ.2.1 6) rfl (fun j => by rw [if_neg (Nat.not_lt_zero _)])
  rw [gs_Aid] at this
  exact this
/-- an order o of c nonterminals, each behind all that it leads to -/
def gg_ord (T : Nat → Nat → Prop) (o : Nat → Nat) (c : Nat) : Prop := (∀ j, j < c → o j < 8) ∧ (∀ i j, i < j → j < c → o i ≠ o j) ∧ ∀ j, j < c → ∀ x, x < 8 → T (o j) x → ∃ i, i < j ∧ o i = x
/-- what isn't in the order leads to something that isn't -/
def gg_stk (T : Nat → Nat → Prop) (o : Nat → Nat) (c : Nat) : Prop := ∀ A, A < 8 → (∀ j, j < c → o j ≠ A) → ∃ x, x < 8 ∧ T A x ∧ ∀ j, j < c → o j ≠ x
theorem gg_ord_lt {T : Nat → Nat → Prop} {o : Nat → Nat} {c A : Nat} (h : gg_ord T o c) (hA : A < 8) (hn : ∀ j, j < c → o j ≠ A) : c < 8 := by
  rcases Nat.lt_or_ge c 8 with q | q
  · exact q
  · obtain ⟨i, j, h1, h2, h3⟩ := gm_ph 8 (fun i => if i = 8 then A else o i) (fun i hi => by
      show (if i = 8 then A else o i) < 8
      split
      · exact hA
      · exact h.1 i (by omega))
    have h3 : (if i = 8 then A else o i) = (if j = 8 then A else o j) := h3
    rw [if_neg (by omega)] at h3
    split at h3
    · exact absurd h3 (hn i (by omega))
    · exact absurd h3 (h.2.1 i j h1 (by omega))
theorem gg_ord_all {T : Nat → Nat → Prop} {o : Nat → Nat} {c : Nat} (h : gg_ord T o c) (hc : 8 ≤ c) : ∀ A, A < 8 → ∃ j, j < c ∧ o j = A := fun A hA =>
  Classical.byContradiction (fun q => absurd (gg_ord_lt h hA (fun j hj e => q ⟨j, hj, e⟩)) (by omega))
theorem gg_ord_miss {T : Nat → Nat → Prop} {o : Nat → Nat} {c : Nat} (hc : c < 8) : ∃ A, A < 8 ∧ ∀ j, j < c → o j ≠ A := by
  refine Classical.byContradiction (fun q => ?_)
  have ex : ∀ A, ∃ j, A ≤ 7 → j < c ∧ o j = A := by
    intro A
    by_cases hA : A ≤ 7
    · refine Classical.byContradiction (fun z => q ⟨A, by omega, fun j hj e => z ⟨j, fun _ => ⟨hj, e⟩⟩⟩)
    · exact ⟨0, fun z => absurd z hA⟩
  obtain ⟨f, hf⟩ : ∃ f : Nat → Nat, ∀ A, A ≤ 7 → f A < c ∧ o (f A) = A := ⟨fun A => Classical.choose (ex A), fun A hA => Classical.choose_spec (ex A) hA⟩
  obtain ⟨i, j, h1, h2, h3⟩ := gm_ph 7 f (fun i hi => by have := (hf i hi).1; omega)
  have e1 := (hf i (by omega)).2
  have e2 := (hf j h2).2
  rw [h3] at e1
  omega
theorem gg_ord_add {T : Nat → Nat → Prop} {o : Nat → Nat} {c A : Nat} (h : gg_ord T o c) (hA : A < 8) (hn : ∀ j, j < c → o j ≠ A) (ht : ∀ x, x < 8 → T A x → ∃ j, j < c ∧ o j = x) : gg_ord T (fun j => if j = c then A else o j) (c + 1) := by
  refine ⟨fun j hj => ?_, fun i j hij hj => ?_, fun j hj x hx hT => ?_⟩
  · show (if j = c then A else o j) < 8
    split
    · exact hA
    · exact h.1 j (by omega)
  · show (if i = c then A else o i) ≠ (if j = c then A else o j)
    rw [if_neg (by omega)]
    split
    · exact hn i (by omega)
    · exact h.2.1 i j hij (by omega)
  · have hT : T (if j = c then A else o j) x := hT
    split at hT
    · obtain ⟨i, h1, h2⟩ := ht x hx hT
      exact ⟨i, by omega, by show (if i = c then A else o i) = x; rw [if_neg (by omega)]; exact h2⟩
    · obtain ⟨i, h1, h2⟩ := h.2.2 j (by omega) x hx hT
      exact ⟨i, h1, by show (if i = c then A else o i) = x; rw [if_neg (by omega)]; exact h2⟩
theorem s_putInOrder {T : Nat → Nat → Prop} {K : gs_St → Prop} (hT : ∀ A, A < 8 → ∀ x, x < 32 → (gb (σ.2.1 6 A) x = true ↔ x < 8 ∧ T A x))
    (kk : ∀ (o : Nat → Nat) (c : Nat) (f : Nat → Int32), gg_ord T o c → (8 ≤ c ∨ gg_stk T o c) → (∀ j, j < c → f j = nI (o j)) → K (gs_I (gs_A σ 7 f) 3 (nI c))) : C_Ld_putInOrder σ K := by
  intro X9 X17 X36 h9 h17 h36
  have outer : ∀ (n k : Nat) (o : Nat → Nat) (c : Nat) (f : Nat → Int32) (P : Int32), k + n = 8 → gg_ord T o c → (k ≤ c ∨ gg_stk T o c) → (∀ j, j < c → f j = nI (o j)) → (∀ x, x < 32 → (gb P x = true ↔ ∃ j, j < c ∧ o j = x)) → X9 P (nI k) (gs_I (gs_A σ 7 f) 3 (nI c)) := by
    intro n
    induction n with
    | zero =>
      intro k o c f P hk ho hp hf hP
      have hk : k = 8 := hk
      subst hk
      apply h9
      exact br_t (by decide) (kk o c f ho hp hf)
    | succ n ih =>
      intro k o c f P hk ho hp hf hP
      apply h9
      refine pk_le 8 k (fun q => absurd q (by omega)) (fun _ => ?_)
      have inner : ∀ (m A : Nat) (o2 : Nat → Nat) (c2 : Nat) (f2 : Nat → Int32) (P2 : Int32), A + m = 8 → gg_ord T o2 c2 → ((c < c2 ∧ ¬ gg_stk T o c) ∨ (c2 = c ∧ o2 = o ∧ ∀ x, x < A → (∀ j, j < c → o j ≠ x) → ∃ y, y < 8 ∧ T x y ∧ ∀ j, j < c → o j ≠ y)) → (∀ j, j < c2 → f2 j = nI (o2 j)) → (∀ x, x < 32 → (gb P2 x = true ↔ ∃ j, j < c2 ∧ o2 j = x)) → X17 P2 (nI k) (nI A) (gs_I (gs_A σ 7 f2) 3 (nI c2)) := by
        intro m
        induction m with
        | zero =>
          intro A o2 c2 f2 P2 hA ho2 hp2 hf2 hP2
          have hA : A = 8 := hA
          subst hA
          apply h17
          refine br_t (by decide) (nm_r (nI_1 k) (ih (k + 1) o2 c2 f2 P2 (by omega) ho2 ?_ hf2 hP2))
          rcases hp2 with ⟨q, qs⟩ | ⟨q1, q2, q3⟩
          · rcases hp with z | z
            · exact Or.inl (by omega)
            · exact absurd z qs
          · subst q1
            subst q2
            exact Or.inr (fun A hA => q3 A hA)
        | succ m ihm =>
          intro A o2 c2 f2 P2 hA ho2 hp2 hf2 hP2
          have hA8 : A < 8 := by omega
          apply h17
          refine pk_le 8 A (fun q => absurd q (by omega)) (fun _ => ?_)
          refine ek_if (not_congr (gb_test hA8)) (fun hb => ?_) (fun hb => ?_)
          · have hin : ∃ j, j < c2 ∧ o2 j = A := (hP2 A (by omega)).mp (by cases hz : gb P2 A with | true => rfl | false => exact absurd hz hb)
            apply h36
            refine br_t rfl (nm_r (nI_1 A) (ihm (A + 1) o2 c2 f2 P2 (by omega) ho2 ?_ hf2 hP2))
            rcases hp2 with q | ⟨q1, q2, q3⟩
            · exact Or.inl q
            · refine Or.inr ⟨q1, q2, fun x hx hno => ?_⟩
              by_cases e : x = A
              · subst e
                obtain ⟨j, hj, e2⟩ := hin
                rw [q2] at e2
                exact absurd e2 (hno j (by omega))
              · exact q3 x (by omega) hno
          · have hb : gb P2 A = false := Classical.byContradiction hb
            have hout : ∀ j, j < c2 → o2 j ≠ A := fun j hj e => by
              have := (hP2 A (by omega)).mpr ⟨j, hj, e⟩
              rw [hb] at this
              cases this
            apply h36
            refine br_f (by decide) ⟨vp_in_nI hA8 (by decide), ?_⟩
            rw [nI_clamp (by omega)]
            have et : (gs_I (gs_A σ 7 f2) 3 (nI c2)).2.1 6 A = σ.2.1 6 A := rfl
            rw [et]
            refine ek_if (not_congr gb_sub) (fun hb2 => ?_) (fun hb2 => ?_)
            · refine nm_r (nI_1 A) (ihm (A + 1) o2 c2 f2 P2 (by omega) ho2 ?_ hf2 hP2)
              rcases hp2 with q | ⟨q1, q2, q3⟩
              · exact Or.inl q
              · refine Or.inr ⟨q1, q2, fun x hx hno => ?_⟩
                by_cases e : x = A
                · subst e
                  refine Classical.byContradiction (fun z => hb2 (fun i hi hti => ?_))
                  obtain ⟨hi8, hTi⟩ := (hT x hA8 i hi).mp hti
                  refine (hP2 i hi).mpr (Classical.byContradiction (fun z2 => z ⟨i, hi8, hTi, fun j hj e => z2 ⟨j, by omega, by rw [q2]; exact e⟩⟩))
                · exact q3 x (by omega) hno
            · have hsub : ∀ i, i < 32 → gb (σ.2.1 6 A) i = true → gb P2 i = true := Classical.byContradiction hb2
              have hc2 : c2 < 8 := gg_ord_lt ho2 hA8 hout
              refine nm_e ⟨vp_in_nI hc2 (by decide), ?_⟩
              have e3 : (gs_I (gs_A σ 7 f2) 3 (nI c2)).1 3 = nI c2 := rfl
              rw [e3, nI_clamp (by omega)]
              intro σ6 e6 σ7 e7
              have es : σ7 = gs_I (gs_A σ 7 (upd f2 c2 (nI A))) 3 (nI (c2 + 1)) := by
                rw [e7, e6]
                refine Prod.ext (funext fun j => ?_) (Prod.ext (funext fun j => ?_) rfl)
                · show (if j = 3 then nI c2 + 1 else (if j = 3 then nI c2 else σ.1 j)) = (if j = 3 then nI (c2 + 1) else σ.1 j)
                  split
                  · exact nI_1 c2
                  · rfl
                · show (if j = 7 then upd f2 c2 (nI A) else (if j = 7 then f2 else σ.2.1 j)) = (if j = 7 then upd f2 c2 (nI A) else σ.2.1 j)
                  split <;> rfl
              rw [es]
              refine nm_r (nI_1 A) (ihm (A + 1) (fun j => if j = c2 then A else o2 j) (c2 + 1) _ _ (by omega) (gg_ord_add ho2 hA8 hout (fun x hx hTx => ?_)) ?_ (fun j hj => ?_) (fun x hx => ?_))
              · exact (hP2 x (by omega)).mp (hsub x (by omega) ((hT A hA8 x (by omega)).mpr ⟨hx, hTx⟩))
              · rcases hp2 with ⟨q, qs⟩ | ⟨q1, q2, -⟩
                · exact Or.inl ⟨by omega, qs⟩
                · refine Or.inl ⟨by omega, fun hs => ?_⟩
                  obtain ⟨x, hx, hTx, hno⟩ := hs A hA8 (fun j hj => by rw [← q2]; exact hout j (by omega))
                  obtain ⟨j, hj, e⟩ := (hP2 x (by omega)).mp (hsub x (by omega) ((hT A hA8 x (by omega)).mpr ⟨hx, hTx⟩))
                  rw [q2] at e
                  exact hno j (by omega) e
              · show (if j = c2 then nI A else f2 j) = nI (if j = c2 then A else o2 j)
                by_cases e : j = c2
                · rw [if_pos e, if_pos e]
                · rw [if_neg e, if_neg e]
                  exact hf2 j (by omega)
              · rw [gb_or, gb_one A hA8 x hx, Bool.or_eq_true, hP2 x hx, decide_eq_true_iff]
                constructor
                · rintro (⟨j, hj, e⟩ | e)
                  · exact ⟨j, by omega, by show (if j = c2 then A else o2 j) = x; rw [if_neg (by omega)]; exact e⟩
                  · exact ⟨c2, by omega, by show (if c2 = c2 then A else o2 c2) = x; rw [if_pos rfl]; exact e.symm⟩
                · rintro ⟨j, hj, e⟩
                  have e : (if j = c2 then A else o2 j) = x := e
                  split at e
                  · exact Or.inr e.symm
                  · exact Or.inl ⟨j, by omega, e⟩
      exact inner 8 0 o c f P rfl ho (Or.inr ⟨rfl, rfl, fun x hx => absurd hx (Nat.not_lt_zero _)⟩) hf hP
  have e1 : ∀ τ : gs_St, τ = gs_I σ 3 0 → X9 0 0 τ := by
    intro τ hτ
    have := outer 8 0 (fun _ => 0) 0 (σ.2.1 7) 0 rfl ⟨fun j hj => absurd hj (Nat.not_lt_zero _), fun i j _ hj => absurd hj (Nat.not_lt_zero _), fun j hj => absurd hj (Nat.not_lt_zero _)⟩ (Or.inl (Nat.le_refl 0)) (fun j hj => absurd hj (Nat.not_lt_zero _)) (fun x hx => by
      rw [gb_0]
      exact ⟨fun z => absurd z Bool.false_ne_true, fun ⟨j, hj, _⟩ => absurd hj (Nat.not_lt_zero _)⟩)
    rw [gs_Aid] at this
    rw [hτ]
    exact this
  exact e1
/-- the masks of Leads.targets, an order -/
theorem s_ldFind {K : gs_St → Prop} (h : gr_at G σ) (hD : le_at D σ) (hbd : gg_bd D 1679616)
    (kk : ∀ (o : Nat → Nat) (c : Nat) (t f : Nat → Int32), gg_ord (gg_to G D) o c → (8 ≤ c ∨ gg_stk (gg_to G D) o c) → (∀ j, j < c → f j = nI (o j)) → K (gs_I (gs_A (gs_A σ 6 t) 7 f) 3 (nI c))) : C_Ld_find σ K := by
  intro X10 X23 h10 h23
  have hG := h.1.1
  have g6 : ∀ t, gr_at G (gs_A σ 6 t) := fun t => h.of rfl rfl rfl rfl
  have d6 : ∀ t, le_at D (gs_A σ 6 t) := fun t => hD
  have outer : ∀ (n r : Nat) (t : Nat → Int32), r + n = G.length → (∀ A, A < 8 → ∀ x, x < 32 → (gb (t A) x = true ↔ ∃ r' i, r' < r ∧ gg_pl G D r' i A x)) → X10 (nI r) (gs_A σ 6 t) := by
    intro n
    induction n with
    | zero =>
      intro r t hr ht
      have hr : r = G.length := hr
      subst hr
      apply h10
      refine pk_le G.length G.length (fun _ => ?_) (fun q => absurd q (by omega)) h.2.1
      refine s_putInOrder (T := gg_to G D) (fun A hA x hx => ?_) (fun o c f ho hp hf => kk o c t f ho hp hf)
      show gb (t A) x = true ↔ _
      rw [ht A hA x hx]
      constructor
      · rintro ⟨r, i, h1, h2⟩
        exact ⟨h2.2.2.2.1, r, i, h1, h2⟩
      · rintro ⟨-, r, i, h1, h2⟩
        exact ⟨r, i, h1, h2⟩
    | succ n ih =>
      intro r t hr ht
      have hr' : r < G.length := by omega
      obtain ⟨hl8, hz, h24⟩ := h.1.2 r hr'
      apply h10
      refine pk_le G.length r (fun q => absurd q (by omega)) (fun _ => ?_) h.2.1
      have inner : ∀ (m i : Nat) (t : Nat → Int32), i + m = (gg_y G r).length → (∀ A, A < 8 → ∀ x, x < 32 → (gb (t A) x = true ↔ ∃ r' i', (r' < r ∨ (r' = r ∧ i' < i)) ∧ gg_pl G D r' i' A x)) → X23 (nI r) (nI i) (gs_A σ 6 t) := by
        intro m
        induction m with
        | zero =>
          intro i t hi ht
          have hi : i = (gg_y G r).length := hi
          apply h23
          refine s_sizeOf (g6 t) hr' ?_
          refine pk_le (gg_y G r).length i (fun _ => nm_r (nI_1 r) (ih (r + 1) t (by omega) (fun A hA x hx => ?_))) (fun q => absurd q (by omega))
          rw [ht A hA x hx]
          constructor
          · rintro ⟨r', i', q | ⟨q1, q2⟩, hp⟩
            · exact ⟨r', i', by omega, hp⟩
            · exact ⟨r', i', by omega, hp⟩
          · rintro ⟨r', i', q, hp⟩
            by_cases e : r' = r
            · refine ⟨r', i', Or.inr ⟨e, ?_⟩, hp⟩
              subst e
              have := hp.1
              omega
            · exact ⟨r', i', Or.inl (by omega), hp⟩
        | succ m ihm =>
          intro i t hi ht
          have hi' : i < (gg_y G r).length := by omega
          have h24i := h24 i hi'
          have nolead : (∀ A x, ¬ gg_pl G D r i A x) → ∀ A, A < 8 → ∀ x, x < 32 → (gb (t A) x = true ↔ ∃ r' i', (r' < r ∨ (r' = r ∧ i' < i + 1)) ∧ gg_pl G D r' i' A x) := by
            intro hno A hA x hx
            rw [ht A hA x hx]
            constructor
            · rintro ⟨r', i', q | ⟨q1, q2⟩, hp⟩
              · exact ⟨r', i', Or.inl q, hp⟩
              · exact ⟨r', i', Or.inr ⟨q1, by omega⟩, hp⟩
            · rintro ⟨r', i', q | ⟨q1, q2⟩, hp⟩
              · exact ⟨r', i', Or.inl q, hp⟩
              · refine ⟨r', i', Or.inr ⟨q1, ?_⟩, hp⟩
                by_cases e : i' = i
                · subst q1
                  subst e
                  exact absurd hp (hno A x)
                · omega
          apply h23
          refine s_sizeOf (g6 t) hr' ?_
          refine pk_le (gg_y G r).length i (fun q => absurd q (by omega)) (fun _ => ?_)
          refine s_symbolAt (g6 t) hr' hi' ?_
          refine s_isNtN (by omega) (fun q => ?_) (fun q => ?_)
          · refine br_f (by decide) ?_
            refine s_isEmptyBut (g6 t) hr' (d6 t) hbd (fun he => ?_) (fun he => ?_)
            · refine br_f (by decide) ?_
              refine s_leftOf (g6 t) hr' ⟨vp_in_nI hl8 (by decide), vp_in_nI hl8 (by decide), ?_⟩
              rw [nI_clamp (by omega)]
              intro τ hτ
              have e : τ = gs_A σ 6 (upd t (gg_l G r) (t (gg_l G r) ||| ((1 : Int32) <<< (nI ((gg_y G r).getD i 0) &&& 31)))) := by
                rw [hτ, gs_AA]
                rfl
              rw [e]
              refine nm_r (nI_1 i) (ihm (i + 1) _ (by omega) (fun A hA x hx => ?_))
              have hpl : gg_pl G D r i (gg_l G r) ((gg_y G r).getD i 0) := ⟨hi', rfl, rfl, q, he⟩
              show gb (if A = gg_l G r then t (gg_l G r) ||| ((1 : Int32) <<< (nI ((gg_y G r).getD i 0) &&& 31)) else t A) x = true ↔ _
              have back : (gb (t A) x = true ∨ (A = gg_l G r ∧ x = (gg_y G r).getD i 0)) ↔ ∃ r' i', (r' < r ∨ (r' = r ∧ i' < i + 1)) ∧ gg_pl G D r' i' A x := by
                rw [ht A hA x hx]
                constructor
                · rintro (⟨r', i', z | ⟨z1, z2⟩, hp⟩ | ⟨z1, z2⟩)
                  · exact ⟨r', i', Or.inl z, hp⟩
                  · exact ⟨r', i', Or.inr ⟨z1, by omega⟩, hp⟩
                  · rw [z1, z2]
                    exact ⟨r, i, Or.inr ⟨rfl, by omega⟩, hpl⟩
                · rintro ⟨r', i', z | ⟨z1, z2⟩, hp⟩
                  · exact Or.inl ⟨r', i', Or.inl z, hp⟩
                  · by_cases e : i' = i
                    · rw [z1, e] at hp
                      exact Or.inr ⟨hp.2.1.symm, hp.2.2.1.symm⟩
                    · exact Or.inl ⟨r', i', Or.inr ⟨z1, by omega⟩, hp⟩
              rw [← back]
              by_cases eA : A = gg_l G r
              · rw [if_pos eA, gb_or, gb_one _ q x hx, Bool.or_eq_true, decide_eq_true_iff, eA]
                exact or_congr Iff.rfl ⟨fun z => ⟨rfl, z⟩, fun z => z.2⟩
              · rw [if_neg eA]
                exact ⟨Or.inl, fun z => z.elim id (fun y => absurd y.1 eA)⟩
            · exact br_t rfl (nm_r (nI_1 i) (ihm (i + 1) t (by omega) (nolead (fun A x hp => he hp.2.2.2.2))))
          · exact br_t rfl (nm_r (nI_1 i) (ihm (i + 1) t (by omega) (nolead (fun A x hp => by
              have h1 := hp.2.2.1
              have h2 := hp.2.2.2.1
              omega))))
      refine inner (gg_y G r).length 0 t (by omega) (fun A hA x hx => ?_)
      rw [ht A hA x hx]
      constructor
      · rintro ⟨r', i', z, hp⟩
        exact ⟨r', i', Or.inl z, hp⟩
      · rintro ⟨r', i', z | ⟨z1, z2⟩, hp⟩
        · exact ⟨r', i', z, hp⟩
        · exact absurd z2 (Nat.not_lt_zero _)
  refine s_fill10 (fun τ hτ => ?_)
  subst hτ
  refine outer G.length 0 _ (by omega) (fun A hA x hx => ?_)
  show gb (if A < 8 then (0 : Int32) else σ.2.1 6 A) x = true ↔ _
  rw [if_pos hA, gb_0]
  exact ⟨fun z => absurd z Bool.false_ne_true, fun ⟨_, _, hj, _⟩ => absurd hj (Nat.not_lt_zero _)⟩
end L2E
end
section
/-! Layer 2, part f: counts, by rules that are kept. Sums and products of longs. -/
/-- over the kept rules of A below r -/
def gc_pt (T : Nat → Nat → Nat) (G : gg_R) (kp : Nat → Bool) (A n : Nat) : Nat → Nat
  | 0 => 0
  | r + 1 => gc_pt T G kp A n r + (if kp r = true ∧ gg_l G r = A then gc_E T (gg_y G r) n else 0)
def gc_okk (em : Nat → Prop) (G : gg_R) (kp : Nat → Bool) (T : Nat → Nat → Nat) (N : Nat) : Prop :=
  (∀ A n, A < 8 → n < N → T A n = gc_cap (gc_pt T G kp A n G.length)) ∧ ∀ A, A < 8 → ¬ em A → 0 < N → T A 0 = 0
theorem gg_pl_of {G : gg_R} {D : Nat → Option Nat} {r A x : Nat} {l1 l2 : List Nat} (hl : gg_l G r = A) (hz : (gg_y G r).length ≤ 6) (e : gg_y G r = l1 ++ x :: l2) (hx : x < 8) (h : ∀ y, y ∈ l1 ++ l2 → y < 8 ∧ D y = some 0) : gg_pl G D r l1.length A x := by
  have hlen : (gg_y G r).length = l1.length + (l2.length + 1) := by rw [e, List.length_append]; rfl
  refine ⟨by omega, hl, ?_, hx, fun j hj hne => ?_⟩
  · rw [e, List.getD_eq_getElem?_getD, List.getElem?_append_right (Nat.le_refl _), Nat.sub_self]
    rfl
  · have hji : j ≠ l1.length := fun q => hne (by rw [q])
    refine h _ ?_
    rw [e, List.getD_eq_getElem?_getD]
    rcases Nat.lt_or_ge j l1.length with q | q
    · rw [List.getElem?_append_left q, List.getElem?_eq_getElem q]
      exact List.mem_append_left _ (List.getElem_mem q)
    · rw [List.getElem?_append_right q]
      have hq : j - l1.length = (j - l1.length - 1) + 1 := by omega
      rw [hq, List.getElem?_cons_succ]
      have hb : j - l1.length - 1 < l2.length := by omega
      rw [List.getElem?_eq_getElem hb]
      exact List.mem_append_right _ (List.getElem_mem hb)
/-- one rule's count is the same for two tables that are alike where A's rules look -/
theorem gc_E_same {G : gg_R} {D : Nat → Option Nat} {T T' : Nat → Nat → Nat} {n A r : Nat} (hG : gg_ok G) (hr : r < G.length) (hl : gg_l G r = A) (ha : ∀ x p, x < 8 → p < n → T x p = T' x p) (hb : ∀ x, x < 8 → ¬ D x = some 0 → T x 0 = 0 ∧ T' x 0 = 0) (hc : ∀ x, x < 8 → gg_to G D A x → T x n = T' x n) : gc_E T (gg_y G r) n = gc_E T' (gg_y G r) n :=
  gc_E_congr (em := fun y => D y = some 0) ha hb _ (fun l1 x l2 e hx hall => hc x hx ⟨r, l1.length, hr, gg_pl_of hl (hG.2 r hr).2.1 e hx hall⟩)
theorem gc_pt_same {G : gg_R} {D : Nat → Option Nat} {kp : Nat → Bool} {T T' : Nat → Nat → Nat} {n A : Nat} (hG : gg_ok G) (ha : ∀ x p, x < 8 → p < n → T x p = T' x p) (hb : ∀ x, x < 8 → ¬ D x = some 0 → T x 0 = 0 ∧ T' x 0 = 0) (hc : ∀ x, x < 8 → gg_to G D A x → T x n = T' x n) : ∀ r, r ≤ G.length → gc_pt T G kp A n r = gc_pt T' G kp A n r
  | 0, _ => rfl
  | r + 1, h => by
    show gc_pt T G kp A n r + (if kp r = true ∧ gg_l G r = A then gc_E T (gg_y G r) n else 0) = gc_pt T' G kp A n r + (if kp r = true ∧ gg_l G r = A then gc_E T' (gg_y G r) n else 0)
    rw [gc_pt_same hG ha hb hc r (by omega)]
    split
    · rename_i q
      rw [gc_E_same hG (by omega) q.2 ha hb hc]
    · rfl
/-- one table only -/
theorem gc_onek {G : gg_R} {D : Nat → Option Nat} {kp : Nat → Bool} {T T' : Nat → Nat → Nat} {N N' : Nat} (hG : gg_ok G) (rk : Nat → Nat) (hrk : ∀ A x, A < 8 → x < 8 → gg_to G D A x → rk x < rk A) (h : gc_okk (fun y => D y = some 0) G kp T N) (h' : gc_okk (fun y => D y = some 0) G kp T' N') : ∀ n, n < N → n < N' → ∀ A, A < 8 → T A n = T' A n := by
  intro n
  induction n using Nat.strongRecOn with
  | _ n ihn =>
    intro hn hn'
    have key : ∀ (k A : Nat), A < 8 → rk A < k → T A n = T' A n := by
      intro k
      induction k with
      | zero => exact fun A _ hk => absurd hk (Nat.not_lt_zero _)
      | succ k ih =>
        intro A hA hk
        rw [h.1 A n hA hn, h'.1 A n hA hn', gc_pt_same (D := D) hG (fun x p hx hp => ihn p hp (by omega) (by omega) x hx) (fun x hx he => ⟨h.2 x hx he (by omega), h'.2 x hx he (by omega)⟩) (fun x hx hl => ih x hx (by have := hrk A x hA hx hl; omega)) _ (Nat.le_refl _)]
    exact fun A hA => key (rk A + 1) A hA (Nat.lt_succ_self _)
theorem gc_cap_add2 (a b : Nat) : gc_cap (gc_cap a + gc_cap b) = gc_cap (a + b) := by
  rw [gc_cap_add, Nat.add_comm, gc_cap_add, Nat.add_comm]
theorem gc_E_le (T : Nat → Nat → Nat) (ys : List Nat) (n : Nat) : gc_E T ys n ≤ 1000000000000000001 := by
  induction ys generalizing n with
  | nil =>
    show (if n = 0 then 1 else 0) ≤ _
    split <;> omega
  | cons x xs ih =>
    by_cases hx : x < 8
    · rw [gc_E_nt hx]
      exact gc_cap_le _
    · rw [gc_E_t hx]
      split
      · omega
      · exact ih _
theorem gl_18 : (1000000000000000000 : Int64) = lN 1000000000000000000 := rfl
theorem gl_19 : (1000000000000000001 : Int64) = lN 1000000000000000001 := rfl
section L2F
variable {σ : gs_St}
theorem s_plus {a b : Nat} {K : Int64 → gs_St → Prop} (ha : a ≤ 1000000000000000001) (hb : b ≤ 1000000000000000001) (k : K (lN (gc_cap (a + b))) σ) : C_Co_plus (lN a) (lN b) σ K := by
  have e : (if (1000000000000000001 : Int64) < (lN a + lN b) then (1000000000000000001 : Int64) else (lN a + lN b)) = lN (gc_cap (a + b)) := by
    rw [lN_add, gl_19]
    have hiff : lN 1000000000000000001 < lN (a + b) ↔ 1000000000000000001 < a + b := pk_lLT (by omega) (by omega)
    unfold gc_cap
    by_cases q : a + b ≤ 1000000000000000000
    · rw [if_neg (fun z => by have := hiff.mp z; omega), if_pos q]
    · rw [if_neg q]
      by_cases z : 1000000000000000001 < a + b
      · rw [if_pos (hiff.mpr z)]
      · rw [if_neg (fun y => z (hiff.mp y)), show a + b = 1000000000000000001 by omega]
  show K (if (1000000000000000001 : Int64) < (lN a + lN b) then (1000000000000000001 : Int64) else (lN a + lN b)) σ
  rw [e]
  exact k
theorem s_times {a b : Nat} {K : Int64 → gs_St → Prop} (ha : a ≤ 1000000000000000001) (hb : b ≤ 1000000000000000001) (k : K (lN (gc_cap (a * b))) σ) : C_Co_times (lN a) (lN b) σ K := by
  have hz : (lN b = (0 : Int64)) ↔ b = 0 := pk_lEQ (a := b) (b := 0) (by omega) (by decide)
  unfold C_Co_times
  rw [hz]
  refine ⟨fun hb0 => ⟨hb0, ?_⟩, fun hb0 => ?_⟩
  · rw [gl_18, pk_lDiv (by omega) (by omega) (by omega)]
    have hd : 1000000000000000000 / b ≤ 1000000000000000000 := Nat.div_le_self _ _
    have hm := Nat.le_div_iff_mul_le (x := a) (y := 1000000000000000000) (show 0 < b by omega)
    rw [pk_lLE (by omega) (by omega)]
    refine ⟨fun q => ?_, fun q => ?_⟩
    · have hq := hm.mp q
      rw [lN_mul]
      unfold gc_cap at k
      rw [if_pos hq] at k
      exact k
    · have hq : ¬ a * b ≤ 1000000000000000000 := fun z => q (hm.mpr z)
      unfold gc_cap at k
      rw [if_neg hq] at k
      exact k
  · have hb0 : b = 0 := Classical.byContradiction hb0
    subst hb0
    rw [Nat.mul_zero] at k
    exact k
/-- the place of an ending -/
def ge_at (r i p : Nat) : Nat := (r * 7 + i) * 17 + p
theorem ge_at_e (r i : Nat) : (nI r * (7 : Int32) + nI i) * (17 : Int32) = nI ((r * 7 + i) * 17) := by
  rw [show (7 : Int32) = nI 7 from rfl, show (17 : Int32) = nI 17 from rfl, pk_mul, nI_add, pk_mul]
theorem gt_at_e (A p : Nat) : nI A * (17 : Int32) + nI p = nI (A * 17 + p) := by
  rw [show (17 : Int32) = nI 17 from rfl, pk_mul, nI_add]
theorem gv_m1 (c : Nat) : nI c + (-1) = nI c - 1 := by
  cases c with
  | zero => decide
  | succ c => rw [pk_m1, nI_pred]
end L2F
end
section
theorem gs_LL (σ : gs_St) (k : Nat) (f g : Nat → Int64) : gs_L (gs_L σ k f) k g = gs_L σ k g := by
  refine Prod.ext rfl (Prod.ext rfl (funext fun j => ?_))
  show (if j = k then g else (if j = k then f else σ.2.2 j)) = (if j = k then g else σ.2.2 j)
  split <;> rfl
theorem gs_Lid (σ : gs_St) (k : Nat) : gs_L σ k (σ.2.2 k) = σ := by
  refine Prod.ext rfl (Prod.ext rfl (funext fun j => ?_))
  show (if j = k then σ.2.2 k else σ.2.2 j) = σ.2.2 j
  split
  · rename_i e
    rw [e]
  · rfl
/-! Layer 2, part g: the class's Counts (instance all) -/
section L2G
variable {G : gg_R} {σ : gs_St} {D : Nat → Option Nat}
/-- the table of trees, up to the length N -/
def gt_at (T : Nat → Nat → Nat) (N : Nat) (σ : gs_St) : Prop := ∀ A, A < 8 → ∀ p, p < N → σ.2.2 0 (A * 17 + p) = lN (T A p)
/-- the table of endings, of the rules that kp keeps, up to the length N -/
def gE_at (T : Nat → Nat → Nat) (r N : Nat) (ys : List Nat) (σ : gs_St) : Prop := ∀ i, i ≤ ys.length → ∀ p, p < N → σ.2.2 1 (ge_at r i p) = lN (gc_E T (ys.drop i) p)
theorem s_pairs {T : Nat → Nat → Nat} {ys : List Nat} {s r i n : Nat} {K : Int64 → gs_St → Prop} (hs : s < 8) (hr : r < 24) (hi : i < 7) (hn : n ≤ 16) (hT : gt_at T (n + 1) σ) (hTb : ∀ A p, T A p ≤ 1000000000000000001) (hE : ∀ p, p ≤ n → σ.2.2 1 (ge_at r i p) = lN (gc_E T ys p))
    (k : K (lN (gc_cap (gc_sum (fun p => T s p * gc_E T ys (n - p)) (n + 1)))) σ) : C_Co_pairs (nI (s * 17)) (nI (ge_at r i n)) (nI n) σ K := by
  intro X6 h6
  have key : ∀ (m p : Nat), p + m = n + 1 → X6 (nI (s * 17)) (nI (ge_at r i n)) (nI n) (lN (gc_cap (gc_sum (fun p => T s p * gc_E T ys (n - p)) p))) (nI p) σ := by
    intro m
    induction m with
    | zero =>
      intro p hp
      have hp : p = n + 1 := hp
      subst hp
      apply h6
      exact pk_lt n (n + 1) (fun _ => k) (fun q => absurd q (by omega))
    | succ m ih =>
      intro p hp
      apply h6
      refine pk_lt n p (fun q => absurd q (by omega)) (fun _ => ?_)
      have e1 : nI (s * 17) + nI p = nI (s * 17 + p) := nI_add _ _
      have e2 : nI (ge_at r i n) - nI p = nI (ge_at r i (n - p)) := by
        rw [pk_sub (by unfold ge_at; omega)]
        congr 1
        unfold ge_at
        omega
      rw [e1]
      refine ⟨vp_in_nI (by omega) (by decide), ?_⟩
      rw [nI_clamp (by omega), hT s hs p (by omega)]
      have hTp := hTb s p
      have hnx : gc_cap (gc_sum (fun p => T s p * gc_E T ys (n - p)) (p + 1)) = gc_cap (gc_cap (gc_sum (fun p => T s p * gc_E T ys (n - p)) p) + gc_cap (T s p * gc_E T ys (n - p))) := (gc_cap_add2 _ _).symm
      refine nm_e (ek_if (pk_lEQ (a := T s p) (b := 0) (by omega) (by decide)) (fun q => ?_) (fun q => ?_))
      · have hz : gc_cap (gc_sum (fun p => T s p * gc_E T ys (n - p)) (p + 1)) = gc_cap (gc_sum (fun p => T s p * gc_E T ys (n - p)) p) := by
          rw [hnx, q, Nat.zero_mul, gc_cap_zero, Nat.add_zero, gc_cap_cap]
        rw [← hz]
        exact nm_r (nI_1 p) (ih (p + 1) (by omega))
      · rw [e2]
        have hlt : ge_at r i (n - p) < 2856 := by unfold ge_at; omega
        refine ⟨vp_in_nI hlt (by decide), ?_⟩
        rw [nI_clamp (by omega), hE (n - p) (by omega)]
        refine s_times hTp (gc_E_le _ _ _) ?_
        refine s_plus (gc_cap_le _) (gc_cap_le _) ?_
        rw [← hnx]
        exact nm_r (nI_1 p) (ih (p + 1) (by omega))
  exact key (n + 1) 0 (by omega)
theorem s_fillEndings {T : Nat → Nat → Nat} {r n : Nat} {K : gs_St → Prop} (h : gr_at G σ) (hr : r < G.length) (hn : n ≤ 16) (hT : gt_at T (n + 1) σ) (hTb : ∀ A p, T A p ≤ 1000000000000000001) (hE : gE_at T r n (gg_y G r) σ)
    (kk : ∀ e : Nat → Int64, (∀ i, i ≤ (gg_y G r).length → e (ge_at r i n) = lN (gc_E T ((gg_y G r).drop i) n)) → (∀ j, (∀ i, i ≤ (gg_y G r).length → j ≠ ge_at r i n) → e j = σ.2.2 1 j) → K (gs_L σ 1 e)) : C_Co_fillEndings (nI r) (nI n) σ K := by
  intro X35 h35
  have hG := h.1.1
  obtain ⟨hl8, hz, h24⟩ := h.1.2 r hr
  have gL : ∀ e, gr_at G (gs_L σ 1 e) := fun e => h.of rfl rfl rfl rfl
  have tL : ∀ e, gt_at T (n + 1) (gs_L σ 1 e) := fun e => hT
  have inj : ∀ i i' p p', p ≤ 16 → p' ≤ 16 → ge_at r i p = ge_at r i' p' → i = i' ∧ p = p' := fun i i' p p' hp hp' e => by
    unfold ge_at at e
    omega
  have key : ∀ (c : Nat) (e : Nat → Int64), c ≤ (gg_y G r).length → (∀ i, c ≤ i → i ≤ (gg_y G r).length → e (ge_at r i n) = lN (gc_E T ((gg_y G r).drop i) n)) → (∀ j, (∀ i, i ≤ (gg_y G r).length → j ≠ ge_at r i n) → e j = σ.2.2 1 j) → X35 (nI r) (nI n) (nI c - 1) (gs_L σ 1 e) := by
    intro c
    induction c with
    | zero =>
      intro e hc he1 he2
      apply h35
      exact br_t (by decide) (kk e (fun i hi => he1 i (Nat.zero_le _) hi) he2)
    | succ c ih =>
      intro e hc he1 he2
      have hc' : c < (gg_y G r).length := by omega
      have h24c := h24 c hc'
      rw [nI_pred]
      -- what is stored, and the step
      have step : ∀ v : Int64, v = lN (gc_E T ((gg_y G r).drop c) n) → ∀ τ : gs_St, τ = gs_L (gs_L σ 1 e) 1 (vp_updL e (ge_at r c n) v) → X35 (nI r) (nI n) (nI c - 1) τ := by
        intro v hv τ hτ
        have e1 : τ = gs_L σ 1 (vp_updL e (ge_at r c n) v) := by rw [hτ, gs_LL]
        rw [e1]
        refine ih _ (by omega) (fun i hi hi2 => ?_) (fun j hj => ?_)
        · show (if ge_at r i n = ge_at r c n then v else e (ge_at r i n)) = _
          by_cases q : i = c
          · rw [q, if_pos rfl, hv]
          · rw [if_neg (fun z => q (inj i c n n hn hn z).1)]
            exact he1 i (by omega) hi2
        · show (if j = ge_at r c n then v else e j) = _
          rw [if_neg (hj c (by omega))]
          exact he2 j hj
      have old : ∀ i, i ≤ (gg_y G r).length → ∀ p, p < n → e (ge_at r i p) = lN (gc_E T ((gg_y G r).drop i) p) := fun i hi p hp => by
        rw [he2 _ (fun i' hi' z => by have := (inj i i' p n (by omega) hn z).2; omega)]
        exact hE i hi p hp
      have hdrop := gg_drop hc'
      have hat : nI ((r * 7 + c) * 17) + nI n = nI (ge_at r c n) := nI_add _ _
      have hlt : ge_at r c n < 2856 := by unfold ge_at; omega
      apply h35
      refine br_f (nI_pos (by omega)) ?_
      refine s_symbolAt (gL e) hr hc' ?_
      show C_Co_endingsAt (nI r) (nI c + 1) _ _
      rw [nI_1]
      show ∀ v13 : Int32, v13 = (nI r * (7 : Int32) + nI (c + 1)) * (17 : Int32) + nI n → _
      rw [ge_at_e]
      have hat1 : nI ((r * 7 + (c + 1)) * 17) + nI n = nI (ge_at r (c + 1) n) := nI_add _ _
      refine nm_r hat1 ?_
      refine s_isNtN (by omega) (fun q => ?_) (fun q => ?_)
      · refine br_f (by decide) ?_
        have e17 : nI ((gg_y G r).getD c 0) * (17 : Int32) = nI ((gg_y G r).getD c 0 * 17) := by rw [show (17 : Int32) = nI 17 from rfl, pk_mul]
        rw [e17]
        refine s_pairs (T := T) (ys := (gg_y G r).drop (c + 1)) q (by omega) (by omega) hn (tL e) hTb (fun p hp => ?_) ?_
        · show e (ge_at r (c + 1) p) = _
          by_cases z : p = n
          · rw [z]
            exact he1 (c + 1) (by omega) (by omega)
          · exact old (c + 1) (by omega) p (by omega)
        · show vp_in ((nI r * (7 : Int32) + nI c) * (17 : Int32) + nI n) 2856 ∧ _
          rw [ge_at_e, hat]
          refine ⟨vp_in_nI hlt (by decide), ?_⟩
          rw [nI_clamp (by omega)]
          intro τ hτ
          rw [gv_m1]
          refine nm_e (step _ ?_ τ hτ)
          rw [hdrop, gc_E_nt q]
      · refine br_t rfl ?_
        refine ⟨fun hn0 => ?_, fun hn0 => ?_⟩
        · have hn0 : n = 0 := Classical.byContradiction (fun z => absurd hn0 (nI_nle (by omega) (by omega)))
          show vp_in ((nI r * (7 : Int32) + nI c) * (17 : Int32) + nI n) 2856 ∧ _
          rw [ge_at_e, hat]
          refine ⟨vp_in_nI hlt (by decide), ?_⟩
          rw [nI_clamp (by omega)]
          intro τ hτ
          rw [gv_m1]
          refine nm_e (step 0 ?_ τ hτ)
          rw [hdrop, gc_E_t (by omega), if_pos hn0]
          rfl
        · have hn0 : 0 < n := Classical.byContradiction (fun z => hn0 (by rw [show n = 0 by omega]; decide))
          have hm1 : nI (ge_at r (c + 1) n) - (1 : Int32) = nI (ge_at r (c + 1) (n - 1)) := by
            rw [show ge_at r (c + 1) n = ge_at r (c + 1) (n - 1) + 1 by unfold ge_at; omega, nI_pred]
          have hlt1 : ge_at r (c + 1) (n - 1) < 2856 := by unfold ge_at; omega
          rw [hm1]
          refine ⟨vp_in_nI hlt1 (by decide), ?_⟩
          rw [nI_clamp (by omega)]
          refine nm_e ?_
          show vp_in ((nI r * (7 : Int32) + nI c) * (17 : Int32) + nI n) 2856 ∧ _
          rw [ge_at_e, hat]
          refine ⟨vp_in_nI hlt (by decide), ?_⟩
          rw [nI_clamp (by omega)]
          intro τ hτ
          rw [gv_m1]
          refine nm_e (step _ ?_ τ hτ)
          show e (ge_at r (c + 1) (n - 1)) = _
          rw [old (c + 1) (by omega) (n - 1) (by omega), hdrop, gc_E_t (by omega), if_neg (by omega)]
  refine s_sizeOf h hr ?_
  show (¬ nI n = 0 → vp_in ((nI r * (7 : Int32) + nI (gg_y G r).length) * (17 : Int32) + nI n) 2856 ∧ _) ∧ (¬ (¬ nI n = 0) → vp_in ((nI r * (7 : Int32) + nI (gg_y G r).length) * (17 : Int32) + nI n) 2856 ∧ _)
  have hat : nI ((r * 7 + (gg_y G r).length) * 17) + nI n = nI (ge_at r (gg_y G r).length n) := nI_add _ _
  have hlt : ge_at r (gg_y G r).length n < 2856 := by unfold ge_at; omega
  have hdl : (gg_y G r).drop (gg_y G r).length = [] := List.drop_eq_nil_iff.mpr (Nat.le_refl _)
  have first : ∀ v : Int64, v = lN (if n = 0 then 1 else 0) → ∀ τ : gs_St, τ = gs_L σ 1 (vp_updL (σ.2.2 1) (ge_at r (gg_y G r).length n) v) → X35 (nI r) (nI n) (nI (gg_y G r).length - 1) τ := by
    intro v hv τ hτ
    rw [hτ]
    refine key (gg_y G r).length _ (Nat.le_refl _) (fun i hi hi2 => ?_) (fun j hj => ?_)
    · have hi : i = (gg_y G r).length := by omega
      subst hi
      show (if ge_at r (gg_y G r).length n = ge_at r (gg_y G r).length n then v else _) = _
      rw [if_pos rfl, hdl, hv]
      rfl
    · show (if j = ge_at r (gg_y G r).length n then v else σ.2.2 1 j) = _
      rw [if_neg (hj _ (Nat.le_refl _))]
  rw [ge_at_e, hat, nI_clamp (by omega)]
  refine ⟨fun hn0 => ⟨vp_in_nI hlt (by decide), fun τ hτ => nm_e (first 0 ?_ τ hτ)⟩, fun hn0 => ⟨vp_in_nI hlt (by decide), fun τ hτ => nm_e (first 1 ?_ τ hτ)⟩⟩
  · rw [if_neg (fun z => hn0 (by rw [z]; rfl))]
    rfl
  · have hn0 : n = 0 := Classical.byContradiction (fun z => hn0 (nI_ne0 (by omega) (by omega)))
    rw [if_pos hn0]
    rfl
theorem s_addTrees {A n a b : Nat} {K : gs_St → Prop} (hA : A < 8) (hn : n ≤ 16) (ha : σ.2.2 0 (A * 17 + n) = lN a) (ha1 : a ≤ 1000000000000000001) (hb1 : b ≤ 1000000000000000001) (kk : ∀ τ : gs_St, τ = gs_L σ 0 (vp_updL (σ.2.2 0) (A * 17 + n) (lN (gc_cap (a + b)))) → K τ) : C_Co_addTrees (nI A) (nI n) (lN b) σ K := by
  have hv : vp_in (nI (A * 17 + n)) 136 := vp_in_nI (by omega) (by decide)
  refine nm_r (gt_at_e A n) ⟨hv, ?_⟩
  rw [nI_clamp (by omega), ha]
  exact s_plus ha1 hb1 ⟨hv, kk⟩
theorem s_endingsOf {r i n : Nat} {K : Int64 → gs_St → Prop} (hr : r < 24) (hi : i < 7) (hn : n ≤ 16) (k : K (σ.2.2 1 (ge_at r i n)) σ) : C_Co_endingsOf (nI r) (nI i) (nI n) σ K := by
  show vp_in ((nI r * (7 : Int32) + nI i) * (17 : Int32) + nI n) 2856 ∧ K (σ.2.2 1 ((nI r * (7 : Int32) + nI i) * (17 : Int32) + nI n).toNatClampNeg) σ
  have hat : nI ((r * 7 + i) * 17) + nI n = nI (ge_at r i n) := nI_add _ _
  have hlt : ge_at r i n < 2856 := by unfold ge_at; omega
  rw [ge_at_e, hat, nI_clamp (by omega)]
  exact ⟨vp_in_nI hlt (by decide), k⟩
end L2G
end
section
theorem gs_LLL (σ : gs_St) (k j : Nat) (hk : k ≠ j) (t e t' : Nat → Int64) : gs_L (gs_L (gs_L σ k t) j e) k t' = gs_L (gs_L σ k t') j e := by
  refine Prod.ext rfl (Prod.ext rfl (funext fun i => ?_))
  show (if i = k then t' else (if i = j then e else (if i = k then t else σ.2.2 i))) = (if i = j then e else (if i = k then t' else σ.2.2 i))
  by_cases h1 : i = k
  · rw [if_pos h1, if_neg (fun q => hk (h1.symm.trans q)), if_pos h1]
  · rw [if_neg h1, if_neg h1, if_neg h1]
theorem gc_pt_upto {T T' : Nat → Nat → Nat} {G : gg_R} {kp : Nat → Bool} {A n : Nat} (h : ∀ x p, x < 8 → p ≤ n → T x p = T' x p) : ∀ r, gc_pt T G kp A n r = gc_pt T' G kp A n r
  | 0 => rfl
  | r + 1 => by
    show gc_pt T G kp A n r + (if kp r = true ∧ gg_l G r = A then gc_E T (gg_y G r) n else 0) = gc_pt T' G kp A n r + (if kp r = true ∧ gg_l G r = A then gc_E T' (gg_y G r) n else 0)
    rw [gc_pt_upto h r, gc_E_upto _ n h]
/-- what is left of empty ones alone is empty -/
def gg_cl (G : gg_R) (D : Nat → Option Nat) : Prop := ∀ r, r < G.length → (∀ y, y ∈ gg_y G r → y < 8 ∧ D y = some 0) → D (gg_l G r) = some 0
theorem gc_pt_zero {T : Nat → Nat → Nat} {G : gg_R} {D : Nat → Option Nat} {kp : Nat → Bool} {A : Nat} (hcl : gg_cl G D) (hT : ∀ x, x < 8 → ¬ D x = some 0 → T x 0 = 0) (hA : ¬ D A = some 0) : ∀ r, r ≤ G.length → gc_pt T G kp A 0 r = 0
  | 0, _ => rfl
  | r + 1, h => by
    show gc_pt T G kp A 0 r + (if kp r = true ∧ gg_l G r = A then gc_E T (gg_y G r) 0 else 0) = 0
    rw [gc_pt_zero hcl hT hA r (by omega), Nat.zero_add]
    split
    · rename_i q
      refine Classical.byContradiction (fun z => hA ?_)
      rw [← q.2]
      refine hcl r (by omega) (fun y hy => ?_)
      obtain ⟨h1, h2⟩ := gc_E_zero _ z y hy
      exact ⟨h1, Classical.byContradiction (fun w => h2 (hT y h1 w))⟩
    · rfl
/-- the table while the rules below r of A are added up at the length n -/
def gc_tr (T : Nat → Nat → Nat) (G : gg_R) (kp : Nat → Bool) (A n r : Nat) : Nat → Nat → Nat := fun x p => if x = A ∧ p = n then gc_cap (gc_pt T G kp A n r) else T x p
theorem gc_tr_lt {T : Nat → Nat → Nat} {G : gg_R} {kp : Nat → Bool} {A n r x p : Nat} (h : p ≠ n) : gc_tr T G kp A n r x p = T x p := if_neg (fun q => h q.2)
theorem gc_tr_ne {T : Nat → Nat → Nat} {G : gg_R} {kp : Nat → Bool} {A n r x p : Nat} (h : x ≠ A) : gc_tr T G kp A n r x p = T x p := if_neg (fun q => h q.1)
theorem gc_tr_eq {T : Nat → Nat → Nat} {G : gg_R} {kp : Nat → Bool} {A n r : Nat} : gc_tr T G kp A n r A n = gc_cap (gc_pt T G kp A n r) := if_pos ⟨rfl, rfl⟩
theorem gc_tr_em {T : Nat → Nat → Nat} {G : gg_R} {D : Nat → Option Nat} {kp : Nat → Bool} {A n r : Nat} (hcl : gg_cl G D) (hT : ∀ x, x < 8 → ¬ D x = some 0 → T x 0 = 0) (hr : r ≤ G.length) : ∀ x, x < 8 → ¬ D x = some 0 → gc_tr T G kp A n r x 0 = 0 := fun x hx he => by
  unfold gc_tr
  split
  · rename_i q
    obtain ⟨q1, q2⟩ := q
    subst q1
    subst q2
    rw [gc_pt_zero hcl hT he r hr]
    rfl
  · exact hT x hx he
/-! Layer 2, part h: countLength, treesOf (instance all) -/
section L2H
variable {G : gg_R} {σ : gs_St} {D : Nat → Option Nat}
/-- counts are right below the length N -/
def cs_at (G : gg_R) (D : Nat → Option Nat) (kp : Nat → Bool) (T : Nat → Nat → Nat) (N : Nat) (σ : gs_St) : Prop := (∀ A p, T A p ≤ 1000000000000000001) ∧ gt_at T N σ ∧ gc_okk (fun y => D y = some 0) G kp T N ∧ ∀ r, r < G.length → kp r = true → gE_at T r N (gg_y G r) σ
theorem s_countLength {o : Nat → Nat} {kp : Nat → Bool} {T : Nat → Nat → Nat} {n : Nat} {K : gs_St → Prop} (h : gr_at G σ) (ho : gg_ord (gg_to G D) o 8) (hof : ∀ j, j < 8 → σ.2.1 7 j = nI (o j)) (hcl : gg_cl G D) (hn : n ≤ 16) (hkp : ∀ r, r < G.length → (kp r = true ↔ nI r ≠ σ.1 4)) (hc : cs_at G D kp T n σ)
    (kk : ∀ (T' : Nat → Nat → Nat) (t e : Nat → Int64), cs_at G D kp T' (n + 1) (gs_L (gs_L σ 0 t) 1 e) → K (gs_L (gs_L σ 0 t) 1 e)) : C_Co_countLength (nI n) σ K := by
  intro X2 X28 X46 X115 h2 h28 h46 h115
  have hG := h.1.1
  obtain ⟨hTb, hTt, hTk, hTE⟩ := hc
  have gS : ∀ t e, gr_at G (gs_L (gs_L σ 0 t) 1 e) := fun t e => h.of rfl rfl rfl rfl
  have inj : ∀ A A' p p', p ≤ 16 → p' ≤ 16 → A * 17 + p = A' * 17 + p' → A = A' ∧ p = p' := fun A A' p p' hp hp' e => by omega
  have gin : ∀ r r' i i' p p', i ≤ 6 → i' ≤ 6 → p ≤ 16 → p' ≤ 16 → ge_at r i p = ge_at r' i' p' → r = r' ∧ i = i' ∧ p = p' := fun r r' i i' p p' hi hi' hp hp' e => by
    unfold ge_at at e
    omega
  have lead : ∀ j, j < 8 → ∀ x, x < 8 → gg_to G D (o j) x → ∃ i, i < j ∧ o i = x := fun j hj x hx hl => ho.2.2 j hj x hx hl
  -- the endings anew
  have ph3 : ∀ (m r : Nat) (Tc : Nat → Nat → Nat) (t e : Nat → Int64), r + m = G.length → (∀ A p, Tc A p ≤ 1000000000000000001) → gt_at Tc (n + 1) (gs_L (gs_L σ 0 t) 1 e) → gc_okk (fun y => D y = some 0) G kp Tc (n + 1) → (∀ q, q < G.length → kp q = true → gE_at Tc q n (gg_y G q) (gs_L (gs_L σ 0 t) 1 e)) → (∀ q, q < r → kp q = true → gE_at Tc q (n + 1) (gg_y G q) (gs_L (gs_L σ 0 t) 1 e)) → X115 (nI n) (nI r) (gs_L (gs_L σ 0 t) 1 e) := by
    intro m
    induction m with
    | zero =>
      intro r Tc t e hr hb ht hk hE hE1
      have hr : r = G.length := hr
      subst hr
      apply h115
      exact pk_le G.length G.length (fun _ => kk Tc t e ⟨hb, ht, hk, hE1⟩) (fun q => absurd q (by omega)) h.2.1
    | succ m ih =>
      intro r Tc t e hr hb ht hk hE hE1
      have hr' : r < G.length := by omega
      obtain ⟨hl8, hz, h24⟩ := h.1.2 r hr'
      apply h115
      refine pk_le G.length r (fun q => absurd q (by omega)) (fun _ => ?_) h.2.1
      refine ⟨fun hx => nm_r (nI_1 r) (ih (r + 1) Tc t e (by omega) hb ht hk hE (fun q hq hkq => ?_)), fun hx => ?_⟩
      · by_cases eq : q = r
        · subst eq
          exact absurd hx ((hkp q hr').mp hkq)
        · exact hE1 q (by omega) hkq
      · have hkr : kp r = true := (hkp r hr').mpr hx
        refine s_fillEndings (T := Tc) (gS t e) hr' hn ht hb (hE r hr' hkr) (fun e2 he1 he2 => ?_)
        rw [gs_LL]
        have old : ∀ q, q < G.length → q ≠ r → ∀ i, i ≤ (gg_y G q).length → ∀ p, p ≤ 16 → e2 (ge_at q i p) = e (ge_at q i p) := fun q hq hne i hi p hp => by
          have hzq := (h.1.2 q hq).2.1
          exact he2 _ (fun i' hi' z => hne (gin q r i i' p n (by omega) (by omega) hp hn z).1)
        have oldr : ∀ i, i ≤ (gg_y G r).length → ∀ p, p < n → e2 (ge_at r i p) = e (ge_at r i p) := fun i hi p hp =>
          he2 _ (fun i' hi' z => by have := (gin r r i i' p n (by omega) (by omega) (by omega) hn z).2.2; omega)
        refine nm_r (nI_1 r) (ih (r + 1) Tc t e2 (by omega) hb ht hk (fun q hq hkq i hi p hp => ?_) (fun q hq hkq i hi p hp => ?_))
        · show e2 (ge_at q i p) = _
          by_cases eq : q = r
          · subst eq
            rw [oldr i hi p hp]
            exact hE q hq hkq i hi p hp
          · rw [old q hq eq i hi p (by omega)]
            exact hE q hq hkq i hi p hp
        · show e2 (ge_at q i p) = _
          by_cases eq : q = r
          · subst eq
            by_cases ep : p = n
            · subst ep
              exact he1 i hi
            · rw [oldr i hi p (by omega)]
              exact hE q hr' hkq i hi p (by omega)
          · rw [old q (by omega) eq i hi p (by omega)]
            exact hE1 q (by omega) hkq i hi p hp
  -- the nonterminals in their order
  have ph2 : ∀ (m j : Nat) (Tc : Nat → Nat → Nat) (t e : Nat → Int64), j + m = 8 → (∀ A p, Tc A p ≤ 1000000000000000001) → gt_at Tc (n + 1) (gs_L (gs_L σ 0 t) 1 e) → (∀ A p, p < n → Tc A p = T A p) → (∀ i, i < j → Tc (o i) n = gc_cap (gc_pt Tc G kp (o i) n G.length)) → (∀ i, j ≤ i → i < 8 → Tc (o i) n = 0) → (∀ x, x < 8 → ¬ D x = some 0 → Tc x 0 = 0) → (∀ q, q < G.length → kp q = true → gE_at Tc q n (gg_y G q) (gs_L (gs_L σ 0 t) 1 e)) → X28 (nI n) (nI j) (gs_L (gs_L σ 0 t) 1 e) := by
    intro m
    induction m with
    | zero =>
      intro j Tc t e hj hb ht hT hd h0 hem hE
      have hj : j = 8 := hj
      subst hj
      apply h28
      refine br_t (by decide) (ph3 G.length 0 Tc t e (by omega) hb ht ⟨fun A p hA hp => ?_, fun A hA he _ => hem A hA he⟩ hE (fun q hq => absurd hq (Nat.not_lt_zero _)))
      by_cases ep : p = n
      · subst ep
        obtain ⟨i, hi, ei⟩ := gg_ord_all ho (Nat.le_refl 8) A hA
        rw [← ei]
        exact hd i hi
      · rw [hT A p (by omega), hTk.1 A p hA (by omega)]
        exact congrArg gc_cap (gc_pt_upto (fun x q _ hq => (hT x q (by omega)).symm) _)
    | succ m ih =>
      intro j Tc t e hj hb ht hT hd h0 hem hE
      have hj8 : j < 8 := by omega
      have hA8 : o j < 8 := ho.1 j hj8
      apply h28
      refine pk_le 8 j (fun q => absurd q (by omega)) (fun _ => ⟨vp_in_nI hj8 (by decide), ?_⟩)
      rw [nI_clamp (by omega)]
      have eo : (gs_L (gs_L σ 0 t) 1 e).2.1 7 j = nI (o j) := hof j hj8
      rw [eo]
      have noself : ∀ x, x < 8 → gg_to G D (o j) x → x ≠ o j := fun x hx hl z => by
        obtain ⟨i, h1, h2⟩ := lead j hj8 x hx hl
        rw [z] at h2
        exact ho.2.1 i j h1 hj8 h2
      have same : ∀ r, r < G.length → gg_l G r = o j → ∀ q, q ≤ G.length → gc_E (gc_tr Tc G kp (o j) n q) (gg_y G r) n = gc_E Tc (gg_y G r) n := fun r hr hl q hq =>
        gc_E_same (D := D) h.1 hr hl (fun x p _ hp => gc_tr_lt (by omega)) (fun x hx he => ⟨gc_tr_em hcl hem hq x hx he, hem x hx he⟩) (fun x hx hto => gc_tr_ne (noself x hx hto))
      have inner : ∀ (m2 r : Nat) (t e : Nat → Int64), r + m2 = G.length → gt_at (gc_tr Tc G kp (o j) n r) (n + 1) (gs_L (gs_L σ 0 t) 1 e) → (∀ q, q < G.length → kp q = true → gE_at Tc q n (gg_y G q) (gs_L (gs_L σ 0 t) 1 e)) → X46 (nI n) (nI j) (nI (o j)) (nI r) (gs_L (gs_L σ 0 t) 1 e) := by
        intro m2
        induction m2 with
        | zero =>
          intro r t e hr ht hE
          have hr : r = G.length := hr
          subst hr
          apply h46
          refine pk_le G.length G.length (fun _ => nm_r (nI_1 j) ?_) (fun q => absurd q (by omega)) h.2.1
          refine ih (j + 1) (gc_tr Tc G kp (o j) n G.length) t e (by omega) (fun A p => ?_) ht (fun A p hp => ?_) (fun i hi => ?_) (fun i hi hi8 => ?_) (gc_tr_em hcl hem (Nat.le_refl _)) (fun q hq hkq i hi p hp => ?_)
          · unfold gc_tr
            split
            · exact gc_cap_le _
            · exact hb A p
          · rw [gc_tr_lt (by omega)]
            exact hT A p hp
          · have keep : gc_pt (gc_tr Tc G kp (o j) n G.length) G kp (o i) n G.length = gc_pt Tc G kp (o i) n G.length :=
              gc_pt_same (T := gc_tr Tc G kp (o j) n G.length) (T' := Tc) (D := D) (n := n) h.1 (fun x p _ hp => gc_tr_lt (by omega)) (fun x hx he => ⟨gc_tr_em hcl hem (Nat.le_refl _) x hx he, hem x hx he⟩) (fun x hx hto => gc_tr_ne (fun z => by
                obtain ⟨i', h1, h2⟩ := lead i (by omega) x hx hto
                rw [z] at h2
                exact ho.2.1 i' j (by omega) hj8 h2)) _ (Nat.le_refl _)
            rw [keep]
            by_cases ei : i = j
            · subst ei
              exact gc_tr_eq
            · rw [gc_tr_ne (fun z => ho.2.1 i j (by omega) hj8 z)]
              exact hd i (by omega)
          · rw [gc_tr_ne (fun z => ho.2.1 j i (by omega) hi8 z.symm)]
            exact h0 i (by omega) hi8
          · rw [hE q hq hkq i hi p hp]
            exact congrArg lN (gc_E_upto _ p (fun x p' _ hp' => (gc_tr_lt (by omega)).symm))
        | succ m2 ihm =>
          intro r t e hr ht hE
          have hr' : r < G.length := by omega
          obtain ⟨hl8, hz, h24⟩ := h.1.2 r hr'
          -- a rule that doesn't count
          have pass : ¬ (kp r = true ∧ gg_l G r = o j) → X46 (nI n) (nI j) (nI (o j)) (nI (r + 1)) (gs_L (gs_L σ 0 t) 1 e) := fun hno => ihm (r + 1) t e (by omega) (fun A hA p hp => by
            rw [ht A hA p hp]
            congr 1
            unfold gc_tr
            split
            · show gc_cap (gc_pt Tc G kp (o j) n r) = gc_cap (gc_pt Tc G kp (o j) n r + (if kp r = true ∧ gg_l G r = o j then gc_E Tc (gg_y G r) n else 0))
              rw [if_neg hno, Nat.add_zero]
            · rfl) hE
          apply h46
          refine pk_le G.length r (fun q => absurd q (by omega)) (fun _ => ?_) h.2.1
          refine ⟨fun hx => nm_r (nI_1 r) (pass (fun q => absurd hx ((hkp r hr').mp q.1))), fun hx => ?_⟩
          have hkr : kp r = true := (hkp r hr').mpr hx
          refine s_leftOf (gS t e) hr' ?_
          refine ek_if (not_congr (nI_eq (by omega) (by omega))) (fun hne => nm_r (nI_1 r) (pass (fun q => hne q.2))) (fun hne => ?_)
          have hl : gg_l G r = o j := Classical.byContradiction hne
          refine s_fillEndings (T := gc_tr Tc G kp (o j) n r) (gS t e) hr' hn ht (fun A p => ?_) (fun i hi p hp => ?_) (fun e2 he1 he2 => ?_)
          · unfold gc_tr
            split
            · exact gc_cap_le _
            · exact hb A p
          · rw [hE r hr' hkr i hi p hp]
            exact congrArg lN (gc_E_upto _ p (fun x p' _ hp' => (gc_tr_lt (by omega)).symm))
          · rw [gs_LL]
            refine s_endingsOf (i := 0) (by omega) (by decide) hn ?_
            have e0 : (gs_L (gs_L σ 0 t) 1 e2).2.2 1 (ge_at r 0 n) = lN (gc_E Tc (gg_y G r) n) := by
              show e2 (ge_at r 0 n) = _
              rw [he1 0 (Nat.zero_le _), ← same r hr' hl r (by omega)]
              rfl
            rw [e0]
            have ea : (gs_L (gs_L σ 0 t) 1 e2).2.2 0 (o j * 17 + n) = lN (gc_cap (gc_pt Tc G kp (o j) n r)) := by
              have := ht (o j) hA8 n (by omega)
              rw [gc_tr_eq] at this
              exact this
            refine s_addTrees hA8 hn ea (gc_cap_le _) (gc_E_le _ _ _) (fun τ hτ => ?_)
            rw [gs_LLL σ 0 1 (by decide)] at hτ
            rw [hτ]
            refine nm_r (nI_1 r) (ihm (r + 1) _ e2 (by omega) (fun A hA p hp => ?_) (fun q hq hkq i hi p hp => ?_))
            · show (if A * 17 + p = o j * 17 + n then lN (gc_cap (gc_cap (gc_pt Tc G kp (o j) n r) + gc_E Tc (gg_y G r) n)) else t (A * 17 + p)) = lN (gc_tr Tc G kp (o j) n (r + 1) A p)
              have hold := ht A hA p hp
              have hold : t (A * 17 + p) = lN (gc_tr Tc G kp (o j) n r A p) := hold
              rw [hold]
              unfold gc_tr
              by_cases q : A = o j ∧ p = n
              · obtain ⟨q1, q2⟩ := q
                subst q2
                rw [if_pos (by rw [q1]), if_pos ⟨q1, rfl⟩, gc_cap_add]
                show lN (gc_cap (gc_pt Tc G kp (o j) p r + gc_E Tc (gg_y G r) p)) = lN (gc_cap (gc_pt Tc G kp (o j) p r + (if kp r = true ∧ gg_l G r = o j then gc_E Tc (gg_y G r) p else 0)))
                rw [if_pos ⟨hkr, hl⟩]
              · rw [if_neg (fun z => q (inj A (o j) p n (by omega) hn z)), if_neg q, if_neg q]
            · show e2 (ge_at q i p) = _
              have hzq := (h.1.2 q hq).2.1
              rw [he2 _ (fun i' hi' z => by have := (gin q r i i' p n (by omega) (by omega) (by omega) hn z).2.2; omega)]
              exact hE q hq hkq i hi p hp
      refine inner G.length 0 t e (by omega) (fun A hA p hp => ?_) hE
      rw [ht A hA p hp]
      congr 1
      unfold gc_tr
      split
      · rename_i q
        rw [q.1, q.2, h0 j (Nat.le_refl _) hj8]
        rfl
      · rfl
  -- nought at first
  have ph1 : ∀ (m A : Nat) (t : Nat → Int64), A + m = 8 → (∀ B, B < A → t (B * 17 + n) = 0) → (∀ B p, p < n → t (B * 17 + p) = σ.2.2 0 (B * 17 + p)) → X2 (nI n) (nI A) (gs_L σ 0 t) := by
    intro m
    induction m with
    | zero =>
      intro A t hA h0 ht
      have hA : A = 8 := hA
      subst hA
      apply h2
      refine br_t (by decide) ?_
      have es : gs_L σ 0 t = gs_L (gs_L σ 0 t) 1 (σ.2.2 1) := (gs_Lid (gs_L σ 0 t) 1).symm
      rw [es]
      refine ph2 8 0 (fun A p => if p = n then 0 else T A p) t (σ.2.2 1) rfl (fun A p => ?_) (fun A hA p hp => ?_) (fun A p hp => if_neg (by omega)) (fun i hi => absurd hi (Nat.not_lt_zero _)) (fun i _ hi => if_pos rfl) (fun x hx he => ?_) (fun q hq hkq i hi p hp => ?_)
      · show (if p = n then 0 else T A p) ≤ _
        split
        · omega
        · exact hTb A p
      · show t (A * 17 + p) = lN (if p = n then 0 else T A p)
        split
        · rename_i q
          rw [q, h0 A hA]
          rfl
        · rw [ht A p (by omega)]
          exact hTt A hA p (by omega)
      · show (if 0 = n then 0 else T x 0) = 0
        split
        · rfl
        · exact hTk.2 x hx he (by omega)
      · show σ.2.2 1 (ge_at q i p) = _
        rw [hTE q hq hkq i hi p hp]
        exact congrArg lN (gc_E_upto _ p (fun x p' _ hp' => (if_neg (by omega)).symm))
    | succ m ih =>
      intro A t hA h0 ht
      apply h2
      refine pk_le 8 A (fun q => absurd q (by omega)) (fun _ => ?_)
      rw [gt_at_e]
      refine ⟨vp_in_nI (by omega) (by decide), ?_⟩
      rw [nI_clamp (by omega)]
      intro τ hτ
      have e : τ = gs_L σ 0 (vp_updL t (A * 17 + n) 0) := by
        rw [hτ, gs_LL]
        rfl
      rw [e]
      refine nm_r (nI_1 A) (ih (A + 1) _ (by omega) (fun B hB => ?_) (fun B p hp => ?_))
      · show (if B * 17 + n = A * 17 + n then (0 : Int64) else t (B * 17 + n)) = 0
        split
        · rfl
        · rename_i q
          exact h0 B (by omega)
      · show (if B * 17 + p = A * 17 + n then (0 : Int64) else t (B * 17 + p)) = _
        rw [if_neg (by omega)]
        exact ht B p hp
  have := ph1 8 0 (σ.2.2 0) rfl (fun B hB => absurd hB (Nat.not_lt_zero _)) (fun B p _ => rfl)
  rw [gs_Lid] at this
  exact this
/-- counts up to N, N in its field -/
theorem s_treesOf {o : Nat → Nat} {kp : Nat → Bool} {T : Nat → Nat → Nat} {N A n : Nat} {K : Int64 → gs_St → Prop} (h : gr_at G σ) (ho : gg_ord (gg_to G D) o 8) (hof : ∀ j, j < 8 → σ.2.1 7 j = nI (o j)) (hcl : gg_cl G D) (hA : A < 8) (hn : n ≤ 16) (hN : N ≤ 17) (hcn : σ.1 5 = nI N) (hkp : ∀ r, r < G.length → (kp r = true ↔ nI r ≠ σ.1 4)) (hc : cs_at G D kp T N σ)
    (kk : ∀ (T' : Nat → Nat → Nat) (N' : Nat) (t e : Nat → Int64), N ≤ N' → n < N' → N' ≤ 17 → cs_at G D kp T' N' (gs_I (gs_L (gs_L σ 0 t) 1 e) 5 (nI N')) → K (lN (T' A n)) (gs_I (gs_L (gs_L σ 0 t) 1 e) 5 (nI N'))) : C_Co_treesOf (nI A) (nI n) σ K := by
  intro X5 h5
  have idI : ∀ τ : gs_St, ∀ v, τ.1 5 = v → gs_I τ 5 v = τ := fun τ v hv => by
    refine Prod.ext (funext fun j => ?_) rfl
    show (if j = 5 then v else τ.1 j) = τ.1 j
    split
    · rename_i q
      rw [q, hv]
    · rfl
  have key : ∀ (m N' : Nat) (T' : Nat → Nat → Nat) (t e : Nat → Int64), n + 1 - N' = m → N ≤ N' → N' ≤ 17 → cs_at G D kp T' N' (gs_I (gs_L (gs_L σ 0 t) 1 e) 5 (nI N')) → X5 (nI A) (nI n) (nI N') (gs_I (gs_L (gs_L σ 0 t) 1 e) 5 (nI N')) := by
    intro m
    induction m with
    | zero =>
      intro N' T' t e hm h1 h2 hcs
      apply h5
      refine pk_lt n N' (fun q => ?_) (fun q => absurd q (by omega))
      rw [gt_at_e]
      refine ⟨vp_in_nI (by omega) (by decide), ?_⟩
      rw [nI_clamp (by omega), hcs.2.1 A hA n q]
      exact kk T' N' t e h1 q h2 hcs
    | succ m ih =>
      intro N' T' t e hm h1 h2 hcs
      apply h5
      refine pk_lt n N' (fun q => absurd q (by omega)) (fun q => ?_)
      refine s_countLength (G := G) (D := D) (o := o) (kp := kp) (T := T') (σ := gs_I (gs_L (gs_L σ 0 t) 1 e) 5 (nI N')) (h.of rfl rfl rfl rfl) ho hof hcl (by omega) hkp hcs (fun T2 t2 e2 hc2 => ?_)
      intro τ hτ
      have e1 : τ = gs_I (gs_L (gs_L σ 0 t2) 1 e2) 5 (nI (N' + 1)) := by
        rw [hτ]
        refine Prod.ext (funext fun j => ?_) (Prod.ext rfl (funext fun j => ?_))
        · show (if j = 5 then nI N' + 1 else (if j = 5 then nI N' else σ.1 j)) = (if j = 5 then nI (N' + 1) else σ.1 j)
          split
          · exact nI_1 N'
          · rfl
        · show (if j = 1 then e2 else (if j = 0 then t2 else (if j = 1 then e else (if j = 0 then t else σ.2.2 j)))) = (if j = 1 then e2 else (if j = 0 then t2 else σ.2.2 j))
          by_cases q1 : j = 1
          · simp only [if_pos q1]
          · by_cases q2 : j = 0
            · simp only [if_neg q1, if_pos q2]
            · simp only [if_neg q1, if_neg q2]
      rw [e1]
      exact nm_r (nI_1 N') (ih (N' + 1) T2 t2 e2 (by omega) (by omega) (by omega) hc2)
  rw [show (∀ v1 : Int32, v1 = σ.1 5 → X5 (nI A) (nI n) v1 σ) ↔ X5 (nI A) (nI n) (nI N) σ from ⟨fun z => z _ hcn.symm, fun z v hv => by rw [hv, hcn]; exact z⟩]
  have es : gs_I (gs_L (gs_L σ 0 (σ.2.2 0)) 1 ((gs_L σ 0 (σ.2.2 0)).2.2 1)) 5 (nI N) = σ := by rw [gs_Lid, gs_Lid, idI σ _ hcn]
  have := key (n + 1 - N) N T (σ.2.2 0) ((gs_L σ 0 (σ.2.2 0)).2.2 1) rfl (Nat.le_refl _) hN (by rw [es]; exact hc)
  rw [es] at this
  exact this
end L2H
end
section
/-! Layer 2, part gw: the class's Counts (instance without) -/
section L2Gw
variable {G : gg_R} {σ : gs_St} {D : Nat → Option Nat}
/-- the table of trees, up to the length N -/
def gt_atw (T : Nat → Nat → Nat) (N : Nat) (σ : gs_St) : Prop := ∀ A, A < 8 → ∀ p, p < N → σ.2.2 2 (A * 17 + p) = lN (T A p)
/-- the table of endings, of the rules that kp keeps, up to the length N -/
def gE_atw (T : Nat → Nat → Nat) (r N : Nat) (ys : List Nat) (σ : gs_St) : Prop := ∀ i, i ≤ ys.length → ∀ p, p < N → σ.2.2 3 (ge_at r i p) = lN (gc_E T (ys.drop i) p)
theorem s_pairsw {T : Nat → Nat → Nat} {ys : List Nat} {s r i n : Nat} {K : Int64 → gs_St → Prop} (hs : s < 8) (hr : r < 24) (hi : i < 7) (hn : n ≤ 16) (hT : gt_atw T (n + 1) σ) (hTb : ∀ A p, T A p ≤ 1000000000000000001) (hE : ∀ p, p ≤ n → σ.2.2 3 (ge_at r i p) = lN (gc_E T ys p))
    (k : K (lN (gc_cap (gc_sum (fun p => T s p * gc_E T ys (n - p)) (n + 1)))) σ) : C_Co_pairsw (nI (s * 17)) (nI (ge_at r i n)) (nI n) σ K := by
  intro X6 h6
  have key : ∀ (m p : Nat), p + m = n + 1 → X6 (nI (s * 17)) (nI (ge_at r i n)) (nI n) (lN (gc_cap (gc_sum (fun p => T s p * gc_E T ys (n - p)) p))) (nI p) σ := by
    intro m
    induction m with
    | zero =>
      intro p hp
      have hp : p = n + 1 := hp
      subst hp
      apply h6
      exact pk_lt n (n + 1) (fun _ => k) (fun q => absurd q (by omega))
    | succ m ih =>
      intro p hp
      apply h6
      refine pk_lt n p (fun q => absurd q (by omega)) (fun _ => ?_)
      have e1 : nI (s * 17) + nI p = nI (s * 17 + p) := nI_add _ _
      have e2 : nI (ge_at r i n) - nI p = nI (ge_at r i (n - p)) := by
        rw [pk_sub (by unfold ge_at; omega)]
        congr 1
        unfold ge_at
        omega
      rw [e1]
      refine ⟨vp_in_nI (by omega) (by decide), ?_⟩
      rw [nI_clamp (by omega), hT s hs p (by omega)]
      have hTp := hTb s p
      have hnx : gc_cap (gc_sum (fun p => T s p * gc_E T ys (n - p)) (p + 1)) = gc_cap (gc_cap (gc_sum (fun p => T s p * gc_E T ys (n - p)) p) + gc_cap (T s p * gc_E T ys (n - p))) := (gc_cap_add2 _ _).symm
      refine nm_e (ek_if (pk_lEQ (a := T s p) (b := 0) (by omega) (by decide)) (fun q => ?_) (fun q => ?_))
      · have hz : gc_cap (gc_sum (fun p => T s p * gc_E T ys (n - p)) (p + 1)) = gc_cap (gc_sum (fun p => T s p * gc_E T ys (n - p)) p) := by
          rw [hnx, q, Nat.zero_mul, gc_cap_zero, Nat.add_zero, gc_cap_cap]
        rw [← hz]
        exact nm_r (nI_1 p) (ih (p + 1) (by omega))
      · rw [e2]
        have hlt : ge_at r i (n - p) < 2856 := by unfold ge_at; omega
        refine ⟨vp_in_nI hlt (by decide), ?_⟩
        rw [nI_clamp (by omega), hE (n - p) (by omega)]
        refine s_times hTp (gc_E_le _ _ _) ?_
        refine s_plus (gc_cap_le _) (gc_cap_le _) ?_
        rw [← hnx]
        exact nm_r (nI_1 p) (ih (p + 1) (by omega))
  exact key (n + 1) 0 (by omega)
theorem s_fillEndingsw {T : Nat → Nat → Nat} {r n : Nat} {K : gs_St → Prop} (h : gr_at G σ) (hr : r < G.length) (hn : n ≤ 16) (hT : gt_atw T (n + 1) σ) (hTb : ∀ A p, T A p ≤ 1000000000000000001) (hE : gE_atw T r n (gg_y G r) σ)
    (kk : ∀ e : Nat → Int64, (∀ i, i ≤ (gg_y G r).length → e (ge_at r i n) = lN (gc_E T ((gg_y G r).drop i) n)) → (∀ j, (∀ i, i ≤ (gg_y G r).length → j ≠ ge_at r i n) → e j = σ.2.2 3 j) → K (gs_L σ 3 e)) : C_Co_fillEndingsw (nI r) (nI n) σ K := by
  intro X35 h35
  have hG := h.1.1
  obtain ⟨hl8, hz, h24⟩ := h.1.2 r hr
  have gL : ∀ e, gr_at G (gs_L σ 3 e) := fun e => h.of rfl rfl rfl rfl
  have tL : ∀ e, gt_atw T (n + 1) (gs_L σ 3 e) := fun e => hT
  have inj : ∀ i i' p p', p ≤ 16 → p' ≤ 16 → ge_at r i p = ge_at r i' p' → i = i' ∧ p = p' := fun i i' p p' hp hp' e => by
    unfold ge_at at e
    omega
  have key : ∀ (c : Nat) (e : Nat → Int64), c ≤ (gg_y G r).length → (∀ i, c ≤ i → i ≤ (gg_y G r).length → e (ge_at r i n) = lN (gc_E T ((gg_y G r).drop i) n)) → (∀ j, (∀ i, i ≤ (gg_y G r).length → j ≠ ge_at r i n) → e j = σ.2.2 3 j) → X35 (nI r) (nI n) (nI c - 1) (gs_L σ 3 e) := by
    intro c
    induction c with
    | zero =>
      intro e hc he1 he2
      apply h35
      exact br_t (by decide) (kk e (fun i hi => he1 i (Nat.zero_le _) hi) he2)
    | succ c ih =>
      intro e hc he1 he2
      have hc' : c < (gg_y G r).length := by omega
      have h24c := h24 c hc'
      rw [nI_pred]
      -- what is stored, and the step
      have step : ∀ v : Int64, v = lN (gc_E T ((gg_y G r).drop c) n) → ∀ τ : gs_St, τ = gs_L (gs_L σ 3 e) 3 (vp_updL e (ge_at r c n) v) → X35 (nI r) (nI n) (nI c - 1) τ := by
        intro v hv τ hτ
        have e1 : τ = gs_L σ 3 (vp_updL e (ge_at r c n) v) := by rw [hτ, gs_LL]
        rw [e1]
        refine ih _ (by omega) (fun i hi hi2 => ?_) (fun j hj => ?_)
        · show (if ge_at r i n = ge_at r c n then v else e (ge_at r i n)) = _
          by_cases q : i = c
          · rw [q, if_pos rfl, hv]
          · rw [if_neg (fun z => q (inj i c n n hn hn z).1)]
            exact he1 i (by omega) hi2
        · show (if j = ge_at r c n then v else e j) = _
          rw [if_neg (hj c (by omega))]
          exact he2 j hj
      have old : ∀ i, i ≤ (gg_y G r).length → ∀ p, p < n → e (ge_at r i p) = lN (gc_E T ((gg_y G r).drop i) p) := fun i hi p hp => by
        rw [he2 _ (fun i' hi' z => by have := (inj i i' p n (by omega) hn z).2; omega)]
        exact hE i hi p hp
      have hdrop := gg_drop hc'
      have hat : nI ((r * 7 + c) * 17) + nI n = nI (ge_at r c n) := nI_add _ _
      have hlt : ge_at r c n < 2856 := by unfold ge_at; omega
      apply h35
      refine br_f (nI_pos (by omega)) ?_
      refine s_symbolAt (gL e) hr hc' ?_
      show C_Co_endingsAt (nI r) (nI c + 1) _ _
      rw [nI_1]
      show ∀ v13 : Int32, v13 = (nI r * (7 : Int32) + nI (c + 1)) * (17 : Int32) + nI n → _
      rw [ge_at_e]
      have hat1 : nI ((r * 7 + (c + 1)) * 17) + nI n = nI (ge_at r (c + 1) n) := nI_add _ _
      refine nm_r hat1 ?_
      refine s_isNtN (by omega) (fun q => ?_) (fun q => ?_)
      · refine br_f (by decide) ?_
        have e17 : nI ((gg_y G r).getD c 0) * (17 : Int32) = nI ((gg_y G r).getD c 0 * 17) := by rw [show (17 : Int32) = nI 17 from rfl, pk_mul]
        rw [e17]
        refine s_pairsw (T := T) (ys := (gg_y G r).drop (c + 1)) q (by omega) (by omega) hn (tL e) hTb (fun p hp => ?_) ?_
        · show e (ge_at r (c + 1) p) = _
          by_cases z : p = n
          · rw [z]
            exact he1 (c + 1) (by omega) (by omega)
          · exact old (c + 1) (by omega) p (by omega)
        · show vp_in ((nI r * (7 : Int32) + nI c) * (17 : Int32) + nI n) 2856 ∧ _
          rw [ge_at_e, hat]
          refine ⟨vp_in_nI hlt (by decide), ?_⟩
          rw [nI_clamp (by omega)]
          intro τ hτ
          rw [gv_m1]
          refine nm_e (step _ ?_ τ hτ)
          rw [hdrop, gc_E_nt q]
      · refine br_t rfl ?_
        refine ⟨fun hn0 => ?_, fun hn0 => ?_⟩
        · have hn0 : n = 0 := Classical.byContradiction (fun z => absurd hn0 (nI_nle (by omega) (by omega)))
          show vp_in ((nI r * (7 : Int32) + nI c) * (17 : Int32) + nI n) 2856 ∧ _
          rw [ge_at_e, hat]
          refine ⟨vp_in_nI hlt (by decide), ?_⟩
          rw [nI_clamp (by omega)]
          intro τ hτ
          rw [gv_m1]
          refine nm_e (step 0 ?_ τ hτ)
          rw [hdrop, gc_E_t (by omega), if_pos hn0]
          rfl
        · have hn0 : 0 < n := Classical.byContradiction (fun z => hn0 (by rw [show n = 0 by omega]; decide))
          have hm1 : nI (ge_at r (c + 1) n) - (1 : Int32) = nI (ge_at r (c + 1) (n - 1)) := by
            rw [show ge_at r (c + 1) n = ge_at r (c + 1) (n - 1) + 1 by unfold ge_at; omega, nI_pred]
          have hlt1 : ge_at r (c + 1) (n - 1) < 2856 := by unfold ge_at; omega
          rw [hm1]
          refine ⟨vp_in_nI hlt1 (by decide), ?_⟩
          rw [nI_clamp (by omega)]
          refine nm_e ?_
          show vp_in ((nI r * (7 : Int32) + nI c) * (17 : Int32) + nI n) 2856 ∧ _
          rw [ge_at_e, hat]
          refine ⟨vp_in_nI hlt (by decide), ?_⟩
          rw [nI_clamp (by omega)]
          intro τ hτ
          rw [gv_m1]
          refine nm_e (step _ ?_ τ hτ)
          show e (ge_at r (c + 1) (n - 1)) = _
          rw [old (c + 1) (by omega) (n - 1) (by omega), hdrop, gc_E_t (by omega), if_neg (by omega)]
  refine s_sizeOf h hr ?_
  show (¬ nI n = 0 → vp_in ((nI r * (7 : Int32) + nI (gg_y G r).length) * (17 : Int32) + nI n) 2856 ∧ _) ∧ (¬ (¬ nI n = 0) → vp_in ((nI r * (7 : Int32) + nI (gg_y G r).length) * (17 : Int32) + nI n) 2856 ∧ _)
  have hat : nI ((r * 7 + (gg_y G r).length) * 17) + nI n = nI (ge_at r (gg_y G r).length n) := nI_add _ _
  have hlt : ge_at r (gg_y G r).length n < 2856 := by unfold ge_at; omega
  have hdl : (gg_y G r).drop (gg_y G r).length = [] := List.drop_eq_nil_iff.mpr (Nat.le_refl _)
  have first : ∀ v : Int64, v = lN (if n = 0 then 1 else 0) → ∀ τ : gs_St, τ = gs_L σ 3 (vp_updL (σ.2.2 3) (ge_at r (gg_y G r).length n) v) → X35 (nI r) (nI n) (nI (gg_y G r).length - 1) τ := by
    intro v hv τ hτ
    rw [hτ]
    refine key (gg_y G r).length _ (Nat.le_refl _) (fun i hi hi2 => ?_) (fun j hj => ?_)
    · have hi : i = (gg_y G r).length := by omega
      subst hi
      show (if ge_at r (gg_y G r).length n = ge_at r (gg_y G r).length n then v else _) = _
      rw [if_pos rfl, hdl, hv]
      rfl
    · show (if j = ge_at r (gg_y G r).length n then v else σ.2.2 3 j) = _
      rw [if_neg (hj _ (Nat.le_refl _))]
  rw [ge_at_e, hat, nI_clamp (by omega)]
  refine ⟨fun hn0 => ⟨vp_in_nI hlt (by decide), fun τ hτ => nm_e (first 0 ?_ τ hτ)⟩, fun hn0 => ⟨vp_in_nI hlt (by decide), fun τ hτ => nm_e (first 1 ?_ τ hτ)⟩⟩
  · rw [if_neg (fun z => hn0 (by rw [z]; rfl))]
    rfl
  · have hn0 : n = 0 := Classical.byContradiction (fun z => hn0 (nI_ne0 (by omega) (by omega)))
    rw [if_pos hn0]
    rfl
theorem s_addTreesw {A n a b : Nat} {K : gs_St → Prop} (hA : A < 8) (hn : n ≤ 16) (ha : σ.2.2 2 (A * 17 + n) = lN a) (ha1 : a ≤ 1000000000000000001) (hb1 : b ≤ 1000000000000000001) (kk : ∀ τ : gs_St, τ = gs_L σ 2 (vp_updL (σ.2.2 2) (A * 17 + n) (lN (gc_cap (a + b)))) → K τ) : C_Co_addTreesw (nI A) (nI n) (lN b) σ K := by
  have hv : vp_in (nI (A * 17 + n)) 136 := vp_in_nI (by omega) (by decide)
  refine nm_r (gt_at_e A n) ⟨hv, ?_⟩
  rw [nI_clamp (by omega), ha]
  exact s_plus ha1 hb1 ⟨hv, kk⟩
theorem s_endingsOfw {r i n : Nat} {K : Int64 → gs_St → Prop} (hr : r < 24) (hi : i < 7) (hn : n ≤ 16) (k : K (σ.2.2 3 (ge_at r i n)) σ) : C_Co_endingsOfw (nI r) (nI i) (nI n) σ K := by
  show vp_in ((nI r * (7 : Int32) + nI i) * (17 : Int32) + nI n) 2856 ∧ K (σ.2.2 3 ((nI r * (7 : Int32) + nI i) * (17 : Int32) + nI n).toNatClampNeg) σ
  have hat : nI ((r * 7 + i) * 17) + nI n = nI (ge_at r i n) := nI_add _ _
  have hlt : ge_at r i n < 2856 := by unfold ge_at; omega
  rw [ge_at_e, hat, nI_clamp (by omega)]
  exact ⟨vp_in_nI hlt (by decide), k⟩
end L2Gw
/-! Layer 2, part hw: countLength, treesOf (instance without) -/
section L2Hw
variable {G : gg_R} {σ : gs_St} {D : Nat → Option Nat}
/-- counts are right below the length N -/
def cs_atw (G : gg_R) (D : Nat → Option Nat) (kp : Nat → Bool) (T : Nat → Nat → Nat) (N : Nat) (σ : gs_St) : Prop := (∀ A p, T A p ≤ 1000000000000000001) ∧ gt_atw T N σ ∧ gc_okk (fun y => D y = some 0) G kp T N ∧ ∀ r, r < G.length → kp r = true → gE_atw T r N (gg_y G r) σ
theorem s_countLengthw {o : Nat → Nat} {kp : Nat → Bool} {T : Nat → Nat → Nat} {n : Nat} {K : gs_St → Prop} (h : gr_at G σ) (ho : gg_ord (gg_to G D) o 8) (hof : ∀ j, j < 8 → σ.2.1 7 j = nI (o j)) (hcl : gg_cl G D) (hn : n ≤ 16) (hkp : ∀ r, r < G.length → (kp r = true ↔ nI r ≠ σ.1 6)) (hc : cs_atw G D kp T n σ)
    (kk : ∀ (T' : Nat → Nat → Nat) (t e : Nat → Int64), cs_atw G D kp T' (n + 1) (gs_L (gs_L σ 2 t) 3 e) → K (gs_L (gs_L σ 2 t) 3 e)) : C_Co_countLengthw (nI n) σ K := by
  intro X2 X28 X46 X115 h2 h28 h46 h115
  have hG := h.1.1
  obtain ⟨hTb, hTt, hTk, hTE⟩ := hc
  have gS : ∀ t e, gr_at G (gs_L (gs_L σ 2 t) 3 e) := fun t e => h.of rfl rfl rfl rfl
  have inj : ∀ A A' p p', p ≤ 16 → p' ≤ 16 → A * 17 + p = A' * 17 + p' → A = A' ∧ p = p' := fun A A' p p' hp hp' e => by omega
  have gin : ∀ r r' i i' p p', i ≤ 6 → i' ≤ 6 → p ≤ 16 → p' ≤ 16 → ge_at r i p = ge_at r' i' p' → r = r' ∧ i = i' ∧ p = p' := fun r r' i i' p p' hi hi' hp hp' e => by
    unfold ge_at at e
    omega
  have lead : ∀ j, j < 8 → ∀ x, x < 8 → gg_to G D (o j) x → ∃ i, i < j ∧ o i = x := fun j hj x hx hl => ho.2.2 j hj x hx hl
  -- the endings anew
  have ph3 : ∀ (m r : Nat) (Tc : Nat → Nat → Nat) (t e : Nat → Int64), r + m = G.length → (∀ A p, Tc A p ≤ 1000000000000000001) → gt_atw Tc (n + 1) (gs_L (gs_L σ 2 t) 3 e) → gc_okk (fun y => D y = some 0) G kp Tc (n + 1) → (∀ q, q < G.length → kp q = true → gE_atw Tc q n (gg_y G q) (gs_L (gs_L σ 2 t) 3 e)) → (∀ q, q < r → kp q = true → gE_atw Tc q (n + 1) (gg_y G q) (gs_L (gs_L σ 2 t) 3 e)) → X115 (nI n) (nI r) (gs_L (gs_L σ 2 t) 3 e) := by
    intro m
    induction m with
    | zero =>
      intro r Tc t e hr hb ht hk hE hE1
      have hr : r = G.length := hr
      subst hr
      apply h115
      exact pk_le G.length G.length (fun _ => kk Tc t e ⟨hb, ht, hk, hE1⟩) (fun q => absurd q (by omega)) h.2.1
    | succ m ih =>
      intro r Tc t e hr hb ht hk hE hE1
      have hr' : r < G.length := by omega
      obtain ⟨hl8, hz, h24⟩ := h.1.2 r hr'
      apply h115
      refine pk_le G.length r (fun q => absurd q (by omega)) (fun _ => ?_) h.2.1
      refine ⟨fun hx => nm_r (nI_1 r) (ih (r + 1) Tc t e (by omega) hb ht hk hE (fun q hq hkq => ?_)), fun hx => ?_⟩
      · by_cases eq : q = r
        · subst eq
          exact absurd hx ((hkp q hr').mp hkq)
        · exact hE1 q (by omega) hkq
      · have hkr : kp r = true := (hkp r hr').mpr hx
        refine s_fillEndingsw (T := Tc) (gS t e) hr' hn ht hb (hE r hr' hkr) (fun e2 he1 he2 => ?_)
        rw [gs_LL]
        have old : ∀ q, q < G.length → q ≠ r → ∀ i, i ≤ (gg_y G q).length → ∀ p, p ≤ 16 → e2 (ge_at q i p) = e (ge_at q i p) := fun q hq hne i hi p hp => by
          have hzq := (h.1.2 q hq).2.1
          exact he2 _ (fun i' hi' z => hne (gin q r i i' p n (by omega) (by omega) hp hn z).1)
        have oldr : ∀ i, i ≤ (gg_y G r).length → ∀ p, p < n → e2 (ge_at r i p) = e (ge_at r i p) := fun i hi p hp =>
          he2 _ (fun i' hi' z => by have := (gin r r i i' p n (by omega) (by omega) (by omega) hn z).2.2; omega)
        refine nm_r (nI_1 r) (ih (r + 1) Tc t e2 (by omega) hb ht hk (fun q hq hkq i hi p hp => ?_) (fun q hq hkq i hi p hp => ?_))
        · show e2 (ge_at q i p) = _
          by_cases eq : q = r
          · subst eq
            rw [oldr i hi p hp]
            exact hE q hq hkq i hi p hp
          · rw [old q hq eq i hi p (by omega)]
            exact hE q hq hkq i hi p hp
        · show e2 (ge_at q i p) = _
          by_cases eq : q = r
          · subst eq
            by_cases ep : p = n
            · subst ep
              exact he1 i hi
            · rw [oldr i hi p (by omega)]
              exact hE q hr' hkq i hi p (by omega)
          · rw [old q (by omega) eq i hi p (by omega)]
            exact hE1 q (by omega) hkq i hi p hp
  -- the nonterminals in their order
  have ph2 : ∀ (m j : Nat) (Tc : Nat → Nat → Nat) (t e : Nat → Int64), j + m = 8 → (∀ A p, Tc A p ≤ 1000000000000000001) → gt_atw Tc (n + 1) (gs_L (gs_L σ 2 t) 3 e) → (∀ A p, p < n → Tc A p = T A p) → (∀ i, i < j → Tc (o i) n = gc_cap (gc_pt Tc G kp (o i) n G.length)) → (∀ i, j ≤ i → i < 8 → Tc (o i) n = 0) → (∀ x, x < 8 → ¬ D x = some 0 → Tc x 0 = 0) → (∀ q, q < G.length → kp q = true → gE_atw Tc q n (gg_y G q) (gs_L (gs_L σ 2 t) 3 e)) → X28 (nI n) (nI j) (gs_L (gs_L σ 2 t) 3 e) := by
    intro m
    induction m with
    | zero =>
      intro j Tc t e hj hb ht hT hd h0 hem hE
      have hj : j = 8 := hj
      subst hj
      apply h28
      refine br_t (by decide) (ph3 G.length 0 Tc t e (by omega) hb ht ⟨fun A p hA hp => ?_, fun A hA he _ => hem A hA he⟩ hE (fun q hq => absurd hq (Nat.not_lt_zero _)))
      by_cases ep : p = n
      · subst ep
        obtain ⟨i, hi, ei⟩ := gg_ord_all ho (Nat.le_refl 8) A hA
        rw [← ei]
        exact hd i hi
      · rw [hT A p (by omega), hTk.1 A p hA (by omega)]
        exact congrArg gc_cap (gc_pt_upto (fun x q _ hq => (hT x q (by omega)).symm) _)
    | succ m ih =>
      intro j Tc t e hj hb ht hT hd h0 hem hE
      have hj8 : j < 8 := by omega
      have hA8 : o j < 8 := ho.1 j hj8
      apply h28
      refine pk_le 8 j (fun q => absurd q (by omega)) (fun _ => ⟨vp_in_nI hj8 (by decide), ?_⟩)
      rw [nI_clamp (by omega)]
      have eo : (gs_L (gs_L σ 2 t) 3 e).2.1 7 j = nI (o j) := hof j hj8
      rw [eo]
      have noself : ∀ x, x < 8 → gg_to G D (o j) x → x ≠ o j := fun x hx hl z => by
        obtain ⟨i, h1, h2⟩ := lead j hj8 x hx hl
        rw [z] at h2
        exact ho.2.1 i j h1 hj8 h2
      have same : ∀ r, r < G.length → gg_l G r = o j → ∀ q, q ≤ G.length → gc_E (gc_tr Tc G kp (o j) n q) (gg_y G r) n = gc_E Tc (gg_y G r) n := fun r hr hl q hq =>
        gc_E_same (D := D) h.1 hr hl (fun x p _ hp => gc_tr_lt (by omega)) (fun x hx he => ⟨gc_tr_em hcl hem hq x hx he, hem x hx he⟩) (fun x hx hto => gc_tr_ne (noself x hx hto))
      have inner : ∀ (m2 r : Nat) (t e : Nat → Int64), r + m2 = G.length → gt_atw (gc_tr Tc G kp (o j) n r) (n + 1) (gs_L (gs_L σ 2 t) 3 e) → (∀ q, q < G.length → kp q = true → gE_atw Tc q n (gg_y G q) (gs_L (gs_L σ 2 t) 3 e)) → X46 (nI n) (nI j) (nI (o j)) (nI r) (gs_L (gs_L σ 2 t) 3 e) := by
        intro m2
        induction m2 with
        | zero =>
          intro r t e hr ht hE
          have hr : r = G.length := hr
          subst hr
          apply h46
          refine pk_le G.length G.length (fun _ => nm_r (nI_1 j) ?_) (fun q => absurd q (by omega)) h.2.1
          refine ih (j + 1) (gc_tr Tc G kp (o j) n G.length) t e (by omega) (fun A p => ?_) ht (fun A p hp => ?_) (fun i hi => ?_) (fun i hi hi8 => ?_) (gc_tr_em hcl hem (Nat.le_refl _)) (fun q hq hkq i hi p hp => ?_)
          · unfold gc_tr
            split
            · exact gc_cap_le _
            · exact hb A p
          · rw [gc_tr_lt (by omega)]
            exact hT A p hp
          · have keep : gc_pt (gc_tr Tc G kp (o j) n G.length) G kp (o i) n G.length = gc_pt Tc G kp (o i) n G.length :=
              gc_pt_same (T := gc_tr Tc G kp (o j) n G.length) (T' := Tc) (D := D) (n := n) h.1 (fun x p _ hp => gc_tr_lt (by omega)) (fun x hx he => ⟨gc_tr_em hcl hem (Nat.le_refl _) x hx he, hem x hx he⟩) (fun x hx hto => gc_tr_ne (fun z => by
                obtain ⟨i', h1, h2⟩ := lead i (by omega) x hx hto
                rw [z] at h2
                exact ho.2.1 i' j (by omega) hj8 h2)) _ (Nat.le_refl _)
            rw [keep]
            by_cases ei : i = j
            · subst ei
              exact gc_tr_eq
            · rw [gc_tr_ne (fun z => ho.2.1 i j (by omega) hj8 z)]
              exact hd i (by omega)
          · rw [gc_tr_ne (fun z => ho.2.1 j i (by omega) hi8 z.symm)]
            exact h0 i (by omega) hi8
          · rw [hE q hq hkq i hi p hp]
            exact congrArg lN (gc_E_upto _ p (fun x p' _ hp' => (gc_tr_lt (by omega)).symm))
        | succ m2 ihm =>
          intro r t e hr ht hE
          have hr' : r < G.length := by omega
          obtain ⟨hl8, hz, h24⟩ := h.1.2 r hr'
          -- a rule that doesn't count
          have pass : ¬ (kp r = true ∧ gg_l G r = o j) → X46 (nI n) (nI j) (nI (o j)) (nI (r + 1)) (gs_L (gs_L σ 2 t) 3 e) := fun hno => ihm (r + 1) t e (by omega) (fun A hA p hp => by
            rw [ht A hA p hp]
            congr 1
            unfold gc_tr
            split
            · show gc_cap (gc_pt Tc G kp (o j) n r) = gc_cap (gc_pt Tc G kp (o j) n r + (if kp r = true ∧ gg_l G r = o j then gc_E Tc (gg_y G r) n else 0))
              rw [if_neg hno, Nat.add_zero]
            · rfl) hE
          apply h46
          refine pk_le G.length r (fun q => absurd q (by omega)) (fun _ => ?_) h.2.1
          refine ⟨fun hx => nm_r (nI_1 r) (pass (fun q => absurd hx ((hkp r hr').mp q.1))), fun hx => ?_⟩
          have hkr : kp r = true := (hkp r hr').mpr hx
          refine s_leftOf (gS t e) hr' ?_
          refine ek_if (not_congr (nI_eq (by omega) (by omega))) (fun hne => nm_r (nI_1 r) (pass (fun q => hne q.2))) (fun hne => ?_)
          have hl : gg_l G r = o j := Classical.byContradiction hne
          refine s_fillEndingsw (T := gc_tr Tc G kp (o j) n r) (gS t e) hr' hn ht (fun A p => ?_) (fun i hi p hp => ?_) (fun e2 he1 he2 => ?_)
          · unfold gc_tr
            split
            · exact gc_cap_le _
            · exact hb A p
          · rw [hE r hr' hkr i hi p hp]
            exact congrArg lN (gc_E_upto _ p (fun x p' _ hp' => (gc_tr_lt (by omega)).symm))
          · rw [gs_LL]
            refine s_endingsOfw (i := 0) (by omega) (by decide) hn ?_
            have e0 : (gs_L (gs_L σ 2 t) 3 e2).2.2 3 (ge_at r 0 n) = lN (gc_E Tc (gg_y G r) n) := by
              show e2 (ge_at r 0 n) = _
              rw [he1 0 (Nat.zero_le _), ← same r hr' hl r (by omega)]
              rfl
            rw [e0]
            have ea : (gs_L (gs_L σ 2 t) 3 e2).2.2 2 (o j * 17 + n) = lN (gc_cap (gc_pt Tc G kp (o j) n r)) := by
              have := ht (o j) hA8 n (by omega)
              rw [gc_tr_eq] at this
              exact this
            refine s_addTreesw hA8 hn ea (gc_cap_le _) (gc_E_le _ _ _) (fun τ hτ => ?_)
            rw [gs_LLL σ 2 3 (by decide)] at hτ
            rw [hτ]
            refine nm_r (nI_1 r) (ihm (r + 1) _ e2 (by omega) (fun A hA p hp => ?_) (fun q hq hkq i hi p hp => ?_))
            · show (if A * 17 + p = o j * 17 + n then lN (gc_cap (gc_cap (gc_pt Tc G kp (o j) n r) + gc_E Tc (gg_y G r) n)) else t (A * 17 + p)) = lN (gc_tr Tc G kp (o j) n (r + 1) A p)
              have hold := ht A hA p hp
              have hold : t (A * 17 + p) = lN (gc_tr Tc G kp (o j) n r A p) := hold
              rw [hold]
              unfold gc_tr
              by_cases q : A = o j ∧ p = n
              · obtain ⟨q1, q2⟩ := q
                subst q2
                rw [if_pos (by rw [q1]), if_pos ⟨q1, rfl⟩, gc_cap_add]
                show lN (gc_cap (gc_pt Tc G kp (o j) p r + gc_E Tc (gg_y G r) p)) = lN (gc_cap (gc_pt Tc G kp (o j) p r + (if kp r = true ∧ gg_l G r = o j then gc_E Tc (gg_y G r) p else 0)))
                rw [if_pos ⟨hkr, hl⟩]
              · rw [if_neg (fun z => q (inj A (o j) p n (by omega) hn z)), if_neg q, if_neg q]
            · show e2 (ge_at q i p) = _
              have hzq := (h.1.2 q hq).2.1
              rw [he2 _ (fun i' hi' z => by have := (gin q r i i' p n (by omega) (by omega) (by omega) hn z).2.2; omega)]
              exact hE q hq hkq i hi p hp
      refine inner G.length 0 t e (by omega) (fun A hA p hp => ?_) hE
      rw [ht A hA p hp]
      congr 1
      unfold gc_tr
      split
      · rename_i q
        rw [q.1, q.2, h0 j (Nat.le_refl _) hj8]
        rfl
      · rfl
  -- nought at first
  have ph1 : ∀ (m A : Nat) (t : Nat → Int64), A + m = 8 → (∀ B, B < A → t (B * 17 + n) = 0) → (∀ B p, p < n → t (B * 17 + p) = σ.2.2 2 (B * 17 + p)) → X2 (nI n) (nI A) (gs_L σ 2 t) := by
    intro m
    induction m with
    | zero =>
      intro A t hA h0 ht
      have hA : A = 8 := hA
      subst hA
      apply h2
      refine br_t (by decide) ?_
      have es : gs_L σ 2 t = gs_L (gs_L σ 2 t) 3 (σ.2.2 3) := (gs_Lid (gs_L σ 2 t) 3).symm
      rw [es]
      refine ph2 8 0 (fun A p => if p = n then 0 else T A p) t (σ.2.2 3) rfl (fun A p => ?_) (fun A hA p hp => ?_) (fun A p hp => if_neg (by omega)) (fun i hi => absurd hi (Nat.not_lt_zero _)) (fun i _ hi => if_pos rfl) (fun x hx he => ?_) (fun q hq hkq i hi p hp => ?_)
      · show (if p = n then 0 else T A p) ≤ _
        split
        · omega
        · exact hTb A p
      · show t (A * 17 + p) = lN (if p = n then 0 else T A p)
        split
        · rename_i q
          rw [q, h0 A hA]
          rfl
        · rw [ht A p (by omega)]
          exact hTt A hA p (by omega)
      · show (if 0 = n then 0 else T x 0) = 0
        split
        · rfl
        · exact hTk.2 x hx he (by omega)
      · show σ.2.2 3 (ge_at q i p) = _
        rw [hTE q hq hkq i hi p hp]
        exact congrArg lN (gc_E_upto _ p (fun x p' _ hp' => (if_neg (by omega)).symm))
    | succ m ih =>
      intro A t hA h0 ht
      apply h2
      refine pk_le 8 A (fun q => absurd q (by omega)) (fun _ => ?_)
      rw [gt_at_e]
      refine ⟨vp_in_nI (by omega) (by decide), ?_⟩
      rw [nI_clamp (by omega)]
      intro τ hτ
      have e : τ = gs_L σ 2 (vp_updL t (A * 17 + n) 0) := by
        rw [hτ, gs_LL]
        rfl
      rw [e]
      refine nm_r (nI_1 A) (ih (A + 1) _ (by omega) (fun B hB => ?_) (fun B p hp => ?_))
      · show (if B * 17 + n = A * 17 + n then (0 : Int64) else t (B * 17 + n)) = 0
        split
        · rfl
        · rename_i q
          exact h0 B (by omega)
      · show (if B * 17 + p = A * 17 + n then (0 : Int64) else t (B * 17 + p)) = _
        rw [if_neg (by omega)]
        exact ht B p hp
  have := ph1 8 0 (σ.2.2 2) rfl (fun B hB => absurd hB (Nat.not_lt_zero _)) (fun B p _ => rfl)
  rw [gs_Lid] at this
  exact this
/-- counts up to N, N in its field -/
theorem s_treesOfw {o : Nat → Nat} {kp : Nat → Bool} {T : Nat → Nat → Nat} {N A n : Nat} {K : Int64 → gs_St → Prop} (h : gr_at G σ) (ho : gg_ord (gg_to G D) o 8) (hof : ∀ j, j < 8 → σ.2.1 7 j = nI (o j)) (hcl : gg_cl G D) (hA : A < 8) (hn : n ≤ 16) (hN : N ≤ 17) (hcn : σ.1 7 = nI N) (hkp : ∀ r, r < G.length → (kp r = true ↔ nI r ≠ σ.1 6)) (hc : cs_atw G D kp T N σ)
    (kk : ∀ (T' : Nat → Nat → Nat) (N' : Nat) (t e : Nat → Int64), N ≤ N' → n < N' → N' ≤ 17 → cs_atw G D kp T' N' (gs_I (gs_L (gs_L σ 2 t) 3 e) 7 (nI N')) → K (lN (T' A n)) (gs_I (gs_L (gs_L σ 2 t) 3 e) 7 (nI N'))) : C_Co_treesOfw (nI A) (nI n) σ K := by
  intro X5 h5
  have idI : ∀ τ : gs_St, ∀ v, τ.1 7 = v → gs_I τ 7 v = τ := fun τ v hv => by
    refine Prod.ext (funext fun j => ?_) rfl
    show (if j = 7 then v else τ.1 j) = τ.1 j
    split
    · rename_i q
      rw [q, hv]
    · rfl
  have key : ∀ (m N' : Nat) (T' : Nat → Nat → Nat) (t e : Nat → Int64), n + 1 - N' = m → N ≤ N' → N' ≤ 17 → cs_atw G D kp T' N' (gs_I (gs_L (gs_L σ 2 t) 3 e) 7 (nI N')) → X5 (nI A) (nI n) (nI N') (gs_I (gs_L (gs_L σ 2 t) 3 e) 7 (nI N')) := by
    intro m
    induction m with
    | zero =>
      intro N' T' t e hm h1 h2 hcs
      apply h5
      refine pk_lt n N' (fun q => ?_) (fun q => absurd q (by omega))
      rw [gt_at_e]
      refine ⟨vp_in_nI (by omega) (by decide), ?_⟩
      rw [nI_clamp (by omega), hcs.2.1 A hA n q]
      exact kk T' N' t e h1 q h2 hcs
    | succ m ih =>
      intro N' T' t e hm h1 h2 hcs
      apply h5
      refine pk_lt n N' (fun q => absurd q (by omega)) (fun q => ?_)
      refine s_countLengthw (G := G) (D := D) (o := o) (kp := kp) (T := T') (σ := gs_I (gs_L (gs_L σ 2 t) 3 e) 7 (nI N')) (h.of rfl rfl rfl rfl) ho hof hcl (by omega) hkp hcs (fun T2 t2 e2 hc2 => ?_)
      intro τ hτ
      have e1 : τ = gs_I (gs_L (gs_L σ 2 t2) 3 e2) 7 (nI (N' + 1)) := by
        rw [hτ]
        refine Prod.ext (funext fun j => ?_) (Prod.ext rfl (funext fun j => ?_))
        · show (if j = 7 then nI N' + 1 else (if j = 7 then nI N' else σ.1 j)) = (if j = 7 then nI (N' + 1) else σ.1 j)
          split
          · exact nI_1 N'
          · rfl
        · show (if j = 3 then e2 else (if j = 2 then t2 else (if j = 3 then e else (if j = 2 then t else σ.2.2 j)))) = (if j = 3 then e2 else (if j = 2 then t2 else σ.2.2 j))
          by_cases q1 : j = 3
          · simp only [if_pos q1]
          · by_cases q2 : j = 2
            · simp only [if_neg q1, if_pos q2]
            · simp only [if_neg q1, if_neg q2]
      rw [e1]
      exact nm_r (nI_1 N') (ih (N' + 1) T2 t2 e2 (by omega) (by omega) (by omega) hc2)
  rw [show (∀ v1 : Int32, v1 = σ.1 7 → X5 (nI A) (nI n) v1 σ) ↔ X5 (nI A) (nI n) (nI N) σ from ⟨fun z => z _ hcn.symm, fun z v hv => by rw [hv, hcn]; exact z⟩]
  have es : gs_I (gs_L (gs_L σ 2 (σ.2.2 2)) 3 ((gs_L σ 2 (σ.2.2 2)).2.2 3)) 7 (nI N) = σ := by rw [gs_Lid, gs_Lid, idI σ _ hcn]
  have := key (n + 1 - N) N T (σ.2.2 2) ((gs_L σ 2 (σ.2.2 2)).2.2 3) rfl (Nat.le_refl _) hN (by rw [es]; exact hc)
  rw [es] at this
  exact this
end L2Hw
end
section
/-! Layer 2, part i: the class's state between two calls; the calls that don't count. -/
/-- the text of a coming rule -/
def tx_at (t : List Nat) (σ : gs_St) : Prop := t.length ≤ 6 ∧ (∀ i, i < t.length → t.getD i 0 < 24) ∧ σ.1 0 = nI t.length ∧ ∀ i, i < t.length → σ.2.1 0 i = nI (t.getD i 0)
/-- the list -/
def li_at (l : List Int32) (σ : gs_St) : Prop := l.length ≤ 200 ∧ σ.1 14 = nI l.length ∧ ∀ i, i < l.length → σ.2.1 14 i = l.getD i 0
/-- the tree last drawn: its row, its yield -/
def dr_at (d v : List Nat) (σ : gs_St) : Prop := d.length ≤ 200 ∧ v.length ≤ 16 ∧ σ.1 10 = nI d.length ∧ σ.1 11 = nI v.length ∧ (∀ i, i < d.length → σ.2.1 10 i = nI (d.getD i 0)) ∧ ∀ i, i < v.length → σ.2.1 11 i = nI (v.getD i 0)
/-- what was found out of the rules -/
def st_w (G : gg_R) (D O : Nat → Option Nat) (o : Nat → Nat) (c : Nat) (T T' : Nat → Nat → Nat) (N N' : Nat) (σ : gs_St) : Prop :=
  le_at D σ ∧ ar_at O σ ∧ gm_L G D ∧ gm_L (gm_A G D) O ∧ gg_bd D 1679616 ∧ gg_bd O 80621568 ∧ gg_ord (gg_to G D) o c ∧ (8 ≤ c ∨ gg_stk (gg_to G D) o c) ∧ (∀ j, j < c → σ.2.1 7 j = nI (o j)) ∧ σ.1 3 = nI c ∧ c ≤ 8 ∧
  σ.1 5 = nI N ∧ N ≤ 17 ∧ cs_at G D (fun _ => true) T N σ ∧ σ.1 7 = nI N' ∧ N' ≤ 17 ∧ cs_atw G D (fun r => decide (nI r ≠ σ.1 6)) T' N' σ
def st_at (G : gg_R) (σ : gs_St) : Prop := ∃ (D O : Nat → Option Nat) (o : Nat → Nat) (c : Nat) (T T' : Nat → Nat → Nat) (N N' : Nat), st_w G D O o c T T' N N' σ
theorem tx_at.of {t : List Nat} {σ τ : gs_St} (h : tx_at t σ) (h0 : τ.1 0 = σ.1 0) (h1 : τ.2.1 0 = σ.2.1 0) : tx_at t τ := ⟨h.1, h.2.1, h0.trans h.2.2.1, fun i hi => by rw [h1]; exact h.2.2.2 i hi⟩
theorem li_at.of {l : List Int32} {σ τ : gs_St} (h : li_at l σ) (h0 : τ.1 14 = σ.1 14) (h1 : τ.2.1 14 = σ.2.1 14) : li_at l τ := ⟨h.1, h0.trans h.2.1, fun i hi => by rw [h1]; exact h.2.2 i hi⟩
theorem dr_at.of {d v : List Nat} {σ τ : gs_St} (h : dr_at d v σ) (h0 : τ.1 10 = σ.1 10) (h1 : τ.1 11 = σ.1 11) (h2 : τ.2.1 10 = σ.2.1 10) (h3 : τ.2.1 11 = σ.2.1 11) : dr_at d v τ := ⟨h.1, h.2.1, h0.trans h.2.2.1, h1.trans h.2.2.2.1, fun i hi => by rw [h2]; exact h.2.2.2.2.1 i hi, fun i hi => by rw [h3]; exact h.2.2.2.2.2 i hi⟩
theorem cs_at.of {G : gg_R} {D : Nat → Option Nat} {kp : Nat → Bool} {T : Nat → Nat → Nat} {N : Nat} {σ τ : gs_St} (h : cs_at G D kp T N σ) (h0 : τ.2.2 0 = σ.2.2 0) (h1 : τ.2.2 1 = σ.2.2 1) : cs_at G D kp T N τ :=
  ⟨h.1, fun A hA p hp => by rw [h0]; exact h.2.1 A hA p hp, h.2.2.1, fun r hr hk i hi p hp => by rw [h1]; exact h.2.2.2 r hr hk i hi p hp⟩
theorem cs_atw.of {G : gg_R} {D : Nat → Option Nat} {kp : Nat → Bool} {T : Nat → Nat → Nat} {N : Nat} {σ τ : gs_St} (h : cs_atw G D kp T N σ) (h0 : τ.2.2 2 = σ.2.2 2) (h1 : τ.2.2 3 = σ.2.2 3) : cs_atw G D kp T N τ :=
  ⟨h.1, fun A hA p hp => by rw [h0]; exact h.2.1 A hA p hp, h.2.2.1, fun r hr hk i hi p hp => by rw [h1]; exact h.2.2.2 r hr hk i hi p hp⟩
theorem st_at.of {G : gg_R} {σ τ : gs_St} (h : st_at G σ) (a4 : τ.2.1 4 = σ.2.1 4) (a5 : τ.2.1 5 = σ.2.1 5) (a7 : τ.2.1 7 = σ.2.1 7) (i3 : τ.1 3 = σ.1 3) (i5 : τ.1 5 = σ.1 5) (i6 : τ.1 6 = σ.1 6) (i7 : τ.1 7 = σ.1 7) (l0 : τ.2.2 0 = σ.2.2 0) (l1 : τ.2.2 1 = σ.2.2 1) (l2 : τ.2.2 2 = σ.2.2 2) (l3 : τ.2.2 3 = σ.2.2 3) : st_at G τ := by
  obtain ⟨D, O, o, c, T, T', N, N', h1, h2, h3, h4, h5, h6, h7, h8, h9, h10, h11, h12, h13, h14, h15, h16, h17⟩ := h
  refine ⟨D, O, o, c, T, T', N, N', fun A hA => by rw [a4]; exact h1 A hA, fun A hA => by rw [a5]; exact h2 A hA, h3, h4, h5, h6, h7, h8, fun j hj => by rw [a7]; exact h9 j hj, i3.trans h10, h11, i5.trans h12, h13, h14.of l0 l1, i7.trans h15, h16, ?_⟩
  rw [i6]
  exact h17.of l2 l3
/-- the class's state -/
def cl_at (t : List Nat) (G : gg_R) (l : List Int32) (d v : List Nat) (σ : gs_St) : Prop :=
  tx_at t σ ∧ gr_at G σ ∧ li_at l σ ∧ dr_at d v σ ∧ σ.1 4 = -1 ∧ (σ.1 1 = 0 ∨ (σ.1 1 = 1 ∧ st_at G σ))
theorem getD_append_l {α : Type} {a b : List α} {i : Nat} {x : α} (h : i < a.length) : (a ++ b).getD i x = a.getD i x := by
  rw [List.getD_eq_getElem?_getD, List.getD_eq_getElem?_getD, List.getElem?_append_left h]
theorem getD_append_e {α : Type} {a : List α} {x y : α} : (a ++ [y]).getD a.length x = y := by
  rw [List.getD_eq_getElem?_getD, List.getElem?_append_right (Nat.le_refl _), Nat.sub_self]
  rfl
section L2I
variable {G : gg_R} {σ : gs_St} {t : List Nat} {l : List Int32} {d v : List Nat}
theorem s_symbol {x : Int32} {K : Int32 → gs_St → Prop} (h : cl_at t G l d v σ)
    (k0 : ((∀ s, s < 24 → x ≠ nI s) ∨ t.length = 6) → K (-1) σ)
    (k1 : ∀ s, s < 24 → x = nI s → t.length < 6 → ∀ τ, cl_at (t ++ [s]) G l d v τ → K (nI (t.length + 1)) τ) : C_Gl_symbol x σ K := by
  obtain ⟨⟨ht6, ht24, ht0, hti⟩, hg, hl, hd, h4, hst⟩ := h
  rcases pk_ix x (n := 24) (by decide) with q | q | ⟨s, hs, rfl⟩
  · exact ⟨fun _ => k0 (Or.inl (fun s hs e => absurd (e ▸ q) (nI_pos (by omega)))), fun z => absurd q z⟩
  · have hno : ∀ s, s < 24 → x ≠ nI s := fun s hs e => absurd (e ▸ q) (nI_ge hs (by decide))
    exact ⟨fun _ => k0 (Or.inl hno), fun _ => ⟨fun _ => k0 (Or.inl hno), fun z => absurd q z⟩⟩
  · refine ⟨fun q => absurd q (nI_pos (by omega)), fun _ => ⟨fun q => absurd q (nI_ge hs (by decide)), fun _ => ?_⟩⟩
    refine pk_lt t.length 6 (fun q => ?_) (fun q => k0 (Or.inr (by omega))) ht0
    rw [ht0]
    refine ⟨vp_in_nI q (by decide), ?_⟩
    rw [nI_clamp (by omega)]
    intro σ1 e1 σ2 e2
    have v0 : σ2.1 0 = nI (t.length + 1) := by
      rw [e2]
      show σ1.1 0 + 1 = _
      rw [e1]
      show σ.1 0 + 1 = _
      rw [ht0, nI_1]
    rw [v0]
    refine k1 s hs rfl q σ2 ⟨⟨?_, fun i hi => ?_, ?_, fun i hi => ?_⟩, hg.of ?_ ?_ ?_ ?_, ?_⟩
    · rw [List.length_append]
      show t.length + 1 ≤ 6
      omega
    · rw [List.length_append] at hi
      have hi : i < t.length + 1 := hi
      by_cases e : i = t.length
      · rw [e, getD_append_e]
        exact hs
      · rw [getD_append_l (by omega)]
        exact ht24 i (by omega)
    · rw [List.length_append]
      exact v0
    · rw [List.length_append] at hi
      have hi : i < t.length + 1 := hi
      rw [e2, e1]
      show (if i = t.length then nI s else σ.2.1 0 i) = _
      by_cases e : i = t.length
      · rw [if_pos e, e, getD_append_e]
      · rw [if_neg e, getD_append_l (by omega)]
        exact hti i (by omega)
    · rw [e2, e1]; rfl
    · rw [e2, e1]; rfl
    · rw [e2, e1]; rfl
    · rw [e2, e1]; rfl
    · subst e2
      subst e1
      exact ⟨hl.of rfl rfl, hd.of rfl rfl rfl rfl, h4, hst.elim Or.inl (fun z => Or.inr ⟨z.1, z.2.of rfl rfl rfl rfl rfl rfl rfl rfl rfl rfl rfl⟩)⟩
theorem s_list {x : Int32} {K : Int32 → gs_St → Prop} (h : cl_at t G l d v σ) (k0 : l.length = 200 → K (-1) σ) (k1 : l.length < 200 → ∀ τ, cl_at t G (l ++ [x]) d v τ → K (nI (l.length + 1)) τ) : C_Gl_list x σ K := by
  obtain ⟨ht, hg, ⟨hl1, hl2, hl3⟩, hd, h4, hst⟩ := h
  show ((σ.1 14) < (200 : Int32) → _) ∧ (¬ ((σ.1 14) < (200 : Int32)) → _)
  refine pk_lt l.length 200 (fun q => ?_) (fun q => k0 (by omega)) hl2
  rw [hl2]
  refine ⟨vp_in_nI q (by decide), ?_⟩
  rw [nI_clamp (by omega)]
  intro σ1 e1 σ2 e2
  have v0 : σ2.1 14 = nI (l.length + 1) := by
    rw [e2]
    show σ1.1 14 + 1 = _
    rw [e1]
    show σ.1 14 + 1 = _
    rw [hl2, nI_1]
  rw [v0]
  refine k1 q σ2 ⟨?_, hg.of ?_ ?_ ?_ ?_, ⟨?_, ?_, fun i hi => ?_⟩, ?_⟩
  · subst e2
    subst e1
    exact ht.of rfl rfl
  · rw [e2, e1]; rfl
  · rw [e2, e1]; rfl
  · rw [e2, e1]; rfl
  · rw [e2, e1]; rfl
  · rw [List.length_append]
    show l.length + 1 ≤ 200
    omega
  · rw [List.length_append]
    exact v0
  · rw [List.length_append] at hi
    have hi : i < l.length + 1 := hi
    rw [e2, e1]
    show (if i = l.length then x else σ.2.1 14 i) = _
    by_cases e : i = l.length
    · rw [if_pos e, e, getD_append_e]
    · rw [if_neg e, getD_append_l (by omega)]
      exact hl3 i (by omega)
  · subst e2
    subst e1
    exact ⟨hd.of rfl rfl rfl rfl, h4, hst.elim Or.inl (fun z => Or.inr ⟨z.1, z.2.of rfl rfl rfl rfl rfl rfl rfl rfl rfl rfl rfl⟩)⟩
theorem s_count {x : Int32} {K : Int32 → gs_St → Prop} (h : cl_at t G l d v σ) (k0 : x = 0 → K (nI G.length) σ) (k1 : x = 1 → K (nI t.length) σ) (k2 : x = 2 → K (nI l.length) σ) (k3 : x ≠ 0 → x ≠ 1 → x ≠ 2 → K (-1) σ) : C_Gl_count x σ K := by
  obtain ⟨⟨-, -, ht0, -⟩, ⟨-, hg2, -⟩, ⟨-, hl2, -⟩, -⟩ := h
  refine ⟨fun e => ?_, fun e => ?_, fun e => ?_, fun e => k3 ?_ ?_ ?_⟩
  · rw [hg2]; exact k0 e
  · rw [ht0]; exact k1 e
  · rw [hl2]; exact k2 e
  · rintro rfl
    exact absurd e (by decide)
  · rintro rfl
    exact absurd e (by decide)
  · rintro rfl
    exact absurd e (by decide)
theorem s_row {x : Int32} {K : Int32 → gs_St → Prop} (h : cl_at t G l d v σ) (k0 : (∀ i, i < d.length → x ≠ nI i) → K (-1) σ) (k1 : ∀ i, i < d.length → x = nI i → K (nI (d.getD i 0)) σ) : C_Gl_row x σ K := by
  obtain ⟨-, -, -, ⟨h1, h2, h3, h4, h5, h6⟩, -⟩ := h
  show (x < 0 → K (-1) σ) ∧ (¬ (x < 0) → ((σ.1 10) ≤ x → K (-1) σ) ∧ (¬ ((σ.1 10) ≤ x) → vp_in x 200 ∧ (K (σ.2.1 10 x.toNatClampNeg) σ)))
  rw [h3]
  rcases pk_ix x (n := d.length) (by omega) with q | q | ⟨j, hj, rfl⟩
  · exact ⟨fun _ => k0 (fun i hi e => absurd (e ▸ q) (nI_pos (by omega))), fun z => absurd q z⟩
  · have hno : ∀ i, i < d.length → x ≠ nI i := fun i hi e => absurd (e ▸ q) (nI_ge hi (by omega))
    exact ⟨fun _ => k0 hno, fun _ => ⟨fun _ => k0 hno, fun z => absurd q z⟩⟩
  · refine ⟨fun z => absurd z (nI_pos (by omega)), fun _ => ⟨fun z => absurd z (nI_ge hj (by omega)), fun _ => ⟨vp_in_nI (by omega) (by decide), ?_⟩⟩⟩
    rw [nI_clamp (by omega), h5 j hj]
    exact k1 j hj rfl
theorem s_leaf {x : Int32} {K : Int32 → gs_St → Prop} (h : cl_at t G l d v σ) (k0 : (∀ i, i < v.length → x ≠ nI i) → K (-1) σ) (k1 : ∀ i, i < v.length → x = nI i → K (nI (v.getD i 0)) σ) : C_Gl_leaf x σ K := by
  obtain ⟨-, -, -, ⟨h1, h2, h3, h4, h5, h6⟩, -⟩ := h
  show (x < 0 → K (-1) σ) ∧ (¬ (x < 0) → ((σ.1 11) ≤ x → K (-1) σ) ∧ (¬ ((σ.1 11) ≤ x) → vp_in x 16 ∧ (K (σ.2.1 11 x.toNatClampNeg) σ)))
  rw [h4]
  rcases pk_ix x (n := v.length) (by omega) with q | q | ⟨j, hj, rfl⟩
  · exact ⟨fun _ => k0 (fun i hi e => absurd (e ▸ q) (nI_pos (by omega))), fun z => absurd q z⟩
  · have hno : ∀ i, i < v.length → x ≠ nI i := fun i hi e => absurd (e ▸ q) (nI_ge hi (by omega))
    exact ⟨fun _ => k0 hno, fun _ => ⟨fun _ => k0 hno, fun z => absurd q z⟩⟩
  · refine ⟨fun z => absurd z (nI_pos (by omega)), fun _ => ⟨fun z => absurd z (nI_ge hj (by omega)), fun _ => ⟨vp_in_nI (by omega) (by decide), ?_⟩⟩⟩
    rw [nI_clamp (by omega), h6 j hj]
    exact k1 j hj rfl
theorem s_about {x i : Int32} {K : Int32 → gs_St → Prop} (h : cl_at t G l d v σ) (k0 : (∀ r, r < G.length → x ≠ nI r) → K (-1) σ)
    (k1 : ∀ r, r < G.length → x = nI r → i = -1 → K (nI (gg_l G r)) σ) (k2 : ∀ r, r < G.length → x = nI r → ∀ j, j < (gg_y G r).length → i = nI j → K (nI ((gg_y G r).getD j 0)) σ)
    (k3 : ∀ r, r < G.length → x = nI r → i ≠ -1 → (∀ j, j < (gg_y G r).length → i ≠ nI j) → K (-1) σ) : C_Gl_about x i σ K := by
  have hg := h.2.1
  have hG := hg.1.1
  refine s_has hg (fun r hr e => ?_) (fun hno => br_t rfl (k0 hno))
  subst e
  obtain ⟨hl8, hz, h24⟩ := hg.1.2 r hr
  refine br_f (by decide) ?_
  by_cases hi : i < (-1 : Int32)
  · refine br_t hi (k3 r hr rfl ?_ ?_)
    · rintro rfl
      exact absurd hi (by decide)
    · rintro j hj rfl
      have h1 := nI_pos' (n := j) (by omega)
      rw [Int32.lt_iff_toInt_lt] at hi
      rw [Int32.le_iff_toInt_le] at h1
      rw [show (-1 : Int32).toInt = -1 by decide] at hi
      rw [show (0 : Int32).toInt = 0 by decide] at h1
      omega
  · refine br_f hi (s_sizeOf hg hr ?_)
    by_cases he : i = -1
    · subst he
      refine br_t ?_ (br_f (fun z => z rfl) (s_leftOf hg hr (k1 r hr rfl rfl)))
      rw [Int32.lt_iff_toInt_lt, nI_toInt (by omega), show (-1 : Int32).toInt = -1 by decide]
      omega
    · have h0 : ¬ i < 0 := fun z => he (by
        apply Int32.toInt_inj.mp
        rw [Int32.lt_iff_toInt_lt, show (0 : Int32).toInt = 0 by decide] at z
        rw [Int32.lt_iff_toInt_lt, show (-1 : Int32).toInt = -1 by decide] at hi
        rw [show (-1 : Int32).toInt = -1 by decide]
        omega)
      obtain ⟨j, hj, rfl⟩ := nI_of h0
      refine ek_if (nI_ltI hj (by omega)) (fun q => br_t he (s_symbolAt hg hr q (k2 r hr rfl j q rfl))) (fun q => k3 r hr rfl he (fun j' hj' e => ?_))
      have := (nI_eq hj (by omega)).mp e
      omega
end L2I
end
section
/-! Layer 2, part j: rule and drop. -/
theorem gg_l_app {G : gg_R} {q : Nat × List Nat} {r : Nat} (h : r < G.length) : gg_l (G ++ [q]) r = gg_l G r := by
  unfold gg_l
  rw [getD_append_l h]
theorem gg_y_app {G : gg_R} {q : Nat × List Nat} {r : Nat} (h : r < G.length) : gg_y (G ++ [q]) r = gg_y G r := by
  unfold gg_y
  rw [getD_append_l h]
theorem gg_l_end {G : gg_R} {q : Nat × List Nat} : gg_l (G ++ [q]) G.length = q.1 := by
  unfold gg_l
  rw [getD_append_e]
theorem gg_y_end {G : gg_R} {q : Nat × List Nat} : gg_y (G ++ [q]) G.length = q.2 := by
  unfold gg_y
  rw [getD_append_e]
theorem gg_er {G : gg_R} {r k : Nat} : (G.eraseIdx r).getD k (0, []) = G.getD (if k < r then k else k + 1) (0, []) := by
  rw [List.getD_eq_getElem?_getD, List.getD_eq_getElem?_getD, List.getElem?_eraseIdx]
  split <;> rfl
theorem gg_ok_app {G : gg_R} {j : Nat} {t : List Nat} (h : gg_ok G) (hG : G.length < 24) (hj : j < 8) (ht : t.length ≤ 6) (h24 : ∀ i, i < t.length → t.getD i 0 < 24) : gg_ok (G ++ [(j, t)]) := by
  refine ⟨by rw [List.length_append]; show G.length + 1 ≤ 24; omega, fun r hr => ?_⟩
  rw [List.length_append] at hr
  have hr : r < G.length + 1 := hr
  by_cases e : r = G.length
  · subst e
    rw [gg_l_end, gg_y_end]
    exact ⟨hj, ht, h24⟩
  · rw [gg_l_app (by omega), gg_y_app (by omega)]
    exact h.2 r (by omega)
theorem gg_er_l {G : gg_R} {r k : Nat} : gg_l (G.eraseIdx r) k = gg_l G (if k < r then k else k + 1) := by
  unfold gg_l
  rw [gg_er]
theorem gg_er_y {G : gg_R} {r k : Nat} : gg_y (G.eraseIdx r) k = gg_y G (if k < r then k else k + 1) := by
  unfold gg_y
  rw [gg_er]
theorem gg_er_n {G : gg_R} {r : Nat} (hr : r < G.length) : (G.eraseIdx r).length = G.length - 1 := List.length_eraseIdx_of_lt hr
theorem gg_ok_er {G : gg_R} {r : Nat} (h : gg_ok G) (hr : r < G.length) : gg_ok (G.eraseIdx r) := by
  refine ⟨by rw [gg_er_n hr]; have := h.1; omega, fun k hk => ?_⟩
  rw [gg_er_n hr] at hk
  rw [gg_er_l, gg_er_y]
  exact h.2 _ (by split <;> omega)
section L2J
variable {G : gg_R} {σ : gs_St} {t : List Nat} {l : List Int32} {d v : List Nat}
theorem s_add {j : Nat} {K : Int32 → gs_St → Prop} (h : gr_at G σ) (hG : G.length < 24) (hj : j < 8) (ht : t.length ≤ 6) (h24 : ∀ i, i < t.length → t.getD i 0 < 24) (hti : ∀ i, i < t.length → σ.2.1 0 i = nI (t.getD i 0))
    (kk : ∀ τ : gs_St, gr_at (G ++ [(j, t)]) τ → (∀ k, k ≠ 2 → τ.1 k = σ.1 k) → (∀ k, k ≠ 1 → k ≠ 2 → k ≠ 3 → τ.2.1 k = σ.2.1 k) → τ.2.2 = σ.2.2 → K (nI G.length) τ) : C_Gr_add_1 (nI j) (nI t.length) σ K := by
  have h2 := h.2.1
  unfold C_Gr_add_1
  rw [h2]
  refine ⟨vp_in_nI hG (by decide), ?_⟩
  rw [nI_clamp (by omega)]
  intro σ1 e1
  have a1 : σ1.1 2 = nI G.length := by rw [e1]; exact h2
  rw [a1]
  refine ⟨vp_in_nI hG (by decide), ?_⟩
  rw [nI_clamp (by omega)]
  intro σ2 e2
  have a2 : σ2.1 2 = nI G.length := by rw [e2]; exact a1
  have e6 : nI G.length * (6 : Int32) = nI (G.length * 6) := by rw [show (6 : Int32) = nI 6 from rfl, pk_mul]
  rw [a2, e6, nI_clamp (by omega), nI_clamp (by omega), show (0 : Int32).toNatClampNeg = 0 by decide]
  refine ⟨by decide, nI_pos (by omega), nI_pos (by omega), by omega, by omega, ?_⟩
  intro σ3 e3 σ4 e4
  have a3 : σ3.1 2 = nI G.length := by rw [e3]; exact a2
  have a4 : σ4.1 2 = nI (G.length + 1) := by
    rw [e4]
    show σ3.1 2 + 1 = _
    rw [a3, nI_1]
  rw [a4, nI_pred]
  have f1 : σ4.2.1 1 = upd (σ.2.1 1) G.length (nI j) := by rw [e4, e3, e2, e1]; rfl
  have f2 : σ4.2.1 2 = upd (σ.2.1 2) G.length (nI t.length) := by rw [e4, e3, e2, e1]; rfl
  have f3 : σ4.2.1 3 = va_cpy (σ.2.1 0) (σ.2.1 3) 0 (G.length * 6) t.length := by rw [e4, e3, e2, e1]; rfl
  refine kk σ4 ⟨gg_ok_app h.1 hG hj ht h24, ?_, fun r hr => ?_⟩ (fun k hk => ?_) (fun k k1 k2 k3 => ?_) ?_
  · rw [List.length_append]
    exact a4
  · rw [List.length_append] at hr
    have hr : r < G.length + 1 := hr
    rw [f1, f2, f3]
    by_cases e : r = G.length
    · subst e
      rw [gg_l_end, gg_y_end]
      refine ⟨pk_us, pk_us, fun i hi => ?_⟩
      show (if G.length * 6 ≤ G.length * 6 + i ∧ G.length * 6 + i < G.length * 6 + t.length then σ.2.1 0 (0 + (G.length * 6 + i - G.length * 6)) else σ.2.1 3 (G.length * 6 + i)) = nI (t.getD i 0)
      have hi : i < t.length := hi
      rw [if_pos ⟨by omega, by omega⟩, show 0 + (G.length * 6 + i - G.length * 6) = i by omega]
      exact hti i hi
    · have hr' : r < G.length := by omega
      rw [gg_l_app hr', gg_y_app hr', pk_un e, pk_un e]
      obtain ⟨b1, b2, b3⟩ := h.2.2 r hr'
      have hz := (h.1.2 r hr').2.1
      refine ⟨b1, b2, fun i hi => ?_⟩
      show (if G.length * 6 ≤ r * 6 + i ∧ r * 6 + i < G.length * 6 + t.length then σ.2.1 0 (0 + (r * 6 + i - G.length * 6)) else σ.2.1 3 (r * 6 + i)) = _
      rw [if_neg (by omega)]
      exact b3 i hi
  · rw [e4, e3, e2, e1]
    show (if k = 2 then _ else σ.1 k) = σ.1 k
    rw [if_neg hk]
  · rw [e4, e3, e2, e1]
    show (if k = 3 then _ else (if k = 2 then _ else (if k = 1 then _ else σ.2.1 k))) = σ.2.1 k
    rw [if_neg k3, if_neg k2, if_neg k1]
  · rw [e4, e3, e2, e1]
    rfl
theorem s_remove {r : Nat} {K : gs_St → Prop} (h : gr_at G σ) (hr : r < G.length)
    (kk : ∀ τ : gs_St, gr_at (G.eraseIdx r) τ → (∀ k, k ≠ 2 → τ.1 k = σ.1 k) → (∀ k, k ≠ 1 → k ≠ 2 → k ≠ 3 → τ.2.1 k = σ.2.1 k) → τ.2.2 = σ.2.2 → K τ) : C_Gr_remove (nI r) σ K := by
  have h2 := h.2.1
  have hG := h.1.1
  have e6 : ∀ x : Nat, nI x * (6 : Int32) = nI (x * 6) := fun x => by rw [show (6 : Int32) = nI 6 from rfl, pk_mul]
  refine nm_r (nI_1 r) ?_
  have esub : σ.1 2 - nI (r + 1) = nI (G.length - (r + 1)) := by rw [h2, pk_sub (by omega)]
  refine nm_r esub ?_
  rw [e6, e6, e6, nI_clamp (by omega), nI_clamp (by omega), nI_clamp (by omega), nI_clamp (by omega), nI_clamp (by omega), nI_clamp (by omega)]
  refine ⟨nI_pos (by omega), nI_pos (by omega), nI_pos (by omega), by omega, by omega, ?_⟩
  intro σ3 e3
  refine ⟨nI_pos (by omega), nI_pos (by omega), nI_pos (by omega), by omega, by omega, ?_⟩
  intro σ4 e4
  refine ⟨nI_pos (by omega), nI_pos (by omega), nI_pos (by omega), by omega, by omega, ?_⟩
  intro σ5 e5 σ6 e6'
  have a5 : σ5.1 2 = nI G.length := by rw [e5, e4, e3]; exact h2
  have a6 : σ6.1 2 = nI (G.length - 1) := by
    rw [e6']
    show σ5.1 2 - 1 = _
    rw [a5, show G.length = (G.length - 1) + 1 by omega, nI_pred]
    congr 1
  have f1 : σ6.2.1 1 = va_cpy (σ.2.1 1) (σ.2.1 1) (r + 1) r (G.length - (r + 1)) := by rw [e6', e5, e4, e3]; rfl
  have f2 : σ6.2.1 2 = va_cpy (σ.2.1 2) (σ.2.1 2) (r + 1) r (G.length - (r + 1)) := by rw [e6', e5, e4, e3]; rfl
  have f3 : σ6.2.1 3 = va_cpy (σ.2.1 3) (σ.2.1 3) ((r + 1) * 6) (r * 6) ((G.length - (r + 1)) * 6) := by rw [e6', e5, e4, e3]; rfl
  refine kk σ6 ⟨gg_ok_er h.1 hr, ?_, fun k hk => ?_⟩ (fun k hk => ?_) (fun k k1 k2 k3 => ?_) ?_
  · rw [gg_er_n hr]
    exact a6
  · rw [gg_er_n hr] at hk
    rw [f1, f2, f3, gg_er_l, gg_er_y]
    have hcp : ∀ f : Nat → Int32, va_cpy f f (r + 1) r (G.length - (r + 1)) k = f (if k < r then k else k + 1) := fun f => by
      show (if r ≤ k ∧ k < r + (G.length - (r + 1)) then f (r + 1 + (k - r)) else f k) = _
      by_cases q : k < r
      · rw [if_neg (by omega), if_pos q]
      · rw [if_pos (by omega), if_neg q, show r + 1 + (k - r) = k + 1 by omega]
    have hk' : (if k < r then k else k + 1) < G.length := by split <;> omega
    obtain ⟨b1, b2, b3⟩ := h.2.2 _ hk'
    have hz := (h.1.2 _ hk').2.1
    rw [hcp, hcp]
    refine ⟨b1, b2, fun i hi => ?_⟩
    rw [← b3 i hi]
    show (if r * 6 ≤ k * 6 + i ∧ k * 6 + i < r * 6 + (G.length - (r + 1)) * 6 then σ.2.1 3 ((r + 1) * 6 + (k * 6 + i - r * 6)) else σ.2.1 3 (k * 6 + i)) = _
    by_cases q : k < r
    · rw [if_neg (by omega), if_pos q]
    · have e1 : (r + 1) * 6 + (k * 6 + i - r * 6) = (k + 1) * 6 + i := by omega
      rw [if_pos (by omega), e1, if_neg q]
  · rw [e6', e5, e4, e3]
    show (if k = 2 then _ else σ.1 k) = σ.1 k
    rw [if_neg hk]
  · rw [e6', e5, e4, e3]
    show (if k = 3 then _ else (if k = 2 then _ else (if k = 1 then _ else σ.2.1 k))) = σ.2.1 k
    rw [if_neg k3, if_neg k2, if_neg k1]
  · rw [e6', e5, e4, e3]
    rfl
theorem s_rule {x : Int32} {K : Int32 → gs_St → Prop} (h : cl_at t G l d v σ)
    (k0 : ((∀ j, j < 8 → x ≠ nI j) ∨ G.length = 24) → ∀ τ, cl_at [] G l d v τ → K (-1) τ)
    (k1 : ∀ j, j < 8 → x = nI j → G.length < 24 → ∀ τ, cl_at [] (G ++ [(j, t)]) l d v τ → K (nI G.length) τ) : C_Gl_rule x σ K := by
  obtain ⟨⟨ht6, ht24, ht0, hti⟩, hg, hl, hd, h4, hst⟩ := h
  have hG := hg.1.1
  refine nm_r ht0 ?_
  intro σ2 e2
  have hc2 : cl_at [] G l d v σ2 := by
    rw [e2]
    exact ⟨⟨by decide, fun i hi => absurd hi (Nat.not_lt_zero _), rfl, fun i hi => absurd hi (Nat.not_lt_zero _)⟩, hg.of rfl rfl rfl rfl, hl.of rfl rfl, hd.of rfl rfl rfl rfl, h4, hst.elim Or.inl (fun z => Or.inr ⟨z.1, z.2.of rfl rfl rfl rfl rfl rfl rfl rfl rfl rfl rfl⟩)⟩
  refine s_isNt (fun j hj ex => ?_) (fun hno => br_t rfl (k0 (Or.inl hno) σ2 hc2))
  subst ex
  refine br_f (by decide) ?_
  have g2 : σ2.1 2 = nI G.length := hc2.2.1.2.1
  refine pk_lt G.length 24 (fun q => ?_) (fun q => k0 (Or.inr (by omega)) σ2 hc2) g2
  intro σ5 e5
  refine s_add (G := G) (t := t) (hg.of ?_ ?_ ?_ ?_) q hj ht6 ht24 (fun i hi => ?_) (fun τ hτ hI hA hL => ?_)
  · rw [e5, e2]; rfl
  · rw [e5, e2]; rfl
  · rw [e5, e2]; rfl
  · rw [e5, e2]; rfl
  · rw [e5, e2]
    exact hti i hi
  · refine k1 j hj rfl q τ ⟨⟨by decide, fun i hi => absurd hi (Nat.not_lt_zero _), ?_, fun i hi => absurd hi (Nat.not_lt_zero _)⟩, hτ, ?_, ?_, ?_, Or.inl ?_⟩
    · rw [hI 0 (by decide), e5, e2]; rfl
    · obtain ⟨q1, q2, q3⟩ := hl
      refine ⟨q1, ?_, fun i hi => ?_⟩
      · rw [hI 14 (by decide), e5, e2]; exact q2
      · rw [hA 14 (by decide) (by decide) (by decide), e5, e2]; exact q3 i hi
    · obtain ⟨q1, q2, q3, q4, q5, q6⟩ := hd
      refine ⟨q1, q2, ?_, ?_, fun i hi => ?_, fun i hi => ?_⟩
      · rw [hI 10 (by decide), e5, e2]; exact q3
      · rw [hI 11 (by decide), e5, e2]; exact q4
      · rw [hA 10 (by decide) (by decide) (by decide), e5, e2]; exact q5 i hi
      · rw [hA 11 (by decide) (by decide) (by decide), e5, e2]; exact q6 i hi
    · rw [hI 4 (by decide), e5, e2]; exact h4
    · rw [hI 1 (by decide), e5]; rfl
theorem s_drop {x : Int32} {K : Int32 → gs_St → Prop} (h : cl_at t G l d v σ)
    (k0 : (∀ r, r < G.length → x ≠ nI r) → K 0 σ)
    (k1 : ∀ r, r < G.length → x = nI r → ∀ τ, cl_at t (G.eraseIdx r) l d v τ → K 1 τ) : C_Gl_drop x σ K := by
  obtain ⟨⟨ht6, ht24, ht0, hti⟩, hg, hl, hd, h4, hst⟩ := h
  refine s_has hg (fun r hr ex => ?_) (fun hno => br_f (fun z => z rfl) (k0 hno))
  subst ex
  refine br_t (by decide) ?_
  intro σ3 e3
  refine s_remove (G := G) (hg.of ?_ ?_ ?_ ?_) hr (fun τ hτ hI hA hL => ?_)
  · rw [e3]; rfl
  · rw [e3]; rfl
  · rw [e3]; rfl
  · rw [e3]; rfl
  · refine k1 r hr rfl τ ⟨⟨ht6, ht24, ?_, fun i hi => ?_⟩, hτ, ?_, ?_, ?_, Or.inl ?_⟩
    · rw [hI 0 (by decide), e3]; exact ht0
    · rw [hA 0 (by decide) (by decide) (by decide), e3]; exact hti i hi
    · obtain ⟨q1, q2, q3⟩ := hl
      refine ⟨q1, ?_, fun i hi => ?_⟩
      · rw [hI 14 (by decide), e3]; exact q2
      · rw [hA 14 (by decide) (by decide) (by decide), e3]; exact q3 i hi
    · obtain ⟨q1, q2, q3, q4, q5, q6⟩ := hd
      refine ⟨q1, q2, ?_, ?_, fun i hi => ?_, fun i hi => ?_⟩
      · rw [hI 10 (by decide), e3]; exact q3
      · rw [hI 11 (by decide), e3]; exact q4
      · rw [hA 10 (by decide) (by decide) (by decide), e3]; exact q5 i hi
      · rw [hA 11 (by decide) (by decide) (by decide), e3]; exact q6 i hi
    · rw [hI 4 (by decide), e3]; exact h4
    · rw [hI 1 (by decide), e3]; rfl
end L2J
end
section
/-! Layer 2, part k: study, and what is asked of it. -/
theorem gm_L_cl {G : gg_R} {D : Nat → Option Nat} (hG : gg_ok G) (h : gm_L G D) : gg_cl G D := fun r hr hall => by
  refine (h _ (hG.2 r hr).1 0).mpr ?_
  have hS : gm_S (fun x a => ∃ k, gm_D G k x a) (gg_y G r) 0 := by
    have gen : ∀ ys : List Nat, (∀ y, y ∈ ys → y < 8 ∧ D y = some 0) → gm_S (fun x a => ∃ k, gm_D G k x a) ys 0 := by
      intro ys
      induction ys with
      | nil => exact fun _ => rfl
      | cons s ys ih =>
        intro hs
        obtain ⟨h1, h2⟩ := hs s List.mem_cons_self
        exact ⟨0, 0, rfl, fun _ => ((h s h1 0).mp h2).1, fun z => absurd z (by omega), ih (fun y hy => hs y (List.mem_cons_of_mem _ hy))⟩
    exact gen _ hall
  obtain ⟨k, hk⟩ := gm_S_some _ _ hS
  exact ⟨⟨k + 1, _, gg_mem hr, rfl, hk⟩, fun _ _ _ => Nat.zero_le _⟩
theorem cs_at_0 {G : gg_R} {D : Nat → Option Nat} {kp : Nat → Bool} {σ : gs_St} : cs_at G D kp (fun _ _ => 0) 0 σ :=
  ⟨fun _ _ => Nat.zero_le _, fun A _ p hp => absurd hp (Nat.not_lt_zero _), ⟨fun A n _ hn => absurd hn (Nat.not_lt_zero _), fun A _ _ h => absurd h (Nat.not_lt_zero _)⟩, fun r _ _ i _ p hp => absurd hp (Nat.not_lt_zero _)⟩
theorem cs_atw_0 {G : gg_R} {D : Nat → Option Nat} {kp : Nat → Bool} {σ : gs_St} : cs_atw G D kp (fun _ _ => 0) 0 σ :=
  ⟨fun _ _ => Nat.zero_le _, fun A _ p hp => absurd hp (Nat.not_lt_zero _), ⟨fun A n _ hn => absurd hn (Nat.not_lt_zero _), fun A _ _ h => absurd h (Nat.not_lt_zero _)⟩, fun r _ _ i _ p hp => absurd hp (Nat.not_lt_zero _)⟩
theorem gg_ord_le {T : Nat → Nat → Prop} {o : Nat → Nat} {c : Nat} (h : gg_ord T o c) : c ≤ 8 := by
  rcases Nat.lt_or_ge 8 c with q | q
  · obtain ⟨i, j, h1, h2, h3⟩ := gm_ph 8 o (fun i hi => h.1 i (by omega))
    exact absurd h3 (h.2.1 i j h1 (by omega))
  · exact q
section L2K
variable {G : gg_R} {σ : gs_St} {t : List Nat} {l : List Int32} {d v : List Nat}
theorem s_study {K : gs_St → Prop} (h : cl_at t G l d v σ) (kk : ∀ τ, cl_at t G l d v τ → st_at G τ → τ.1 1 = 1 → K τ) : C_Gl_study σ K := by
  obtain ⟨ht, hg, hl, hd, h4, hst⟩ := h
  refine ⟨fun hs0 => ?_, fun hs0 => ?_⟩
  · intro σ1 e1
    have g1 : gr_at G σ1 := hg.of (by rw [e1]; rfl) (by rw [e1]; rfl) (by rw [e1]; rfl) (by rw [e1]; rfl)
    refine s_leFind g1 (fun D O f g hf hgO hL hLA hbd hbO => ?_)
    refine s_ldFind (D := D) (g1.of rfl rfl rfl rfl) hf hbd (fun o c tt ff ho hp hff => ?_)
    intro σ4 e4 σ5 e5
    have hst5 : st_at G σ5 := by
      refine ⟨D, O, o, c, fun _ _ => 0, fun _ _ => 0, 0, 0, fun A hA => ?_, fun A hA => ?_, hL, hLA, hbd, hbO, ho, hp, fun j hj => ?_, ?_, gg_ord_le ho, ?_, by decide, cs_at_0, ?_, by decide, cs_atw_0⟩
      · rw [e5, e4]; exact hf A hA
      · rw [e5, e4]; exact hgO A hA
      · rw [e5, e4]; exact hff j hj
      · rw [e5, e4]; rfl
      · rw [e5, e4]; rfl
      · rw [e5]; rfl
    have h1 : σ5.1 1 = 1 := by rw [e5, e4, e1]; rfl
    refine kk σ5 ⟨ht.of ?_ ?_, hg.of ?_ ?_ ?_ ?_, hl.of ?_ ?_, hd.of ?_ ?_ ?_ ?_, ?_, Or.inr ⟨h1, hst5⟩⟩ hst5 h1
    · rw [e5, e4, e1]; rfl
    · rw [e5, e4, e1]; rfl
    · rw [e5, e4, e1]; rfl
    · rw [e5, e4, e1]; rfl
    · rw [e5, e4, e1]; rfl
    · rw [e5, e4, e1]; rfl
    · rw [e5, e4, e1]; rfl
    · rw [e5, e4, e1]; rfl
    · rw [e5, e4, e1]; rfl
    · rw [e5, e4, e1]; rfl
    · rw [e5, e4, e1]; rfl
    · rw [e5, e4, e1]; rfl
    · rw [e5, e4, e1]; exact h4
  · rcases hst with z | ⟨z, hs⟩
    · exact absurd z hs0
    · exact kk σ ⟨ht, hg, hl, hd, h4, Or.inr ⟨z, hs⟩⟩ hs z
/-- the least length of A, or -1 -/
def an_short (G : gg_R) (A : Nat) (r : Int32) : Prop := ∃ D, gm_L G D ∧ gg_bd D 1679616 ∧ r = gg_o (D A)
/-- the least length with rule q -/
def an_with (G : gg_R) (q : Nat) (r : Int32) : Prop := ∃ D O, gm_L G D ∧ gm_L (gm_A G D) O ∧ r = gg_o (gg_add (gg_sum D (gg_y G q)) (O (gg_l G q)))
/-- is there a circle -/
def an_circ (G : gg_R) (b : Prop) : Prop := ∃ D o c, gm_L G D ∧ gg_ord (gg_to G D) o c ∧ (8 ≤ c ∨ gg_stk (gg_to G D) o c) ∧ (b ↔ c < 8)
theorem s_shortest {x : Int32} {K : Int32 → gs_St → Prop} (h : cl_at t G l d v σ) (k0 : (∀ j, j < 8 → x ≠ nI j) → K (-1) σ) (k1 : ∀ j, j < 8 → x = nI j → ∀ r τ, cl_at t G l d v τ → an_short G j r → K r τ) : C_Gl_shortest x σ K := by
  refine s_isNt (fun j hj e => ?_) (fun hno => br_f (fun z => z rfl) (k0 hno))
  subst e
  refine br_t (by decide) (s_study h (fun τ hτ hs _ => ⟨vp_in_nI hj (by decide), ?_⟩))
  obtain ⟨D, O, o, c, T, T', N, N', h1, h2, h3, h4, h5, -⟩ := hs
  rw [nI_clamp (by omega), h1 j hj]
  exact k1 j hj rfl _ τ hτ ⟨D, h3, h5, rfl⟩
theorem s_shortestWith {x : Int32} {K : Int32 → gs_St → Prop} (h : cl_at t G l d v σ) (k0 : (∀ q, q < G.length → x ≠ nI q) → K (-1) σ) (k1 : ∀ q, q < G.length → x = nI q → ∀ r τ, cl_at t G l d v τ → an_with G q r → K r τ) : C_Gl_shortestWith x σ K := by
  refine s_has h.2.1 (fun q hq e => ?_) (fun hno => br_f (fun z => z rfl) (k0 hno))
  subst e
  refine br_t (by decide) (s_study h (fun τ hτ hs _ => ?_))
  obtain ⟨D, O, o, c, T, T', N, N', h1, h2, h3, h4, h5, h6, -⟩ := hs
  obtain ⟨hl8, hz, h24⟩ := hτ.2.1.1.2 q hq
  refine s_leastBut (D := D) (B := 1679616) hτ.2.1 hq h1 h5 (by decide) (by decide) ?_
  rw [gg_but_no _ 0 (by omega)]
  refine s_leftOf hτ.2.1 hq ⟨vp_in_nI hl8 (by decide), ?_⟩
  rw [nI_clamp (by omega), h2 _ hl8]
  have fin : ∀ r, r = gg_o (gg_add (gg_sum D (gg_y G q)) (O (gg_l G q))) → K r τ := fun r hr => k1 q hq rfl r τ hτ ⟨D, O, h3, h4, hr⟩
  refine nm_e ?_
  cases hs : gg_sum D (gg_y G q) with
  | none =>
    refine br_t rfl (fin _ ?_)
    rw [hs]
    rfl
  | some a =>
    have ha : a ≤ 6 * 1679616 := by
      have e1 := gg_but_le h5 (by decide) (gg_y G q) 0 a (by rw [gg_but_no _ 0 (by omega)]; exact hs)
      exact Nat.le_trans e1 (Nat.mul_le_mul_right _ hz)
    refine br_f (gg_o_ne (by omega)) ?_
    cases ho : O (gg_l G q) with
    | none =>
      refine br_f (fun z => z rfl) (fin _ ?_)
      rw [hs, ho]
      rfl
    | some b =>
      have hb := h6 _ hl8 b ho
      refine br_t (gg_o_ne (by omega)) (fin _ ?_)
      rw [hs, ho]
      exact nI_add a b
theorem s_circle {K : Int32 → gs_St → Prop} (h : cl_at t G l d v σ) (k1 : ∀ τ, cl_at t G l d v τ → st_at G τ → τ.1 1 = 1 → τ.1 3 ≠ nI 8 → an_circ G True → K 1 τ) (k0 : ∀ τ, cl_at t G l d v τ → st_at G τ → τ.1 1 = 1 → τ.1 3 = nI 8 → an_circ G False → K 0 τ) : C_Gl_circle σ K := by
  refine s_study h (fun τ hτ hs h1 => ?_)
  have hs' := hs
  obtain ⟨D, O, o, c, T, T', N, N', g1, g2, g3, g4, g5, g6, g7, g8, g9, g10, g11, -⟩ := hs'
  refine pk_le 8 c (fun q => ?_) (fun q => ?_) rfl g10
  · have hc : c = 8 := by omega
    subst hc
    exact k0 τ hτ hs h1 g10 ⟨D, o, 8, g3, g7, g8, ⟨fun z => z.elim, fun z => absurd z (by omega)⟩⟩
  · exact k1 τ hτ hs h1 (fun e => by rw [g10] at e; have := (nI_eq (by omega) (by decide)).mp e; omega) ⟨D, o, c, g3, g7, g8, ⟨fun _ => q, fun _ => trivial⟩⟩
end L2K
end
section
/-! Layer 2, part l: trees and treesWith. -/
/-- v is the number of trees of A of the length n, among the kept rules -/
def an_tab (G : gg_R) (kp : Nat → Bool) (A n v : Nat) : Prop := ∃ D o T N, gm_L G D ∧ gg_ord (gg_to G D) o 8 ∧ gc_okk (fun y => D y = some 0) G kp T N ∧ n < N ∧ v = T A n
section L2L
variable {G : gg_R} {σ : gs_St} {t : List Nat} {l : List Int32} {d v : List Nat} {D O : Nat → Option Nat} {o : Nat → Nat} {T T' : Nat → Nat → Nat} {N N' : Nat}
/-- all but what is found out of the rules -/
def cl_r (t : List Nat) (G : gg_R) (l : List Int32) (d v : List Nat) (σ : gs_St) : Prop := tx_at t σ ∧ gr_at G σ ∧ li_at l σ ∧ dr_at d v σ ∧ σ.1 4 = -1 ∧ σ.1 1 = 1
theorem cl_r.cl (h : cl_r t G l d v σ) (hs : st_at G σ) : cl_at t G l d v σ := ⟨h.1, h.2.1, h.2.2.1, h.2.2.2.1, h.2.2.2.2.1, Or.inr ⟨h.2.2.2.2.2, hs⟩⟩
theorem cl_at.r (h : cl_at t G l d v σ) (h1 : σ.1 1 = 1) : cl_r t G l d v σ := ⟨h.1, h.2.1, h.2.2.1, h.2.2.2.1, h.2.2.2.2.1, h1⟩
theorem s_isCounted {x : Int32} {K : Int32 → gs_St → Prop} (h : cl_at t G l d v σ)
    (k0 : ∀ τ, cl_at t G l d v τ → ((∀ n, n ≤ 16 → x ≠ nI n) ∨ an_circ G True) → K 0 τ)
    (k1 : ∀ n, n ≤ 16 → x = nI n → ∀ τ, cl_r t G l d v τ → ∀ D O o T T' N N', st_w G D O o 8 T T' N N' τ → K 1 τ) : C_Gl_isCounted x σ K := by
  refine s_study h (fun τ hτ hs h1 => ?_)
  have hs' := hs
  obtain ⟨D, O, o, c, T, T', N, N', hw⟩ := hs'
  obtain ⟨g1, g2, g3, g4, g5, g6, g7, g8, g9, g10, g11, -⟩ := id hw
  rcases pk_ix x (n := 17) (by decide) with q | q | ⟨n, hn, rfl⟩
  · exact ⟨fun _ => k0 τ hτ (Or.inl (fun n hn e => absurd (e ▸ q) (nI_pos (by omega)))), fun z => absurd q z⟩
  · have hno : ∀ n, n ≤ 16 → x ≠ nI n := fun n hn e => absurd (e ▸ q) (nI_ge (by omega) (by decide))
    have hgt : (16 : Int32) < x := by
      have a : nI 16 < nI 17 := nI_lt (by decide) (by decide)
      rw [Int32.lt_iff_toInt_lt] at a ⊢
      rw [Int32.le_iff_toInt_le] at q
      exact Int.lt_of_lt_of_le a q
    exact ⟨fun _ => k0 τ hτ (Or.inl hno), fun _ => ⟨fun _ => k0 τ hτ (Or.inl hno), fun z => absurd hgt z⟩⟩
  · refine br_f (nI_pos (by omega)) (pk_lt 16 n (fun q => absurd q (by omega)) (fun _ => ?_))
    refine pk_le 8 c (fun q => ?_) (fun q => ?_) rfl g10
    · have hc : c = 8 := by omega
      subst hc
      exact br_f (fun z => z rfl) (k1 n (by omega) rfl τ (hτ.r h1) D O o T T' N N' hw)
    · exact br_t (by decide) (k0 τ hτ (Or.inr ⟨D, o, c, g3, g7, g8, ⟨fun _ => q, fun _ => trivial⟩⟩))
theorem s_treesAll {A n : Nat} {K : Int64 → gs_St → Prop} (h : cl_r t G l d v σ) (hw : st_w G D O o 8 T T' N N' σ) (hA : A < 8) (hn : n ≤ 16)
    (kk : ∀ (T2 : Nat → Nat → Nat) (N2 : Nat) (τ : gs_St), cl_r t G l d v τ → st_w G D O o 8 T2 T' N2 N' τ → n < N2 → K (lN (T2 A n)) τ) : C_Co_treesOf (nI A) (nI n) σ K := by
  obtain ⟨q1, q2, q3, q4, q5, q6⟩ := h
  obtain ⟨h1, h2, h3, h4, h5, h6, h7, h8, h9, h10, h11, h12, h13, h14, h15, h16, h17⟩ := hw
  refine s_treesOf (G := G) (D := D) (o := o) (kp := fun _ => true) (T := T) (N := N) q2 h7 h9 (gm_L_cl q2.1 h3) hA hn h13 h12 (fun r hr => ?_) h14 (fun T2 N2 tt ee hN2 hnN hN17 hc2 => ?_)
  · rw [q5]
    refine ⟨fun _ e => ?_, fun _ => rfl⟩
    have := nI_pos (n := r) (by have := q2.1.1; omega)
    rw [e] at this
    exact this (by decide)
  · exact kk T2 N2 _ ⟨q1.of rfl rfl, q2.of rfl rfl rfl rfl, q3.of rfl rfl, q4.of rfl rfl rfl rfl, q5, q6⟩ ⟨h1, h2, h3, h4, h5, h6, h7, h8, h9, h10, h11, rfl, hN17, hc2, h15, h16, h17.of rfl rfl⟩ hnN
theorem s_trees {x y : Int32} {K : Int64 → gs_St → Prop} (h : cl_at t G l d v σ)
    (k0 : ∀ τ, cl_at t G l d v τ → ((∀ j, j < 8 → x ≠ nI j) ∨ (∀ n, n ≤ 16 → y ≠ nI n) ∨ an_circ G True) → K (-1) τ)
    (k1 : ∀ j, j < 8 → x = nI j → ∀ n, n ≤ 16 → y = nI n → ∀ D O o T T' N N' τ, cl_r t G l d v τ → st_w G D O o 8 T T' N N' τ → n < N → K (if T j n ≤ 1000000000000000000 then lN (T j n) else -2) τ) : C_Gl_trees x y σ K := by
  refine s_isNt (fun j hj e => ?_) (fun hno => br_t rfl (k0 σ h (Or.inl hno)))
  subst e
  refine br_f (by decide) ?_
  refine s_isCounted h (fun τ hτ hno => br_f (fun z => z rfl) (k0 τ hτ (Or.inr hno))) (fun n hn e τ hτ D O o T T' N N' hw => ?_)
  subst e
  refine br_t (by decide) (s_treesAll hτ hw hj hn (fun T2 N2 τ2 hτ2 hw2 hn2 => ?_))
  have hb := hw2.2.2.2.2.2.2.2.2.2.2.2.2.2.1.1 j n
  have := k1 j hj rfl n hn rfl D O o T2 T' N2 N' τ2 hτ2 hw2 hn2
  rw [gl_18]
  refine ek_if (pk_lLE (by omega) (by decide)) (fun q => ?_) (fun q => ?_)
  · rw [if_pos q] at this
    exact this
  · rw [if_neg q] at this
    exact this
theorem s_leaveOut {r : Nat} {K : gs_St → Prop} (h : cl_r t G l d v σ) (hw : st_w G D O o 8 T T' N N' σ) (kk : ∀ T2 N2 τ, cl_r t G l d v τ → st_w G D O o 8 T T2 N N2 τ → τ.1 6 = nI r → K τ) : C_Co_leaveOutw (nI r) σ K := by
  obtain ⟨q1, q2, q3, q4, q5, q6⟩ := h
  refine ⟨fun e => kk T' N' σ ⟨q1, q2, q3, q4, q5, q6⟩ hw e, fun e => ?_⟩
  intro σ1 e1 σ2 e2
  obtain ⟨h1, h2, h3, h4, h5, h6, h7, h8, h9, h10, h11, h12, h13, h14, h15, h16, h17⟩ := hw
  subst e2
  subst e1
  exact kk (fun _ _ => 0) 0 _ ⟨q1.of rfl rfl, q2.of rfl rfl rfl rfl, q3.of rfl rfl, q4.of rfl rfl rfl rfl, q5, q6⟩ ⟨h1, h2, h3, h4, h5, h6, h7, h8, h9, h10, h11, h12, h13, h14.of rfl rfl, rfl, by decide, cs_atw_0⟩ rfl
theorem s_treesWo {A n r : Nat} {K : Int64 → gs_St → Prop} (h : cl_r t G l d v σ) (hw : st_w G D O o 8 T T' N N' σ) (hr : σ.1 6 = nI r) (hA : A < 8) (hn : n ≤ 16)
    (kk : ∀ (T2 : Nat → Nat → Nat) (N2 : Nat) (τ : gs_St), cl_r t G l d v τ → st_w G D O o 8 T T2 N N2 τ → gc_okk (fun y => D y = some 0) G (fun q => decide (nI q ≠ nI r)) T2 N2 → n < N2 → T2 A n ≤ 1000000000000000001 → K (lN (T2 A n)) τ) : C_Co_treesOfw (nI A) (nI n) σ K := by
  obtain ⟨q1, q2, q3, q4, q5, q6⟩ := h
  obtain ⟨h1, h2, h3, h4, h5, h6, h7, h8, h9, h10, h11, h12, h13, h14, h15, h16, h17⟩ := hw
  refine s_treesOfw (G := G) (D := D) (o := o) (kp := fun q => decide (nI q ≠ σ.1 6)) (T := T') (N := N') q2 h7 h9 (gm_L_cl q2.1 h3) hA hn h16 h15 (fun r hr => decide_eq_true_iff) h17 (fun T2 N2 tt ee hN2 hnN hN17 hc2 => ?_)
  refine kk T2 N2 _ ⟨q1.of rfl rfl, q2.of rfl rfl rfl rfl, q3.of rfl rfl, q4.of rfl rfl rfl rfl, q5, q6⟩ ⟨h1, h2, h3, h4, h5, h6, h7, h8, h9, h10, h11, h12, h13, h14.of rfl rfl, rfl, hN17, hc2⟩ ?_ hnN (hc2.1 A n)
  have := hc2.2.2.1
  rw [hr] at this
  exact this
theorem s_treesWith {x y : Int32} {K : Int64 → gs_St → Prop} (h : cl_at t G l d v σ)
    (k0 : ∀ τ, cl_at t G l d v τ → ((∀ r, r < G.length → x ≠ nI r) ∨ (∀ n, n ≤ 16 → y ≠ nI n) ∨ an_circ G True) → K (-1) τ)
    (k1 : ∀ r, r < G.length → x = nI r → ∀ n, n ≤ 16 → y = nI n → ∀ τ a, cl_at t G l d v τ → an_tab G (fun _ => true) 0 n a → 1000000000000000000 < a → K (-2) τ)
    (k2 : ∀ r, r < G.length → x = nI r → ∀ n, n ≤ 16 → y = nI n → ∀ τ a b, cl_at t G l d v τ → an_tab G (fun _ => true) 0 n a → a ≤ 1000000000000000000 → an_tab G (fun q => decide (nI q ≠ nI r)) 0 n b → K (lN a - lN b) τ) : C_Gl_treesWith x y σ K := by
  refine s_has h.2.1 (fun r hr e => ?_) (fun hno => br_t rfl (k0 σ h (Or.inl hno)))
  subst e
  refine br_f (by decide) ?_
  refine s_isCounted h (fun τ hτ hno => br_f (fun z => z rfl) (k0 τ hτ (Or.inr hno))) (fun n hn e τ hτ D O o T T' N N' hw => ?_)
  subst e
  refine br_t (by decide) (s_treesAll (A := 0) hτ hw (by decide) hn (fun T2 N2 τ2 hτ2 hw2 hn2 => ?_))
  obtain ⟨h1, h2, h3, h4, h5, h6, h7, h8, h9, h10, h11, h12, h13, h14, -⟩ := id hw2
  have hb := h14.1 0 n
  have tab : an_tab G (fun _ => true) 0 n (T2 0 n) := ⟨D, o, T2, N2, h3, h7, h14.2.2.1, hn2, rfl⟩
  rw [gl_18]
  refine ek_if (pk_lLE (by omega) (by decide)) (fun q => ?_) (fun q => k1 r hr rfl n hn rfl τ2 _ (hτ2.cl ⟨D, O, o, 8, T2, T', N2, N', hw2⟩) tab (by omega))
  refine s_leaveOut hτ2 hw2 (fun T3 N3 τ3 hτ3 hw3 h6r => ?_)
  refine s_treesWo (A := 0) hτ3 hw3 h6r (by decide) hn (fun T4 N4 τ4 hτ4 hw4 hok hn4 hb4 => ?_)
  exact k2 r hr rfl n hn rfl τ4 _ _ (hτ4.cl ⟨D, O, o, 8, T2, T4, N2, N4, hw4⟩) tab q ⟨D, o, T4, N4, h3, h7, hok, hn4, rfl⟩
end L2L
end
section
/-! Layer 2, part m: the tree with a number, as a function. -/
def gd_F (T : Nat → Nat → Nat) (s p : Nat) : Nat := if s < 8 then T s p else if p = 1 then 1 else 0
/-- the ways in which s yields p of n -/
def gd_w (T : Nat → Nat → Nat) (s : Nat) (ys : List Nat) (n p : Nat) : Nat := gc_cap (gd_F T s p * gc_E T ys (n - p))
/-- the part that the number m falls into, and the number within it -/
def gd_pt (T : Nat → Nat → Nat) (s : Nat) (ys : List Nat) (n : Nat) : Nat → Nat → Nat → Nat × Nat
  | 0, p, m => (p, m)
  | k + 1, p, m => if m < gd_w T s ys n p then (p, m) else gd_pt T s ys n k (p + 1) (m - gd_w T s ys n p)
/-- the symbols of a right side, each with its length and its number -/
def gd_sp (T : Nat → Nat → Nat) : List Nat → Nat → Nat → List (Nat × Nat × Nat)
  | [], _, _ => []
  | s :: ys, n, m => (s, (gd_pt T s ys n n 0 m).1, (gd_pt T s ys n n 0 m).2 / max 1 (gc_E T ys (n - (gd_pt T s ys n n 0 m).1))) :: gd_sp T ys (n - (gd_pt T s ys n n 0 m).1) ((gd_pt T s ys n n 0 m).2 % max 1 (gc_E T ys (n - (gd_pt T s ys n n 0 m).1)))
/-- the rule that the number m falls into -/
def gd_pk (T : Nat → Nat → Nat) (G : gg_R) (A n : Nat) : Nat → Nat → Nat → Option (Nat × Nat)
  | 0, _, _ => none
  | k + 1, r, m => if gg_l G r = A then (if m < gc_E T (gg_y G r) n then some (r, m) else gd_pk T G A n k (r + 1) (m - gc_E T (gg_y G r) n)) else gd_pk T G A n k (r + 1) m
/-- how many of a pile are nonterminals; their lengths together -/
def gd_nt (p : List (Nat × Nat × Nat)) : Nat := gg_ntn (p.map (fun e => e.1))
def gd_ln : List (Nat × Nat × Nat) → Nat
  | [] => 0
  | e :: p => e.2.1 + gd_ln p
/-- an entry that is a tree's, or a terminal -/
def gd_v (T : Nat → Nat → Nat) (e : Nat × Nat × Nat) : Prop := (e.1 < 8 → e.2.2 < T e.1 e.2.1 ∧ T e.1 e.2.1 ≤ 1000000000000000000) ∧ (8 ≤ e.1 → e.2.1 = 1)
theorem gc_E_cap (T : Nat → Nat → Nat) : ∀ (ys : List Nat) (n : Nat), gc_cap (gc_E T ys n) = gc_E T ys n
  | [], n => by
    show gc_cap (if n = 0 then 1 else 0) = (if n = 0 then 1 else 0)
    split <;> rfl
  | s :: ys, n => by
    by_cases hs : s < 8
    · rw [gc_E_nt hs, gc_cap_cap]
    · rw [gc_E_t hs]
      split
      · rfl
      · exact gc_E_cap T ys (n - 1)
theorem gc_sum_one (f : Nat → Nat) (v : Nat) : ∀ n, (∀ p, p ≠ 1 → f p = 0) → gc_sum f (n + 2) = f 1
  | 0, h => by
    show 0 + f 0 + f 1 = f 1
    rw [h 0 (by decide)]
    omega
  | n + 1, h => by
    show gc_sum f (n + 2) + f (n + 2) = f 1
    rw [gc_sum_one f v n h, h (n + 2) (by omega)]
    omega
theorem gc_E_sum (T : Nat → Nat → Nat) (s : Nat) (ys : List Nat) (n : Nat) : gc_E T (s :: ys) n = gc_cap (gc_sum (fun p => gd_F T s p * gc_E T ys (n - p)) (n + 1)) := by
  by_cases hs : s < 8
  · rw [gc_E_nt hs]
    congr 1
    exact gc_sum_congr _ (fun p _ => by unfold gd_F; rw [if_pos hs])
  · rw [gc_E_t hs]
    have hF : ∀ p, p ≠ 1 → gd_F T s p * gc_E T ys (n - p) = 0 := fun p hp => by
      unfold gd_F
      rw [if_neg hs, if_neg hp, Nat.zero_mul]
    by_cases hn : n = 0
    · subst hn
      rw [if_pos rfl]
      show 0 = gc_cap (0 + gd_F T s 0 * gc_E T ys (0 - 0))
      rw [hF 0 (by decide)]
      rfl
    · rw [if_neg hn]
      obtain ⟨m, rfl⟩ : ∃ m, n = m + 1 := ⟨n - 1, by omega⟩
      rw [gc_sum_one _ 0 m hF]
      show gc_E T ys (m + 1 - 1) = gc_cap (gd_F T s 1 * gc_E T ys (m + 1 - 1))
      have h1 : gd_F T s 1 = 1 := by unfold gd_F; rw [if_neg hs, if_pos rfl]
      rw [h1, Nat.one_mul, gc_E_cap]
theorem gc_sum_mono (f : Nat → Nat) : ∀ (m n : Nat), m ≤ n → gc_sum f m ≤ gc_sum f n
  | m, 0, h => by
    rw [show m = 0 by omega]
    exact Nat.le_refl _
  | m, n + 1, h => by
    by_cases e : m = n + 1
    · rw [e]
      exact Nat.le_refl _
    · have := gc_sum_mono f m n (by omega)
      show gc_sum f m ≤ gc_sum f n + f n
      omega
theorem gc_cap_small {a : Nat} (h : gc_cap a ≤ 1000000000000000000) : gc_cap a = a ∧ a ≤ 1000000000000000000 := by
  unfold gc_cap at h ⊢
  split at h
  · rename_i q
    exact ⟨if_pos q, q⟩
  · omega
theorem gd_pt_ok {T : Nat → Nat → Nat} {s n : Nat} {ys : List Nat} (hs : gc_sum (fun p => gd_F T s p * gc_E T ys (n - p)) (n + 1) ≤ 1000000000000000000) : ∀ (k p m : Nat), p + k = n → m + gc_sum (fun p => gd_F T s p * gc_E T ys (n - p)) p < gc_sum (fun p => gd_F T s p * gc_E T ys (n - p)) (n + 1) →
    (gd_pt T s ys n k p m).1 ≤ n ∧ (gd_pt T s ys n k p m).2 < gd_F T s (gd_pt T s ys n k p m).1 * gc_E T ys (n - (gd_pt T s ys n k p m).1)
  | 0, p, m, hp, hm => by
    have hp : p = n := hp
    subst hp
    refine ⟨Nat.le_refl _, ?_⟩
    have hm : m + gc_sum (fun q => gd_F T s q * gc_E T ys (p - q)) p < gc_sum (fun q => gd_F T s q * gc_E T ys (p - q)) p + gd_F T s p * gc_E T ys (p - p) := hm
    show m < gd_F T s p * gc_E T ys (p - p)
    omega
  | k + 1, p, m, hp, hm => by
    have hle : gc_sum (fun p => gd_F T s p * gc_E T ys (n - p)) (p + 1) ≤ gc_sum (fun p => gd_F T s p * gc_E T ys (n - p)) (n + 1) := gc_sum_mono _ _ _ (by omega)
    have hnx : gc_sum (fun p => gd_F T s p * gc_E T ys (n - p)) (p + 1) = gc_sum (fun p => gd_F T s p * gc_E T ys (n - p)) p + gd_F T s p * gc_E T ys (n - p) := rfl
    have hw : gd_w T s ys n p = gd_F T s p * gc_E T ys (n - p) := by
      unfold gd_w gc_cap
      rw [if_pos (by omega)]
    have e : gd_pt T s ys n (k + 1) p m = if m < gd_w T s ys n p then (p, m) else gd_pt T s ys n k (p + 1) (m - gd_w T s ys n p) := rfl
    rw [e]
    by_cases q : m < gd_w T s ys n p
    · rw [if_pos q]
      exact ⟨by show p ≤ n; omega, by rw [hw] at q; exact q⟩
    · rw [if_neg q]
      exact gd_pt_ok hs k (p + 1) _ (by omega) (by rw [hnx]; omega)
theorem gd_sp_ok {T : Nat → Nat → Nat} : ∀ (ys : List Nat) (n m : Nat), m < gc_E T ys n → gc_E T ys n ≤ 1000000000000000000 →
    (∀ e, e ∈ gd_sp T ys n m → gd_v T e) ∧ gd_ln (gd_sp T ys n m) = n ∧ (gd_sp T ys n m).map (fun e => e.1) = ys
  | [], n, m, hm, hb => by
    have hm : m < (if n = 0 then 1 else 0) := hm
    refine ⟨fun e he => absurd he List.not_mem_nil, ?_, rfl⟩
    show 0 = n
    split at hm
    · omega
    · omega
  | s :: ys, n, m, hm, hb => by
    rw [gc_E_sum] at hm hb
    obtain ⟨h1, h2⟩ := gc_cap_small hb
    rw [h1] at hm
    obtain ⟨g1, g2⟩ := gd_pt_ok h2 n 0 m (by omega) (by show m + 0 < _; omega)
    have e : gd_sp T (s :: ys) n m = (s, (gd_pt T s ys n n 0 m).1, (gd_pt T s ys n n 0 m).2 / max 1 (gc_E T ys (n - (gd_pt T s ys n n 0 m).1))) :: gd_sp T ys (n - (gd_pt T s ys n n 0 m).1) ((gd_pt T s ys n n 0 m).2 % max 1 (gc_E T ys (n - (gd_pt T s ys n n 0 m).1))) := rfl
    rw [e]
    revert g1 g2
    generalize gd_pt T s ys n n 0 m = q
    intro g1 g2
    have hle : gd_F T s q.1 * gc_E T ys (n - q.1) ≤ gc_sum (fun p => gd_F T s p * gc_E T ys (n - p)) (n + 1) := by
      have a := gc_sum_mono (fun p => gd_F T s p * gc_E T ys (n - p)) (q.1 + 1) (n + 1) (by omega)
      have b : gc_sum (fun p => gd_F T s p * gc_E T ys (n - p)) (q.1 + 1) = gc_sum (fun p => gd_F T s p * gc_E T ys (n - p)) q.1 + gd_F T s q.1 * gc_E T ys (n - q.1) := rfl
      omega
    have hE : 0 < gc_E T ys (n - q.1) := Nat.pos_of_ne_zero (fun z => by rw [z, Nat.mul_zero] at g2; omega)
    have hF : 0 < gd_F T s q.1 := Nat.pos_of_ne_zero (fun z => by rw [z, Nat.zero_mul] at g2; omega)
    have hmx : max 1 (gc_E T ys (n - q.1)) = gc_E T ys (n - q.1) := Nat.max_eq_right hE
    rw [hmx]
    have hE2 : gc_E T ys (n - q.1) ≤ gd_F T s q.1 * gc_E T ys (n - q.1) := Nat.le_mul_of_pos_left _ hF
    have hF2 : gd_F T s q.1 ≤ gd_F T s q.1 * gc_E T ys (n - q.1) := Nat.le_mul_of_pos_right _ hE
    obtain ⟨i1, i2, i3⟩ := gd_sp_ok ys (n - q.1) (q.2 % gc_E T ys (n - q.1)) (Nat.mod_lt _ hE) (by omega)
    refine ⟨fun e he => ?_, ?_, ?_⟩
    · rcases List.mem_cons.mp he with z | z
      · subst z
        refine ⟨fun hs => ?_, fun hs => ?_⟩
        · have hFs : gd_F T s q.1 = T s q.1 := by unfold gd_F; rw [if_pos hs]
          rw [hFs] at g2 hF2 hE2 hle
          refine ⟨?_, by show T s q.1 ≤ _; omega⟩
          show q.2 / gc_E T ys (n - q.1) < T s q.1
          exact (Nat.div_lt_iff_lt_mul hE).mpr g2
        · show q.1 = 1
          have hs : 8 ≤ s := hs
          unfold gd_F at hF
          rw [if_neg (by omega)] at hF
          exact Classical.byContradiction (fun z => by rw [if_neg z] at hF; omega)
      · exact i1 e z
    · show q.1 + gd_ln (gd_sp T ys (n - q.1) (q.2 % gc_E T ys (n - q.1))) = n
      rw [i2]
      omega
    · show s :: (gd_sp T ys (n - q.1) (q.2 % gc_E T ys (n - q.1))).map (fun e => e.1) = s :: ys
      rw [i3]
theorem gc_pt_true_mono (T : Nat → Nat → Nat) (G : gg_R) (A n : Nat) : ∀ (r q : Nat), r ≤ q → gc_pt T G (fun _ => true) A n r ≤ gc_pt T G (fun _ => true) A n q
  | r, 0, h => by
    rw [show r = 0 by omega]
    exact Nat.le_refl _
  | r, q + 1, h => by
    by_cases e : r = q + 1
    · rw [e]
      exact Nat.le_refl _
    · have := gc_pt_true_mono T G A n r q (by omega)
      show _ ≤ gc_pt T G (fun _ => true) A n q + _
      omega
theorem gd_pk_ok {T : Nat → Nat → Nat} {G : gg_R} {A n : Nat} (hb : gc_pt T G (fun _ => true) A n G.length ≤ 1000000000000000000) : ∀ (k r m : Nat), r + k = G.length → m + gc_pt T G (fun _ => true) A n r < gc_pt T G (fun _ => true) A n G.length →
    ∃ q m', gd_pk T G A n k r m = some (q, m') ∧ r ≤ q ∧ q < G.length ∧ gg_l G q = A ∧ m' < gc_E T (gg_y G q) n ∧ gc_E T (gg_y G q) n ≤ 1000000000000000000
  | 0, r, m, hr, hm => by
    have hr : r = G.length := hr
    subst hr
    omega
  | k + 1, r, m, hr, hm => by
    have e : gd_pk T G A n (k + 1) r m = if gg_l G r = A then (if m < gc_E T (gg_y G r) n then some (r, m) else gd_pk T G A n k (r + 1) (m - gc_E T (gg_y G r) n)) else gd_pk T G A n k (r + 1) m := rfl
    have hnx : gc_pt T G (fun _ => true) A n (r + 1) = gc_pt T G (fun _ => true) A n r + (if true = true ∧ gg_l G r = A then gc_E T (gg_y G r) n else 0) := rfl
    have hle := gc_pt_true_mono T G A n (r + 1) G.length (by omega)
    rw [e]
    by_cases hl : gg_l G r = A
    · rw [if_pos ⟨rfl, hl⟩] at hnx
      rw [if_pos hl]
      by_cases q : m < gc_E T (gg_y G r) n
      · rw [if_pos q]
        exact ⟨r, m, rfl, Nat.le_refl _, by omega, hl, q, by omega⟩
      · rw [if_neg q]
        obtain ⟨q1, m1, z1, z2, z3⟩ := gd_pk_ok hb k (r + 1) (m - gc_E T (gg_y G r) n) (by omega) (by omega)
        exact ⟨q1, m1, z1, by omega, z3⟩
    · rw [if_neg (fun z => hl z.2)] at hnx
      rw [if_neg hl]
      obtain ⟨q1, m1, z1, z2, z3⟩ := gd_pk_ok hb k (r + 1) m (by omega) (by omega)
      exact ⟨q1, m1, z1, by omega, z3⟩
theorem gd_nt_app (a b : List (Nat × Nat × Nat)) : gd_nt (a ++ b) = gd_nt a + gd_nt b := by
  unfold gd_nt
  induction a with
  | nil => rw [List.nil_append]; show _ = 0 + _; omega
  | cons e a ih =>
    show (if e.1 < 8 then 1 else 0) + gg_ntn ((a ++ b).map (fun e => e.1)) = ((if e.1 < 8 then 1 else 0) + gg_ntn (a.map (fun e => e.1))) + gg_ntn (b.map (fun e => e.1))
    rw [ih]
    omega
theorem gd_ln_app (a b : List (Nat × Nat × Nat)) : gd_ln (a ++ b) = gd_ln a + gd_ln b := by
  induction a with
  | nil => rw [List.nil_append]; show _ = 0 + _; omega
  | cons e a ih =>
    show e.2.1 + gd_ln (a ++ b) = (e.2.1 + gd_ln a) + gd_ln b
    rw [ih]
    omega
/-- a pile isn't larger than its nonterminals and its lengths together -/
theorem gd_size {T : Nat → Nat → Nat} : ∀ p : List (Nat × Nat × Nat), (∀ e, e ∈ p → gd_v T e) → p.length ≤ gd_nt p + gd_ln p
  | [], _ => Nat.le_refl 0
  | e :: p, h => by
    have ih := gd_size p (fun x hx => h x (List.mem_cons_of_mem _ hx))
    have hv := h e List.mem_cons_self
    show p.length + 1 ≤ ((if e.1 < 8 then 1 else 0) + gd_nt p) + (e.2.1 + gd_ln p)
    split
    · omega
    · have := hv.2 (by omega)
      omega
/-- the walk: a pile, the row and the yield so far, and what comes of them; none where the row becomes too long -/
def gd_res (T : Nat → Nat → Nat) (G : gg_R) : Nat → List (Nat × Nat × Nat) → List Nat → List Nat → Option (List Nat × List Nat) → Prop
  | 0, _, _, _, _ => False
  | _ + 1, [], R, L, o => o = some (R, L)
  | k + 1, e :: p, R, L, o => if e.1 < 8 then ∃ q, gd_pk T G e.1 e.2.1 G.length 0 e.2.2 = some q ∧ (if R.length < 200 then gd_res T G k (gd_sp T (gg_y G q.1) e.2.1 q.2 ++ p) (R ++ [q.1]) L o else o = none) else gd_res T G k p R (L ++ [e.1]) o
theorem gd_res_one {T : Nat → Nat → Nat} {G : gg_R} : ∀ (k k' : Nat) (p : List (Nat × Nat × Nat)) (R L : List Nat) (o o' : Option (List Nat × List Nat)), gd_res T G k p R L o → gd_res T G k' p R L o' → o = o'
  | 0, _, _, _, _, _, _, h, _ => h.elim
  | _ + 1, 0, _, _, _, _, _, _, h' => h'.elim
  | k + 1, k' + 1, [], R, L, o, o', h, h' => by
    have h : o = some (R, L) := h
    have h' : o' = some (R, L) := h'
    rw [h, h']
  | k + 1, k' + 1, e :: p, R, L, o, o', h, h' => by
    have h : if e.1 < 8 then ∃ q, gd_pk T G e.1 e.2.1 G.length 0 e.2.2 = some q ∧ (if R.length < 200 then gd_res T G k (gd_sp T (gg_y G q.1) e.2.1 q.2 ++ p) (R ++ [q.1]) L o else o = none) else gd_res T G k p R (L ++ [e.1]) o := h
    have h' : if e.1 < 8 then ∃ q, gd_pk T G e.1 e.2.1 G.length 0 e.2.2 = some q ∧ (if R.length < 200 then gd_res T G k' (gd_sp T (gg_y G q.1) e.2.1 q.2 ++ p) (R ++ [q.1]) L o' else o' = none) else gd_res T G k' p R (L ++ [e.1]) o' := h'
    by_cases c : e.1 < 8
    · rw [if_pos c] at h h'
      obtain ⟨q, h1, h2⟩ := h
      obtain ⟨q', h1', h2'⟩ := h'
      rw [h1] at h1'
      injection h1' with h1'
      subst h1'
      by_cases c2 : R.length < 200
      · rw [if_pos c2] at h2 h2'
        exact gd_res_one k k' _ _ _ _ _ h2 h2'
      · rw [if_neg c2] at h2 h2'
        rw [h2, h2']
    · rw [if_neg c] at h h'
      exact gd_res_one k k' _ _ _ _ _ h h'
theorem gd_res_nt {T : Nat → Nat → Nat} {G : gg_R} {k : Nat} {e : Nat × Nat × Nat} {p : List (Nat × Nat × Nat)} {R L : List Nat} {o : Option (List Nat × List Nat)} {r m : Nat} (he : e.1 < 8) (hq : gd_pk T G e.1 e.2.1 G.length 0 e.2.2 = some (r, m)) (hR : R.length < 200) (h : gd_res T G k (gd_sp T (gg_y G r) e.2.1 m ++ p) (R ++ [r]) L o) : gd_res T G (k + 1) (e :: p) R L o := by
  show if e.1 < 8 then ∃ q, gd_pk T G e.1 e.2.1 G.length 0 e.2.2 = some q ∧ (if R.length < 200 then gd_res T G k (gd_sp T (gg_y G q.1) e.2.1 q.2 ++ p) (R ++ [q.1]) L o else o = none) else gd_res T G k p R (L ++ [e.1]) o
  rw [if_pos he]
  refine ⟨(r, m), hq, ?_⟩
  rw [if_pos hR]
  exact h
theorem gd_res_full {T : Nat → Nat → Nat} {G : gg_R} {k : Nat} {e : Nat × Nat × Nat} {p : List (Nat × Nat × Nat)} {R L : List Nat} {q : Nat × Nat} (he : e.1 < 8) (hq : gd_pk T G e.1 e.2.1 G.length 0 e.2.2 = some q) (hR : ¬ R.length < 200) : gd_res T G (k + 1) (e :: p) R L none := by
  show if e.1 < 8 then ∃ q, gd_pk T G e.1 e.2.1 G.length 0 e.2.2 = some q ∧ (if R.length < 200 then gd_res T G k (gd_sp T (gg_y G q.1) e.2.1 q.2 ++ p) (R ++ [q.1]) L none else (none : Option (List Nat × List Nat)) = none) else gd_res T G k p R (L ++ [e.1]) none
  rw [if_pos he]
  refine ⟨q, hq, ?_⟩
  rw [if_neg hR]
theorem gd_res_t {T : Nat → Nat → Nat} {G : gg_R} {k : Nat} {e : Nat × Nat × Nat} {p : List (Nat × Nat × Nat)} {R L : List Nat} {o : Option (List Nat × List Nat)} (he : ¬ e.1 < 8) (h : gd_res T G k p R (L ++ [e.1]) o) : gd_res T G (k + 1) (e :: p) R L o := by
  show if e.1 < 8 then ∃ q, gd_pk T G e.1 e.2.1 G.length 0 e.2.2 = some q ∧ (if R.length < 200 then gd_res T G k (gd_sp T (gg_y G q.1) e.2.1 q.2 ++ p) (R ++ [q.1]) L o else o = none) else gd_res T G k p R (L ++ [e.1]) o
  rw [if_neg he]
  exact h
/-- the counts are those of the grammar, up to the length N -/
def gd_ok (G : gg_R) (T : Nat → Nat → Nat) (N : Nat) : Prop := ∀ A n, A < 8 → n < N → T A n = gc_cap (gc_pt T G (fun _ => true) A n G.length)
theorem gd_pick {T : Nat → Nat → Nat} {G : gg_R} {N : Nat} {e : Nat × Nat × Nat} (hok : gd_ok G T N) (he : e.1 < 8) (hn : e.2.1 < N) (hv : gd_v T e) : ∃ r m, gd_pk T G e.1 e.2.1 G.length 0 e.2.2 = some (r, m) ∧ r < G.length ∧ gg_l G r = e.1 ∧ m < gc_E T (gg_y G r) e.2.1 ∧ gc_E T (gg_y G r) e.2.1 ≤ 1000000000000000000 := by
  obtain ⟨h1, h2⟩ := hv.1 he
  rw [hok e.1 e.2.1 he hn] at h1 h2
  obtain ⟨c1, c2⟩ := gc_cap_small h2
  rw [c1] at h1
  obtain ⟨q, m, z1, z2, z3, z4, z5, z6⟩ := gd_pk_ok c2 G.length 0 e.2.2 (by omega) (by show e.2.2 + 0 < _; omega)
  exact ⟨q, m, z1, z3, z4, z5, z6⟩
theorem gd_ln_mem : ∀ (p : List (Nat × Nat × Nat)) (e : Nat × Nat × Nat), e ∈ p → e.2.1 ≤ gd_ln p
  | [], e, h => absurd h List.not_mem_nil
  | x :: p, e, h => by
    show e.2.1 ≤ x.2.1 + gd_ln p
    rcases List.mem_cons.mp h with z | z
    · rw [z]
      omega
    · have := gd_ln_mem p e z
      omega
theorem gd_nt_cons (e : Nat × Nat × Nat) (p : List (Nat × Nat × Nat)) : gd_nt (e :: p) = (if e.1 < 8 then 1 else 0) + gd_nt p := rfl
/-- with more nonterminals than rules may come, the row becomes too long -/
theorem gd_much {T : Nat → Nat → Nat} {G : gg_R} {N : Nat} (hok : gd_ok G T N) : ∀ (d : Nat) (p : List (Nat × Nat × Nat)) (R L : List Nat), 200 - R.length ≤ d → R.length ≤ 200 → (∀ e, e ∈ p → gd_v T e) → gd_ln p < N → 200 < R.length + gd_nt p → ∃ k, gd_res T G k p R L none := by
  intro d
  induction d with
  | zero =>
    intro p
    induction p with
    | nil =>
      intro R L hd hR2 _ _ h
      have h : 200 < R.length + 0 := h
      omega
    | cons e p ih =>
      intro R L hd hR2 hv hl h
      by_cases he : e.1 < 8
      · obtain ⟨r, m, z, -⟩ := gd_pick hok he (by have := gd_ln_mem (e :: p) e List.mem_cons_self; omega) (hv e List.mem_cons_self)
        exact ⟨1, gd_res_full he z (by omega)⟩
      · rw [gd_nt_cons, if_neg he] at h
        obtain ⟨k, hk⟩ := ih R (L ++ [e.1]) hd hR2 (fun x hx => hv x (List.mem_cons_of_mem _ hx)) (by have : gd_ln (e :: p) = e.2.1 + gd_ln p := rfl; omega) (by omega)
        exact ⟨k + 1, gd_res_t he hk⟩
  | succ d ihd =>
    intro p
    induction p with
    | nil =>
      intro R L hd hR2 _ _ h
      have h : 200 < R.length + 0 := h
      omega
    | cons e p ih =>
      intro R L hd hR2 hv hl h
      by_cases he : e.1 < 8
      · obtain ⟨r, m, z, z1, z2, z3, z4⟩ := gd_pick hok he (by have := gd_ln_mem (e :: p) e List.mem_cons_self; omega) (hv e List.mem_cons_self)
        by_cases hR : R.length < 200
        · obtain ⟨s1, s2, s3⟩ := gd_sp_ok _ _ _ z3 z4
          rw [gd_nt_cons, if_pos he] at h
          obtain ⟨k, hk⟩ := ihd (gd_sp T (gg_y G r) e.2.1 m ++ p) (R ++ [r]) L (by rw [List.length_append]; show 200 - (R.length + 1) ≤ d; omega) (by rw [List.length_append]; show R.length + 1 ≤ 200; omega) (fun x hx => (List.mem_append.mp hx).elim (s1 x) (fun y => hv x (List.mem_cons_of_mem _ y))) (by rw [gd_ln_app, s2]; exact hl) (by rw [gd_nt_app, List.length_append]; show 200 < (R.length + 1) + _; omega)
          exact ⟨k + 1, gd_res_nt he z hR hk⟩
        · exact ⟨1, gd_res_full he z hR⟩
      · rw [gd_nt_cons, if_neg he] at h
        obtain ⟨k, hk⟩ := ih R (L ++ [e.1]) hd hR2 (fun x hx => hv x (List.mem_cons_of_mem _ hx)) (by have : gd_ln (e :: p) = e.2.1 + gd_ln p := rfl; omega) (by omega)
        exact ⟨k + 1, gd_res_t he hk⟩
end
section
/-! Layer 2, part n: the class draws a tree as the function does. -/
/-- what drawing leaves as it was -/
def fr_w (σ τ : gs_St) : Prop := (∀ k, k ≠ 8 → k ≠ 9 → k ≠ 12 → k ≠ 13 → τ.1 k = σ.1 k) ∧ (∀ k, k ≠ 8 → k ≠ 9 → k ≠ 12 → k ≠ 13 → τ.2.1 k = σ.2.1 k) ∧ ∀ k, k ≠ 4 → τ.2.2 k = σ.2.2 k
theorem fr_w.rf {σ : gs_St} : fr_w σ σ := ⟨fun _ _ _ _ _ => rfl, fun _ _ _ _ _ => rfl, fun _ _ => rfl⟩
theorem fr_w.tr {σ τ ρ : gs_St} (h : fr_w σ τ) (h' : fr_w τ ρ) : fr_w σ ρ := ⟨fun k a b c d => (h'.1 k a b c d).trans (h.1 k a b c d), fun k a b c d => (h'.2.1 k a b c d).trans (h.2.1 k a b c d), fun k a => (h'.2.2 k a).trans (h.2.2 k a)⟩
theorem fr_w.I {σ : gs_St} {k : Nat} {v : Int32} (hk : k = 8 ∨ k = 9 ∨ k = 12 ∨ k = 13) : fr_w σ (gs_I σ k v) := ⟨fun j a b c d => if_neg (by omega), fun _ _ _ _ _ => rfl, fun _ _ => rfl⟩
theorem fr_w.A {σ : gs_St} {k : Nat} {f : Nat → Int32} (hk : k = 8 ∨ k = 9 ∨ k = 12 ∨ k = 13) : fr_w σ (gs_A σ k f) := ⟨fun _ _ _ _ _ => rfl, fun j a b c d => if_neg (by omega), fun _ _ => rfl⟩
theorem fr_w.L {σ : gs_St} {f : Nat → Int64} : fr_w σ (gs_L σ 4 f) := ⟨fun _ _ _ _ _ => rfl, fun _ _ _ _ _ => rfl, fun j a => if_neg a⟩
theorem fr_w.gr {G : gg_R} {σ τ : gs_St} (h : fr_w σ τ) (hg : gr_at G σ) : gr_at G τ := hg.of (h.1 2 (by decide) (by decide) (by decide) (by decide)) (h.2.1 1 (by decide) (by decide) (by decide) (by decide)) (h.2.1 2 (by decide) (by decide) (by decide) (by decide)) (h.2.1 3 (by decide) (by decide) (by decide) (by decide))
theorem fr_w.gt {T : Nat → Nat → Nat} {N : Nat} {σ τ : gs_St} (h : fr_w σ τ) (ht : gt_at T N σ) : gt_at T N τ := fun A hA p hp => by
  rw [h.2.2 0 (by decide)]
  exact ht A hA p hp
theorem fr_w.gE {T : Nat → Nat → Nat} {r N : Nat} {ys : List Nat} {σ τ : gs_St} (h : fr_w σ τ) (hE : gE_at T r N ys σ) : gE_at T r N ys τ := fun i hi p hp => by
  rw [h.2.2 1 (by decide)]
  exact hE i hi p hp
/-- an entry of the pile -/
def pc_at (τ : gs_St) (j : Nat) (e : Nat × Nat × Nat) : Prop := τ.2.1 8 j = nI e.1 ∧ τ.2.1 9 j = nI e.2.1 ∧ τ.2.2 4 j = lN e.2.2
/-- the pile, its top first -/
def pi_at (p : List (Nat × Nat × Nat)) (τ : gs_St) : Prop := ∀ k e, p[k]? = some e → pc_at τ (p.length - 1 - k) e
section L2N
variable {G : gg_R} {σ : gs_St} {T : Nat → Nat → Nat} {N : Nat}
theorem s_endingsWith {r i p n : Nat} {K : Int64 → gs_St → Prop} (h : gr_at G σ) (hr : r < G.length) (hi : i < (gg_y G r).length) (hp : p ≤ n) (hn : n < N) (hN : N ≤ 17) (hT : gt_at T N σ) (hTb : ∀ A p, T A p ≤ 1000000000000000001) (hE : gE_at T r N (gg_y G r) σ)
    (k : K (lN (gd_w T ((gg_y G r).getD i 0) ((gg_y G r).drop (i + 1)) n p)) σ) : C_Co_endingsWith (nI r) (nI i) (nI p) (nI n) σ K := by
  intro X21 h21
  have hG := h.1.1
  obtain ⟨hl8, hz, h24⟩ := h.1.2 r hr
  have h24i := h24 i hi
  have e1 : nI ((r * 7 + (i + 1)) * 17) + nI n - nI p = nI (ge_at r (i + 1) (n - p)) := by
    rw [nI_add, pk_sub (by omega)]
    congr 1
    unfold ge_at
    omega
  have hlt : ge_at r (i + 1) (n - p) < 2856 := by unfold ge_at; omega
  have hEv := hE (i + 1) (by omega) (n - p) (by omega)
  have key : ∀ v : Nat, (8 ≤ (gg_y G r).getD i 0 → v = gd_F T ((gg_y G r).getD i 0) p) → v ≤ 1 → X21 (nI r) (nI i) (nI p) (nI n) (nI ((gg_y G r).getD i 0)) (lN v) σ := by
    intro v hv hv1
    apply h21
    refine s_isNtN (by omega) (fun q => br_f (by decide) ?_) (fun q => br_t rfl ?_)
    · rw [gt_at_e]
      refine ⟨vp_in_nI (by omega) (by decide), ?_⟩
      rw [nI_clamp (by omega), hT _ q p (by omega)]
      refine nm_e ?_
      show vp_in ((nI r * (7 : Int32) + (nI i + 1)) * (17 : Int32) + nI n - nI p) 2856 ∧ _
      rw [nI_1, ge_at_e, e1]
      refine ⟨vp_in_nI hlt (by decide), ?_⟩
      rw [nI_clamp (by omega), hEv]
      refine s_times (hTb _ _) (gc_E_le _ _ _) ?_
      have hF : gd_F T ((gg_y G r).getD i 0) p = T ((gg_y G r).getD i 0) p := by unfold gd_F; rw [if_pos q]
      rw [← hF]
      exact k
    · show vp_in ((nI r * (7 : Int32) + (nI i + 1)) * (17 : Int32) + nI n - nI p) 2856 ∧ _
      rw [nI_1, ge_at_e, e1]
      refine ⟨vp_in_nI hlt (by decide), ?_⟩
      rw [nI_clamp (by omega), hEv]
      refine s_times (by omega) (gc_E_le _ _ _) ?_
      rw [hv q]
      exact k
  refine s_symbolAt h hr hi ?_
  refine ek_if (not_congr (nI_eq (a := p) (b := 1) (by omega) (by decide))) (fun q => ?_) (fun q => ?_)
  · exact key 0 (fun z => by unfold gd_F; rw [if_neg (by omega), if_neg q]) (by decide)
  · have q : p = 1 := Classical.byContradiction q
    exact key 1 (fun z => by unfold gd_F; rw [if_neg (by omega), if_pos q]) (by decide)
theorem s_put {j s n m : Nat} {K : gs_St → Prop} (hj : j < 216) (kk : ∀ τ : gs_St, fr_w σ τ → τ.1 = σ.1 → τ.2.1 12 = σ.2.1 12 → τ.2.1 13 = σ.2.1 13 → pc_at τ j (s, n, m) → (∀ i e, i ≠ j → pc_at σ i e → pc_at τ i e) → K τ) : C_Pi_put (nI j) (nI s) (nI n) (lN m) σ K := by
  have hv : vp_in (nI j) 216 := vp_in_nI hj (by decide)
  refine br_f (nI_pos (by omega)) (br_f (nI_ge hj (by decide)) ⟨hv, ?_⟩)
  rw [nI_clamp (by omega)]
  intro σ1 e1
  refine ⟨hv, ?_⟩
  intro σ2 e2
  refine ⟨hv, ?_⟩
  intro σ3 e3
  have f8 : σ3.2.1 8 = upd (σ.2.1 8) j (nI s) := by rw [e3, e2, e1]; rfl
  have f9 : σ3.2.1 9 = upd (σ.2.1 9) j (nI n) := by rw [e3, e2, e1]; rfl
  have f4 : σ3.2.2 4 = vp_updL (σ.2.2 4) j (lN m) := by rw [e3, e2, e1]; rfl
  refine kk σ3 ?_ (by rw [e3, e2, e1]; rfl) (by rw [e3, e2, e1]; rfl) (by rw [e3, e2, e1]; rfl) ⟨?_, ?_, ?_⟩ (fun i e hi he => ⟨?_, ?_, ?_⟩)
  · rw [e3, e2, e1]
    exact ((fr_w.A (Or.inl rfl)).tr (fr_w.A (Or.inr (Or.inl rfl)))).tr fr_w.L
  · rw [f8]; exact pk_us
  · rw [f9]; exact pk_us
  · rw [f4]; exact pk_uLs
  · rw [f8, pk_un hi]; exact he.1
  · rw [f9, pk_un hi]; exact he.2.1
  · rw [f4, pk_uLn hi]; exact he.2.2
theorem gi_dec (a b : Nat) : nI (a + 1) + (nI b - 1) = nI (a + b) := by
  cases b with
  | zero => exact pk_m1 a
  | succ c =>
    rw [nI_pred, nI_add]
    congr 1
    omega
theorem s_unfoldRule {r n m : Nat} {p : List (Nat × Nat × Nat)} {R : Nat} {K : Int32 → gs_St → Prop} (h : gr_at G σ) (hr : r < G.length) (hn : n < N) (hN : N ≤ 17) (hT : gt_at T N σ) (hTb : ∀ A p, T A p ≤ 1000000000000000001) (hE : gE_at T r N (gg_y G r) σ)
    (hm : m < gc_E T (gg_y G r) n) (hmb : gc_E T (gg_y G r) n ≤ 1000000000000000000) (h8 : σ.1 8 = nI p.length) (h9 : σ.1 9 = nI (gd_nt p + 1)) (h12 : σ.1 12 = nI R) (hR : R ≤ 200) (hp : p.length < 1000) (hp2 : pi_at p σ)
    (hfit : R + 1 + (gd_nt p + gg_ntn (gg_y G r)) ≤ 200 → p.length + (gg_y G r).length ≤ 216)
    (k0 : 200 < R + 1 + (gd_nt p + gg_ntn (gg_y G r)) → ∀ τ, fr_w σ τ → K 0 τ)
    (k1 : R + 1 + (gd_nt p + gg_ntn (gg_y G r)) ≤ 200 → ∀ τ, fr_w σ τ → τ.1 8 = nI (gd_sp T (gg_y G r) n m ++ p).length → τ.1 9 = nI (gd_nt p + gg_ntn (gg_y G r)) → τ.1 12 = nI (R + 1) → τ.1 13 = σ.1 13 → (∀ j, j ≠ R → τ.2.1 12 j = σ.2.1 12 j) → τ.2.1 12 R = nI r → τ.2.1 13 = σ.2.1 13 → pi_at (gd_sp T (gg_y G r) n m ++ p) τ → K 1 τ) : C_We_unfoldRule (nI r) (nI n) (lN m) σ K := by
  intro X68 X94 X138 h68 h94 h138
  have hG := h.1.1
  obtain ⟨hl8, hz, h24⟩ := h.1.2 r hr
  have hnty := gg_ntn_le (gg_y G r)
  have hlen : ∀ (ys : List Nat) (n m : Nat), (gd_sp T ys n m).length = ys.length := by
    intro ys
    induction ys with
    | nil => exact fun _ _ => rfl
    | cons s ys ih => exact fun n m => congrArg (· + 1) (ih _ _)
  refine s_ntIn h hr ?_
  intro σ3 e3
  have v9 : σ3.1 9 = nI (gd_nt p + gg_ntn (gg_y G r)) := by
    rw [e3]
    show σ.1 9 + (nI (gg_ntn (gg_y G r)) - 1) = _
    rw [h9, gi_dec]
  have v12 : σ3.1 12 = nI R := by rw [e3]; exact h12
  have fr3 : fr_w σ σ3 := by rw [e3]; exact fr_w.I (Or.inr (Or.inl rfl))
  have hntp : gd_nt p ≤ p.length := by
    unfold gd_nt
    have := gg_ntn_le (p.map (fun e => e.1))
    rw [List.length_map] at this
    exact this
  have esum : σ3.1 12 + 1 + σ3.1 9 = nI (R + 1 + (gd_nt p + gg_ntn (gg_y G r))) := by rw [v9, v12, nI_1, nI_add]
  rw [esum]
  refine pk_le (R + 1 + (gd_nt p + gg_ntn (gg_y G r))) 200 (fun q => ?_) (fun q => k0 q σ3 fr3)
  have hsz := hfit q
  -- the rule into the row
  refine br_f (by rw [v12]; exact nI_ge (b := 200) (by omega) (by decide)) ?_
  rw [v12]
  refine ⟨vp_in_nI (by omega) (by decide), ?_⟩
  rw [nI_clamp (by omega)]
  intro σ4 e4 σ5 e5
  have fr5 : fr_w σ σ5 := by
    rw [e5, e4]
    exact (fr3.tr (fr_w.A (Or.inr (Or.inr (Or.inl rfl))))).tr (fr_w.I (Or.inr (Or.inr (Or.inl rfl))))
  have w8 : σ5.1 8 = nI p.length := by rw [e5, e4, e3]; exact h8
  have w9 : σ5.1 9 = nI (gd_nt p + gg_ntn (gg_y G r)) := by rw [e5, e4]; exact v9
  have w12 : σ5.1 12 = nI (R + 1) := by
    rw [e5]
    show σ4.1 12 + 1 = _
    rw [e4]
    show σ3.1 12 + 1 = _
    rw [v12, nI_1]
  have w13 : σ5.1 13 = σ.1 13 := by rw [e5, e4, e3]; rfl
  have wA : σ5.2.1 12 = upd (σ.2.1 12) R (nI r) := by rw [e5, e4, e3]; rfl
  have wB : σ5.2.1 13 = σ.2.1 13 := by rw [e5, e4, e3]; rfl
  have wp : ∀ j e, pc_at σ j e → pc_at σ5 j e := fun j e he => by rw [e5, e4, e3]; exact he
  refine s_sizeOf (fr5.gr h) hr ?_
  -- the symbols
  have key : ∀ (zs : List Nat) (i nl ml : Nat) (c : List (Nat × Nat × Nat)) (τ : gs_St), (gg_y G r).drop i = zs → i + zs.length = (gg_y G r).length → c.length = i → c ++ gd_sp T zs nl ml = gd_sp T (gg_y G r) n m → nl ≤ n → ml < 2 ^ 62 → fr_w σ τ → τ.1 = σ5.1 → τ.2.1 12 = σ5.2.1 12 → τ.2.1 13 = σ5.2.1 13 → (∀ j e, j < p.length → pc_at σ j e → pc_at τ j e) → (∀ j e, c[j]? = some e → pc_at τ (p.length + (gg_y G r).length - 1 - j) e) → X68 (nI r) (nI (gg_y G r).length) (nI nl) (lN ml) (nI i) τ := by
    intro zs
    induction zs with
    | nil =>
      intro i nl ml c τ hd hi hc hsp hnl hml hfr hI hA hB hold hnew
      have hi : i = (gg_y G r).length := hi
      have hsp : c ++ [] = gd_sp T (gg_y G r) n m := hsp
      rw [List.append_nil] at hsp
      apply h68
      refine pk_le (gg_y G r).length i (fun _ => ?_) (fun q => absurd q (by omega))
      intro σ7 e7
      have i8 : τ.1 8 = nI p.length := by rw [hI]; exact w8
      refine k1 q σ7 (by rw [e7]; exact hfr.tr (fr_w.I (Or.inl rfl))) ?_ ?_ ?_ ?_ (fun j hj => ?_) ?_ ?_ (fun k e hk => ?_)
      · rw [e7, List.length_append, hlen]
        show τ.1 8 + nI (gg_y G r).length = _
        rw [i8, nI_add, Nat.add_comm]
      · rw [e7]
        show τ.1 9 = _
        rw [hI]
        exact w9
      · rw [e7]
        show τ.1 12 = _
        rw [hI]
        exact w12
      · rw [e7]
        show τ.1 13 = _
        rw [hI]
        exact w13
      · rw [e7]
        show τ.2.1 12 j = _
        rw [hA, wA, pk_un hj]
      · rw [e7]
        show τ.2.1 12 R = _
        rw [hA, wA, pk_us]
      · rw [e7]
        show τ.2.1 13 = _
        rw [hB, wB]
      · rw [← hsp] at hk ⊢
        have hcl : c.length = (gg_y G r).length := by omega
        have he : ∀ j, pc_at τ j e → pc_at σ7 j e := fun j z => by rw [e7]; exact z
        rw [List.length_append]
        rcases Nat.lt_or_ge k c.length with z | z
        · rw [List.getElem?_append_left z] at hk
          have := he _ (hnew k e hk)
          rw [show c.length + p.length - 1 - k = p.length + (gg_y G r).length - 1 - k by omega]
          exact this
        · rw [List.getElem?_append_right z] at hk
          have hkp : k - c.length < p.length := (List.getElem?_eq_some_iff.mp hk).1
          have := he _ (hold _ e (by omega) (hp2 (k - c.length) e hk))
          rw [show c.length + p.length - 1 - k = p.length - 1 - (k - c.length) by omega]
          exact this
    | cons s zs ih =>
      intro i nl ml c τ hd hi hc hsp hnl hml hfr hI hA hB hold hnew
      obtain ⟨h1, h2, h3⟩ := gg_cons hd
      have hi : i + (zs.length + 1) = (gg_y G r).length := hi
      have hgr := hfr.gr h
      have hgt := hfr.gt hT
      have hgE := hfr.gE hE
      apply h68
      refine pk_le (gg_y G r).length i (fun q => absurd q (by omega)) (fun _ => ?_)
      have hsub : gd_w T ((gg_y G r).getD i 0) ((gg_y G r).drop (i + 1)) = gd_w T s zs := by rw [h2, h3]
      have wle : ∀ q, gd_w T s zs nl q ≤ 1000000000000000001 := fun q => gc_cap_le _
      -- behind the search of the part
      have fin : ∀ (q x : Nat), q ≤ nl → x ≤ ml → gd_pt T s zs nl nl 0 ml = (q, x) → X138 (nI r) (nI (gg_y G r).length) (nI nl) (lN x) (nI i) (nI q) τ := by
        intro q x hq hx hpt
        apply h138
        refine nm_r (pk_sub hq) ?_
        rw [nI_1]
        refine s_endingsOf (by omega) (by omega) (by omega) ?_
        rw [hgE (i + 1) (by omega) (nl - q) (by omega), h3]
        have hEb := gc_E_le T zs (nl - q)
        have emx : (if lN (gc_E T zs (nl - q)) < (1 : Int64) then (1 : Int64) else lN (gc_E T zs (nl - q))) = lN (max 1 (gc_E T zs (nl - q))) := by
          have hlt : lN (gc_E T zs (nl - q)) < (1 : Int64) ↔ gc_E T zs (nl - q) < 1 := pk_lLT (a := gc_E T zs (nl - q)) (b := 1) (by omega) (by decide)
          by_cases z : gc_E T zs (nl - q) < 1
          · rw [if_pos (hlt.mpr z), Nat.max_eq_left (by omega)]
            rfl
          · rw [if_neg (fun w => z (hlt.mp w)), Nat.max_eq_right (by omega)]
        refine nm_r emx ?_
        have hmx : 1 ≤ max 1 (gc_E T zs (nl - q)) := Nat.le_max_left _ _
        have hmx2 : max 1 (gc_E T zs (nl - q)) ≤ 1000000000000000001 := Nat.max_le.mpr ⟨by decide, hEb⟩
        have hne : ¬ lN (max 1 (gc_E T zs (nl - q))) = 0 := fun z => by
          have := (pk_lEQ (a := max 1 (gc_E T zs (nl - q))) (b := 0) (by omega) (by decide)).mp z
          omega
        refine s_symbolAt hgr hr h1 ?_
        rw [h2]
        have i8 : τ.1 8 = nI p.length := by rw [hI]; exact w8
        have epl : τ.1 8 + nI (gg_y G r).length - 1 - nI i = nI (p.length + (gg_y G r).length - 1 - i) := by
          rw [i8, nI_add, show p.length + (gg_y G r).length = (p.length + (gg_y G r).length - 1) + 1 by omega, nI_pred, pk_sub (by omega)]
          congr 1
        rw [epl, pk_lDiv (by omega) (by omega) (by omega)]
        refine ⟨hne, ?_⟩
        refine s_put (by omega) (fun τ2 f2 g2 ga2 gb2 hp2' ho2 => ⟨hne, ?_⟩)
        rw [← pk_lDiv (by omega) (by omega) (by omega), pk_lRem (by omega) (by omega) (by omega)]
        have hmod : x % max 1 (gc_E T zs (nl - q)) ≤ x := Nat.mod_le _ _
        refine nm_e (nm_e (ih (i + 1) (nl - q) (x % max 1 (gc_E T zs (nl - q))) (c ++ [(s, q, x / max 1 (gc_E T zs (nl - q)))]) τ2 h3 (by omega) (by rw [List.length_append]; show c.length + 1 = i + 1; omega) ?_ (by omega) (by omega) (hfr.tr f2) (g2.trans hI) (ga2.trans hA) (gb2.trans hB) (fun j e hj he => ho2 j e (by omega) (hold j e hj he)) (fun j e hj => ?_)))
        · rw [← hsp, List.append_assoc]
          congr 1
          show (s, q, x / max 1 (gc_E T zs (nl - q))) :: gd_sp T zs (nl - q) (x % max 1 (gc_E T zs (nl - q))) = (s, (gd_pt T s zs nl nl 0 ml).1, (gd_pt T s zs nl nl 0 ml).2 / max 1 (gc_E T zs (nl - (gd_pt T s zs nl nl 0 ml).1))) :: gd_sp T zs (nl - (gd_pt T s zs nl nl 0 ml).1) ((gd_pt T s zs nl nl 0 ml).2 % max 1 (gc_E T zs (nl - (gd_pt T s zs nl nl 0 ml).1)))
          rw [hpt]
        · rcases Nat.lt_or_ge j c.length with z | z
          · rw [List.getElem?_append_left z] at hj
            exact ho2 _ e (by omega) (hnew j e hj)
          · have hj1 : j < (c ++ [(s, q, x / max 1 (gc_E T zs (nl - q)))]).length := (List.getElem?_eq_some_iff.mp hj).1
            rw [List.length_append] at hj1
            have hj1 : j < c.length + 1 := hj1
            have hjc : j = c.length := by omega
            subst hjc
            rw [List.getElem?_append_right (Nat.le_refl _), Nat.sub_self] at hj
            injection hj with hj
            rw [← hj, hc]
            exact hp2'
      have loop : ∀ (k q x : Nat), q + k = nl → x ≤ ml → gd_pt T s zs nl k q x = gd_pt T s zs nl nl 0 ml → X94 (nI r) (nI (gg_y G r).length) (nI nl) (lN x) (nI i) (nI q) (lN (gd_w T s zs nl q)) τ := by
        intro k
        induction k with
        | zero =>
          intro q x hq hx hpt
          have hq : q = nl := hq
          apply h94
          exact pk_le nl q (fun _ => fin q x (by omega) hx hpt.symm) (fun z => absurd z (by omega))
        | succ k ihk =>
          intro q x hq hx hpt
          have hpt : (if x < gd_w T s zs nl q then (q, x) else gd_pt T s zs nl k (q + 1) (x - gd_w T s zs nl q)) = gd_pt T s zs nl nl 0 ml := hpt
          have hw := wle q
          apply h94
          refine pk_le nl q (fun z => absurd z (by omega)) (fun _ => ?_)
          refine ek_if (pk_lLT (a := x) (b := gd_w T s zs nl q) (by omega) (by omega)) (fun z => ?_) (fun z => ?_)
          · rw [if_pos z] at hpt
            exact fin q x (by omega) hx hpt.symm
          · rw [if_neg z] at hpt
            refine nm_r (lN_sub (by omega)) (nm_r (nI_1 q) ?_)
            refine s_endingsWith (T := T) (N := N) hgr hr h1 (by omega) (by omega) hN hgt hTb hgE ?_
            rw [hsub]
            exact ihk (q + 1) (x - gd_w T s zs nl q) (by omega) (by omega) hpt
      refine s_endingsWith (T := T) (N := N) (p := 0) hgr hr h1 (by omega) (by omega) hN hgt hTb hgE ?_
      rw [hsub]
      exact loop nl 0 ml (by omega) (Nat.le_refl _) rfl
  exact key (gg_y G r) 0 n m [] σ5 rfl (by omega) rfl rfl (Nat.le_refl _) (by omega) fr5 rfl rfl rfl (fun j e _ he => wp j e he) (fun j e hj => by cases hj)
theorem s_unfold {A n m : Nat} {K : Int32 → gs_St → Prop} (h : gr_at G σ) (hA : A < 8) (hn : n < N) (hN : N ≤ 17) (hT : gt_at T N σ) (hTb : ∀ A p, T A p ≤ 1000000000000000001) (hE : ∀ r, r < G.length → gE_at T r N (gg_y G r) σ)
    (hok : T A n = gc_cap (gc_pt T G (fun _ => true) A n G.length)) (hmT : m < T A n) (hTA : T A n ≤ 1000000000000000000)
    (kk : ∀ r m', gd_pk T G A n G.length 0 m = some (r, m') → r < G.length → m' < gc_E T (gg_y G r) n → gc_E T (gg_y G r) n ≤ 1000000000000000000 → C_We_unfoldRule (nI r) (nI n) (lN m') σ K) : C_We_unfold (nI A) (nI n) (lN m) σ K := by
  intro X6 h6
  have hG := h.1.1
  rw [hok] at hmT hTA
  obtain ⟨c1, c2⟩ := gc_cap_small hTA
  rw [c1] at hmT
  have loop : ∀ (k r x : Nat), r + k = G.length → x + gc_pt T G (fun _ => true) A n r < gc_pt T G (fun _ => true) A n G.length → gd_pk T G A n k r x = gd_pk T G A n G.length 0 m → X6 (nI A) (nI n) (lN x) (nI r) σ := by
    intro k
    induction k with
    | zero =>
      intro r x hr hx _
      have hr : r = G.length := hr
      subst hr
      omega
    | succ k ih =>
      intro r x hr hx hpk
      have hr' : r < G.length := by omega
      obtain ⟨q, m', e1, e2, e3, e4, e5, e6⟩ := gd_pk_ok c2 (k + 1) r x hr hx
      have hpk : (if gg_l G r = A then (if x < gc_E T (gg_y G r) n then some (r, x) else gd_pk T G A n k (r + 1) (x - gc_E T (gg_y G r) n)) else gd_pk T G A n k (r + 1) x) = gd_pk T G A n G.length 0 m := hpk
      have hl8 := (h.1.2 r hr').1
      have hnx : gc_pt T G (fun _ => true) A n (r + 1) = gc_pt T G (fun _ => true) A n r + (if true = true ∧ gg_l G r = A then gc_E T (gg_y G r) n else 0) := rfl
      have hEb := gc_E_le T (gg_y G r) n
      apply h6
      refine pk_le G.length r (fun z => absurd z (by omega)) (fun _ => ?_) h.2.1
      refine s_leftOf h hr' ?_
      refine ek_if (not_congr (nI_eq (by omega) (by omega))) (fun z => ?_) (fun z => ?_)
      · rw [if_neg z] at hpk
        rw [if_neg (fun y => z y.2)] at hnx
        exact nm_r (nI_1 r) (ih (r + 1) x (by omega) (by omega) hpk)
      · have z : gg_l G r = A := Classical.byContradiction z
        rw [if_pos z] at hpk
        rw [if_pos ⟨rfl, z⟩] at hnx
        refine s_endingsOf (i := 0) (by omega) (by decide) (by omega) ?_
        have hv : σ.2.2 1 (ge_at r 0 n) = lN (gc_E T (gg_y G r) n) := hE r hr' 0 (Nat.zero_le _) n hn
        rw [hv]
        refine ek_if (pk_lLE (a := gc_E T (gg_y G r) n) (b := x) (by omega) (by omega)) (fun y => ?_) (fun y => ?_)
        · rw [if_neg (by omega)] at hpk
          exact nm_r (lN_sub y) (nm_r (nI_1 r) (ih (r + 1) _ (by omega) (by omega) hpk))
        · rw [if_pos (by omega)] at hpk
          have hle := gc_pt_true_mono T G A n (r + 1) G.length (by omega)
          exact kk r x hpk.symm hr' (by omega) (by omega)
  exact loop G.length 0 m (by omega) (by show m + 0 < _; omega) rfl
end L2N
end
section
/-! Layer 2, part o: weave and draw of the class. -/
section L2O
variable {G : gg_R} {σ : gs_St} {T : Nat → Nat → Nat} {N : Nat}
theorem s_addLeaf {s c : Nat} {K : gs_St → Prop} (h13 : σ.1 13 = nI c) (hc : c < 16) (kk : ∀ τ, fr_w σ τ → τ.1 8 = σ.1 8 → τ.1 9 = σ.1 9 → τ.1 12 = σ.1 12 → τ.1 13 = nI (c + 1) → τ.2.1 8 = σ.2.1 8 → τ.2.1 9 = σ.2.1 9 → τ.2.1 12 = σ.2.1 12 → τ.2.1 13 = upd (σ.2.1 13) c (nI s) → τ.2.2 = σ.2.2 → K τ) : C_Dr_addLeaf (nI s) σ K := by
  show ((16 : Int32) ≤ (σ.1 13) → K σ) ∧ (¬ ((16 : Int32) ≤ (σ.1 13)) → vp_in (σ.1 13) 16 ∧ ∀ σ1 : gs_St, σ1 = gs_A σ 13 (upd (σ.2.1 13) (σ.1 13).toNatClampNeg (nI s)) → ∀ σ2 : gs_St, σ2 = gs_I σ1 13 ((σ1.1 13) + (1 : Int32)) → K σ2)
  rw [h13]
  refine br_f (nI_ge (b := 16) hc (by decide)) ⟨vp_in_nI hc (by decide), ?_⟩
  rw [nI_clamp (by omega)]
  intro σ1 e1 σ2 e2
  refine kk σ2 ?_ ?_ ?_ ?_ ?_ ?_ ?_ ?_ ?_ ?_
  · rw [e2, e1]
    exact (fr_w.A (Or.inr (Or.inr (Or.inr rfl)))).tr (fr_w.I (Or.inr (Or.inr (Or.inr rfl))))
  · rw [e2, e1]; rfl
  · rw [e2, e1]; rfl
  · rw [e2, e1]; rfl
  · rw [e2, e1]
    show σ.1 13 + 1 = _
    rw [h13, nI_1]
  · rw [e2, e1]; rfl
  · rw [e2, e1]; rfl
  · rw [e2, e1]; rfl
  · rw [e2, e1]; rfl
  · rw [e2, e1]; rfl
theorem s_weave {A n m : Nat} {K : Int32 → (gs_St × Bool) → Prop} (h : gr_at G σ) (hA : A < 8) (hn : n < N) (hN : N ≤ 17) (hT : gt_at T N σ) (hTb : ∀ A p, T A p ≤ 1000000000000000001) (hE : ∀ r, r < G.length → gE_at T r N (gg_y G r) σ) (hok : gd_ok G T N) (hm : m < T A n) (hTA : T A n ≤ 1000000000000000000)
    (k0 : ∀ k τ, gd_res T G k [(A, n, m)] [] [] none → fr_w σ τ → K (-2) (τ, false))
    (k1 : ∀ k R L τ, gd_res T G k [(A, n, m)] [] [] (some (R, L)) → fr_w σ τ → R.length ≤ 200 → L.length ≤ 16 → τ.1 12 = nI R.length → τ.1 13 = nI L.length → (∀ i, i < R.length → τ.2.1 12 i = nI (R.getD i 0)) → (∀ i, i < L.length → τ.2.1 13 i = nI (L.getD i 0)) → K (nI R.length) (gs_sS τ, true)) : C_We_weave (nI A) (nI n) (lN m) σ K := by
  intro X34 h34
  have key : ∀ (c step : Nat) (p : List (Nat × Nat × Nat)) (R L : List Nat) (τ : gs_St), step + c = 216 → fr_w σ τ → τ.1 8 = nI p.length → τ.1 9 = nI (gd_nt p) → τ.1 12 = nI R.length → τ.1 13 = nI L.length → (∀ i, i < R.length → τ.2.1 12 i = nI (R.getD i 0)) → (∀ i, i < L.length → τ.2.1 13 i = nI (L.getD i 0)) → pi_at p τ → (∀ e, e ∈ p → gd_v T e ∧ e.1 < 24) → gd_ln p + L.length = n → R.length + gd_nt p ≤ 200 → R.length + L.length = step → (∀ k o, gd_res T G k p R L o → ∃ k', gd_res T G k' [(A, n, m)] [] [] o) → X34 (nI step) τ := by
    intro c
    induction c with
    | zero =>
      intro step p R L τ hs hfr h8 h9 h12 h13 hRa hLa hp hv hln hR hst hch
      have hs : step = 216 := hs
      have hsz := gd_size (T := T) p (fun e he => (hv e he).1)
      have hp0 : p = [] := List.eq_nil_of_length_eq_zero (by omega)
      subst hp0
      obtain ⟨k', hk'⟩ := hch 1 (some (R, L)) rfl
      apply h34
      refine br_t (by rw [hs]; decide) ?_
      have e : (gs_sS τ).1 10 = nI R.length := h12
      rw [e]
      exact k1 k' R L τ hk' hfr (by omega) (by omega) h12 h13 hRa hLa
    | succ c ih =>
      intro step p R L τ hs hfr h8 h9 h12 h13 hRa hLa hp hv hln hR hst hch
      have hsz := gd_size (T := T) p (fun e he => (hv e he).1)
      apply h34
      refine pk_le 216 step (fun q => absurd q (by omega)) (fun _ => ?_)
      cases p with
      | nil =>
        obtain ⟨k', hk'⟩ := hch 1 (some (R, L)) rfl
        have e : (gs_sS τ).1 10 = nI R.length := h12
        rw [h8, e]
        exact br_t (by decide) (k1 k' R L τ hk' hfr (by omega) (by omega) h12 h13 hRa hLa)
      | cons e p =>
        have hlen : (e :: p).length = p.length + 1 := rfl
        have hlc : gd_ln (e :: p) = e.2.1 + gd_ln p := rfl
        obtain ⟨hve, he24⟩ := hv e List.mem_cons_self
        have hvp : ∀ x, x ∈ p → gd_v T x ∧ x.1 < 24 := fun x hx => hv x (List.mem_cons_of_mem _ hx)
        rw [h8]
        refine br_f (nI_nle (by omega) (by omega)) ?_
        rw [hlen, nI_pred]
        intro σ5 e5
        have f5 : fr_w σ σ5 := by rw [e5]; exact hfr.tr (fr_w.I (Or.inl rfl))
        have g8 : σ5.1 8 = nI p.length := by rw [e5]; rfl
        have g9 : σ5.1 9 = nI (gd_nt (e :: p)) := by rw [e5]; exact h9
        have g12 : σ5.1 12 = nI R.length := by rw [e5]; exact h12
        have g13 : σ5.1 13 = nI L.length := by rw [e5]; exact h13
        have gA : σ5.2.1 = τ.2.1 := by rw [e5]; rfl
        have gL : σ5.2.2 = τ.2.2 := by rw [e5]; rfl
        have top : pc_at σ5 p.length e := by
          have := hp 0 e rfl
          rw [hlen, show p.length + 1 - 1 - 0 = p.length by omega] at this
          unfold pc_at
          rw [gA, gL]
          exact this
        have rest : pi_at p σ5 := fun k x hk => by
          have := hp (k + 1) x hk
          rw [hlen, show p.length + 1 - 1 - (k + 1) = p.length - 1 - k by omega] at this
          unfold pc_at
          rw [gA, gL]
          exact this
        have hp216 : p.length < 216 := by omega
        rw [g8]
        refine ⟨vp_in_nI hp216 (by decide), ?_⟩
        rw [nI_clamp (by omega), top.1]
        refine nm_e (s_isNtN (by omega) (fun q => br_t (by decide) ?_) (fun q => br_f (fun z => z rfl) ?_))
        · rw [gd_nt_cons, if_pos q] at g9 hR
          rw [g8]
          refine ⟨vp_in_nI hp216 (by decide), vp_in_nI hp216 (by decide), ?_⟩
          rw [nI_clamp (by omega), top.2.1, top.2.2]
          have hen : e.2.1 < N := by omega
          obtain ⟨hv1, hv2⟩ := hve.1 q
          refine s_unfold (T := T) (N := N) (f5.gr h) q hen hN (f5.gt hT) hTb (fun r hr => f5.gE (hE r hr)) (hok _ _ q hen) hv1 hv2 (fun r m' hpk hr hm' hmb => ?_)
          obtain ⟨s1, s2, s3⟩ := gd_sp_ok _ _ _ hm' hmb
          have hnt : gd_nt (gd_sp T (gg_y G r) e.2.1 m') = gg_ntn (gg_y G r) := by
            unfold gd_nt
            rw [s3]
          have hvn : ∀ x, x ∈ gd_sp T (gg_y G r) e.2.1 m' ++ p → gd_v T x ∧ x.1 < 24 := fun x hx => by
            rcases List.mem_append.mp hx with z | z
            · refine ⟨s1 x z, ?_⟩
              have hxm : x.1 ∈ gg_y G r := by
                rw [← s3]
                exact List.mem_map_of_mem z
              obtain ⟨i, hi, ei⟩ := List.getElem_of_mem hxm
              have := (h.1.2 r hr).2.2 i hi
              rw [gg_getD hi, ei] at this
              exact this
            · exact hvp x z
          have hszn := gd_size (T := T) (gd_sp T (gg_y G r) e.2.1 m' ++ p) (fun x hx => (hvn x hx).1)
          rw [gd_nt_app, gd_ln_app, s2, hnt, List.length_append] at hszn
          have hspl : (gd_sp T (gg_y G r) e.2.1 m').length = (gg_y G r).length := by
            rw [← List.length_map (f := fun e : Nat × Nat × Nat => e.1), s3]
          refine s_unfoldRule (T := T) (N := N) (p := p) (R := R.length) (f5.gr h) hr hen hN (f5.gt hT) hTb (f5.gE (hE r hr)) hm' hmb g8 (by rw [g9, Nat.add_comm]) g12 (by omega) (by omega) rest (fun z => by omega) (fun z τ2 f2 => ?_) (fun z τ2 f2 t8 t9 t12 t13 tA tR tB tp => ?_)
          · refine br_f (fun y => y rfl) ?_
            obtain ⟨k, hk⟩ := gd_much hok 200 (gd_sp T (gg_y G r) e.2.1 m' ++ p) (R ++ [r]) L (by omega) (by rw [List.length_append]; show R.length + 1 ≤ 200; omega) (fun x hx => (hvn x hx).1) (by rw [gd_ln_app, s2]; omega) (by rw [gd_nt_app, hnt, List.length_append]; show 200 < (R.length + 1) + _; omega)
            obtain ⟨k', hk'⟩ := hch (k + 1) none (gd_res_nt q hpk (by omega) hk)
            exact k0 k' τ2 hk' (f5.tr f2)
          · refine br_t (by decide) (nm_r (nI_1 step) (ih (step + 1) (gd_sp T (gg_y G r) e.2.1 m' ++ p) (R ++ [r]) L τ2 (by omega) (f5.tr f2) t8 ?_ ?_ ?_ (fun i hi => ?_) (fun i hi => ?_) tp hvn ?_ ?_ ?_ (fun k o hk => hch (k + 1) o (gd_res_nt q hpk (by omega) hk))))
            · rw [t9, gd_nt_app, hnt, Nat.add_comm]
            · rw [t12, List.length_append]
              rfl
            · rw [t13, g13]
            · rw [List.length_append] at hi
              have hi : i < R.length + 1 := hi
              by_cases ei : i = R.length
              · rw [ei, getD_append_e, tR]
              · rw [getD_append_l (by omega), tA i ei, gA]
                exact hRa i (by omega)
            · rw [tB, gA]
              exact hLa i hi
            · rw [gd_ln_app, s2]
              omega
            · rw [gd_nt_app, hnt, List.length_append]
              show R.length + 1 + _ ≤ 200
              omega
            · rw [List.length_append]
              show R.length + 1 + L.length = step + 1
              omega
        · have hel := hve.2 q
          rw [gd_nt_cons, if_neg (by omega)] at g9 hR
          refine s_addLeaf (c := L.length) g13 (by omega) (fun τ2 f2 t8 t9 t12 t13 tp8 tp9 tA tB tL => ?_)
          refine nm_r (nI_1 step) (ih (step + 1) p R (L ++ [e.1]) τ2 (by omega) (f5.tr f2) (t8.trans g8) (by rw [t9, g9, Nat.zero_add]) (t12.trans g12) ?_ (fun i hi => ?_) (fun i hi => ?_) (fun k x hk => ?_) hvp ?_ (by omega) ?_ (fun k o hk => hch (k + 1) o (gd_res_t (by omega) hk)))
          · rw [t13, List.length_append]
            rfl
          · rw [tA, gA]
            exact hRa i hi
          · rw [List.length_append] at hi
            have hi : i < L.length + 1 := hi
            rw [tB]
            by_cases ei : i = L.length
            · rw [ei, getD_append_e, pk_us]
            · rw [getD_append_l (by omega), pk_un ei, gA]
              exact hLa i (by omega)
          · have := rest k x hk
            unfold pc_at at this ⊢
            rw [tp8, tp9, tL]
            exact this
          · rw [List.length_append]
            show gd_ln p + (L.length + 1) = n
            omega
          · rw [List.length_append]
            show R.length + (L.length + 1) = step + 1
            omega
  intro σ1 e1 σ2 e2
  have f2 : fr_w σ σ2 := by
    rw [e2, e1]
    exact (fr_w.I (Or.inr (Or.inr (Or.inl rfl)))).tr (fr_w.I (Or.inr (Or.inr (Or.inr rfl))))
  refine s_put (j := 0) (s := A) (n := n) (m := m) (by decide) (fun τ f3 g1 gA gB hpc _ => ?_)
  intro σ3 e3 σ4 e4
  refine key 216 0 [(A, n, m)] [] [] σ4 rfl ?_ ?_ ?_ ?_ ?_ (fun i hi => absurd hi (Nat.not_lt_zero _)) (fun i hi => absurd hi (Nat.not_lt_zero _)) (fun k x hk => ?_) (fun x hx => ?_) ?_ ?_ rfl (fun k o hk => ⟨k, hk⟩)
  · rw [e4, e3]
    exact ((f2.tr f3).tr (fr_w.I (Or.inl rfl))).tr (fr_w.I (Or.inr (Or.inl rfl)))
  · rw [e4, e3]; rfl
  · rw [e4]
    show (1 : Int32) = nI (gd_nt [(A, n, m)])
    rw [gd_nt_cons, if_pos hA]
    rfl
  · rw [e4, e3]
    show τ.1 12 = _
    rw [g1, e2, e1]
    rfl
  · rw [e4, e3]
    show τ.1 13 = _
    rw [g1, e2]
    rfl
  · cases k with
    | zero =>
      injection hk with hk
      rw [← hk, e4, e3]
      exact hpc
    | succ k => cases hk
  · rcases List.mem_cons.mp hx with z | z
    · rw [z]
      exact ⟨⟨fun _ => ⟨hm, hTA⟩, fun z => absurd z (by show ¬ 8 ≤ A; omega)⟩, by show A < 24; omega⟩
    · exact absurd z List.not_mem_nil
  · show n + 0 + 0 = n
    omega
  · show 0 + gd_nt [(A, n, m)] ≤ 200
    rw [gd_nt_cons, if_pos hA]
    decide
end L2O
end
section
/-! Layer 2 of the reference, part a: its rules and its small calls. -/
def mr_at (G : gg_R) (μ : gs_St) : Prop := gg_ok G ∧ μ.1 0 = nI G.length ∧ ∀ r, r < G.length → μ.2.1 0 r = nI (gg_l G r) ∧ μ.2.1 1 r = nI (gg_y G r).length ∧ ∀ i, i < (gg_y G r).length → μ.2.1 2 (r * 6 + i) = nI ((gg_y G r).getD i 0)
theorem mr_at.of {G : gg_R} {σ τ : gs_St} (h : mr_at G σ) (h0 : τ.1 0 = σ.1 0) (h1 : τ.2.1 0 = σ.2.1 0) (h2 : τ.2.1 1 = σ.2.1 1) (h3 : τ.2.1 2 = σ.2.1 2) : mr_at G τ := by
  refine ⟨h.1, h0.trans h.2.1, fun r hr => ?_⟩
  rw [h1, h2, h3]
  exact h.2.2 r hr
def mx_at (t : List Nat) (μ : gs_St) : Prop := t.length ≤ 6 ∧ (∀ i, i < t.length → t.getD i 0 < 24) ∧ μ.1 1 = nI t.length ∧ ∀ i, i < t.length → μ.2.1 3 i = nI (t.getD i 0)
def mi_at (l : List Int32) (μ : gs_St) : Prop := l.length ≤ 200 ∧ μ.1 2 = nI l.length ∧ ∀ i, i < l.length → μ.2.1 4 i = l.getD i 0
def md_at (d v : List Nat) (μ : gs_St) : Prop := d.length ≤ 200 ∧ v.length ≤ 16 ∧ μ.1 3 = nI d.length ∧ μ.1 4 = nI v.length ∧ (∀ i, i < d.length → μ.2.1 5 i = nI (d.getD i 0)) ∧ ∀ i, i < v.length → μ.2.1 6 i = nI (v.getD i 0)
/-- its counts: right for the rules but one, or for all -/
def mt_at (T : Nat → Nat → Nat) (N : Nat) (μ : gs_St) : Prop := ∀ A, A < 8 → ∀ p, p < N → μ.2.2 2 (A * 17 + p) = lN (T A p)
def mk_at (G : gg_R) (μ : gs_St) : Prop := ∃ (D : Nat → Option Nat) (T : Nat → Nat → Nat), gm_L G D ∧ (∀ A p, T A p ≤ 1000000000000000001) ∧ gc_okk (fun y => D y = some 0) G (fun r => decide (nI r ≠ μ.1 6)) T 17 ∧ mt_at T 17 μ
theorem mx_at.of {t : List Nat} {σ τ : gs_St} (h : mx_at t σ) (h0 : τ.1 1 = σ.1 1) (h1 : τ.2.1 3 = σ.2.1 3) : mx_at t τ := ⟨h.1, h.2.1, h0.trans h.2.2.1, fun i hi => by rw [h1]; exact h.2.2.2 i hi⟩
theorem mi_at.of {l : List Int32} {σ τ : gs_St} (h : mi_at l σ) (h0 : τ.1 2 = σ.1 2) (h1 : τ.2.1 4 = σ.2.1 4) : mi_at l τ := ⟨h.1, h0.trans h.2.1, fun i hi => by rw [h1]; exact h.2.2 i hi⟩
theorem md_at.of {d v : List Nat} {σ τ : gs_St} (h : md_at d v σ) (h0 : τ.1 3 = σ.1 3) (h1 : τ.1 4 = σ.1 4) (h2 : τ.2.1 5 = σ.2.1 5) (h3 : τ.2.1 6 = σ.2.1 6) : md_at d v τ := ⟨h.1, h.2.1, h0.trans h.2.2.1, h1.trans h.2.2.2.1, fun i hi => by rw [h2]; exact h.2.2.2.2.1 i hi, fun i hi => by rw [h3]; exact h.2.2.2.2.2 i hi⟩
theorem mk_at.of {G : gg_R} {σ τ : gs_St} (h : mk_at G σ) (h0 : τ.1 6 = σ.1 6) (h1 : τ.2.2 2 = σ.2.2 2) : mk_at G τ := by
  obtain ⟨D, T, a, b, c, e⟩ := h
  refine ⟨D, T, a, b, ?_, fun A hA p hp => by rw [h1]; exact e A hA p hp⟩
  rw [h0]
  exact c
/-- all but the counts -/
def ml_r (t : List Nat) (G : gg_R) (l : List Int32) (d v : List Nat) (μ : gs_St) : Prop := mx_at t μ ∧ mr_at G μ ∧ mi_at l μ ∧ md_at d v μ
def ml_at (t : List Nat) (G : gg_R) (l : List Int32) (d v : List Nat) (μ : gs_St) : Prop := mx_at t μ ∧ mr_at G μ ∧ mi_at l μ ∧ md_at d v μ ∧ (μ.1 5 = 0 ∨ (μ.1 5 = 1 ∧ mk_at G μ))
theorem ml_at.r {t : List Nat} {G : gg_R} {l : List Int32} {d v : List Nat} {μ : gs_St} (h : ml_at t G l d v μ) : ml_r t G l d v μ := ⟨h.1, h.2.1, h.2.2.1, h.2.2.2.1⟩
section M2A
variable {G : gg_R} {σ : gs_St} {t : List Nat} {l : List Int32} {d v : List Nat}
theorem n_isNt {x : Int32} {K : Int32 → gs_St → Prop} (h1 : ∀ j, j < 8 → x = nI j → K 1 σ) (h0 : (∀ j, j < 8 → x ≠ nI j) → K 0 σ) : C_Mo_isNonterminal x σ K := s_isNt h1 h0
theorem n_isNtN {s : Nat} {K : Int32 → gs_St → Prop} (hs : s < 2 ^ 31) (h1 : s < 8 → K 1 σ) (h0 : 8 ≤ s → K 0 σ) : C_Mo_isNonterminal (nI s) σ K := s_isNtN hs h1 h0
theorem n_isRule {x : Int32} {K : Int32 → gs_St → Prop} (h : mr_at G σ) (h1 : ∀ r, r < G.length → x = nI r → K 1 σ) (h0 : (∀ r, r < G.length → x ≠ nI r) → K 0 σ) : C_Mo_isRule x σ K := by
  have hG := h.1.1
  show (x < 0 → K 0 σ) ∧ (¬ (x < 0) → ((σ.1 0) ≤ x → K 0 σ) ∧ (¬ ((σ.1 0) ≤ x) → K 1 σ))
  rw [h.2.1]
  rcases pk_ix x (n := G.length) (by omega) with q | q | ⟨j, hj, rfl⟩
  · have hno : ∀ j, j < G.length → x ≠ nI j := fun j hj e => absurd (e ▸ q) (nI_pos (by omega))
    exact ⟨fun _ => h0 hno, fun z => absurd q z⟩
  · have hno : ∀ j, j < G.length → x ≠ nI j := fun j hj e => absurd (e ▸ q) (nI_ge hj (by omega))
    exact ⟨fun _ => h0 hno, fun _ => ⟨fun _ => h0 hno, fun z => absurd q z⟩⟩
  · exact ⟨fun z => absurd z (nI_pos (by omega)), fun _ => ⟨fun z => absurd z (nI_ge hj (by omega)), fun _ => h1 j hj rfl⟩⟩
theorem n_six (r i : Nat) : (6 : Int32) * nI r + nI i = nI (r * 6 + i) := by rw [show (6 : Int32) = nI 6 from rfl, pk_mul, nI_add, Nat.mul_comm]
theorem n_17 (r i : Nat) : (17 : Int32) * nI r + nI i = nI (r * 17 + i) := by rw [show (17 : Int32) = nI 17 from rfl, pk_mul, nI_add, Nat.mul_comm]
theorem n_at {r i : Nat} {K : Int32 → gs_St → Prop} (h : mr_at G σ) (hr : r < G.length) (hi : i < (gg_y G r).length) (k : K (nI ((gg_y G r).getD i 0)) σ) : C_Mo_at (nI r) (nI i) σ K := by
  have hG := h.1.1
  have hz := (h.1.2 r hr).2.1
  show vp_in ((6 : Int32) * nI r + nI i) 144 ∧ K (σ.2.1 2 ((6 : Int32) * nI r + nI i).toNatClampNeg) σ
  rw [n_six, nI_clamp (by omega), (h.2.2 r hr).2.2 i hi]
  exact ⟨vp_in_nI (by omega) (by decide), k⟩
theorem n_count {x : Int32} {K : Int32 → gs_St → Prop} (h : ml_at t G l d v σ) (k0 : x = 0 → K (nI G.length) σ) (k1 : x = 1 → K (nI t.length) σ) (k2 : x = 2 → K (nI l.length) σ) (k3 : x ≠ 0 → x ≠ 1 → x ≠ 2 → K (-1) σ) : C_Mo_count x σ K := by
  obtain ⟨⟨-, -, ht0, -⟩, ⟨-, hg2, -⟩, ⟨-, hl2, -⟩, -⟩ := h
  refine ⟨fun a => ⟨fun b => ⟨fun c => k3 a b c, fun c => ?_⟩, fun b => ?_⟩, fun a => ?_⟩
  · rw [hl2]; exact k2 (Classical.byContradiction c)
  · rw [ht0]; exact k1 (Classical.byContradiction b)
  · rw [hg2]; exact k0 (Classical.byContradiction a)
theorem n_row {x : Int32} {K : Int32 → gs_St → Prop} (h : ml_at t G l d v σ) (k0 : (∀ i, i < d.length → x ≠ nI i) → K (-1) σ) (k1 : ∀ i, i < d.length → x = nI i → K (nI (d.getD i 0)) σ) : C_Mo_row x σ K := by
  obtain ⟨-, -, -, ⟨h1, h2, h3, h4, h5, h6⟩, -⟩ := h
  show (x < 0 → K (-1) σ) ∧ (¬ (x < 0) → (x < (σ.1 3) → vp_in x 200 ∧ (K (σ.2.1 5 x.toNatClampNeg) σ)) ∧ (¬ (x < (σ.1 3)) → K (-1) σ))
  rw [h3]
  rcases pk_ix x (n := d.length) (by omega) with q | q | ⟨j, hj, rfl⟩
  · exact ⟨fun _ => k0 (fun i hi e => absurd (e ▸ q) (nI_pos (by omega))), fun z => absurd q z⟩
  · have hno : ∀ i, i < d.length → x ≠ nI i := fun i hi e => absurd (e ▸ q) (nI_ge hi (by omega))
    have hn : ¬ x < nI d.length := fun z => by
      rw [Int32.lt_iff_toInt_lt] at z
      rw [Int32.le_iff_toInt_le] at q
      omega
    exact ⟨fun _ => k0 hno, fun _ => ⟨fun z => absurd z hn, fun _ => k0 hno⟩⟩
  · refine ⟨fun z => absurd z (nI_pos (by omega)), fun _ => ⟨fun _ => ⟨vp_in_nI (by omega) (by decide), ?_⟩, fun z => absurd (nI_lt hj (by omega)) z⟩⟩
    rw [nI_clamp (by omega), h5 j hj]
    exact k1 j hj rfl
theorem n_leaf {x : Int32} {K : Int32 → gs_St → Prop} (h : ml_at t G l d v σ) (k0 : (∀ i, i < v.length → x ≠ nI i) → K (-1) σ) (k1 : ∀ i, i < v.length → x = nI i → K (nI (v.getD i 0)) σ) : C_Mo_leaf x σ K := by
  obtain ⟨-, -, -, ⟨h1, h2, h3, h4, h5, h6⟩, -⟩ := h
  show (x < 0 → K (-1) σ) ∧ (¬ (x < 0) → (x < (σ.1 4) → vp_in x 16 ∧ (K (σ.2.1 6 x.toNatClampNeg) σ)) ∧ (¬ (x < (σ.1 4)) → K (-1) σ))
  rw [h4]
  rcases pk_ix x (n := v.length) (by omega) with q | q | ⟨j, hj, rfl⟩
  · exact ⟨fun _ => k0 (fun i hi e => absurd (e ▸ q) (nI_pos (by omega))), fun z => absurd q z⟩
  · have hno : ∀ i, i < v.length → x ≠ nI i := fun i hi e => absurd (e ▸ q) (nI_ge hi (by omega))
    have hn : ¬ x < nI v.length := fun z => by
      rw [Int32.lt_iff_toInt_lt] at z
      rw [Int32.le_iff_toInt_le] at q
      omega
    exact ⟨fun _ => k0 hno, fun _ => ⟨fun z => absurd z hn, fun _ => k0 hno⟩⟩
  · refine ⟨fun z => absurd z (nI_pos (by omega)), fun _ => ⟨fun _ => ⟨vp_in_nI (by omega) (by decide), ?_⟩, fun z => absurd (nI_lt hj (by omega)) z⟩⟩
    rw [nI_clamp (by omega), h6 j hj]
    exact k1 j hj rfl
theorem n_symbol {x : Int32} {K : Int32 → gs_St → Prop} (h : ml_at t G l d v σ)
    (k0 : ((∀ s, s < 24 → x ≠ nI s) ∨ t.length = 6) → K (-1) σ)
    (k1 : ∀ s, s < 24 → x = nI s → t.length < 6 → ∀ τ, ml_at (t ++ [s]) G l d v τ → K (nI (t.length + 1)) τ) : C_Mo_symbol x σ K := by
  obtain ⟨⟨ht6, ht24, ht0, hti⟩, hg, hl, hd, hst⟩ := h
  rcases pk_ix x (n := 24) (by decide) with q | q | ⟨s, hs, rfl⟩
  · exact ⟨fun _ => k0 (Or.inl (fun s hs e => absurd (e ▸ q) (nI_pos (by omega)))), fun z => absurd q z⟩
  · have hno : ∀ s, s < 24 → x ≠ nI s := fun s hs e => absurd (e ▸ q) (nI_ge hs (by decide))
    exact ⟨fun _ => k0 (Or.inl hno), fun _ => ⟨fun _ => k0 (Or.inl hno), fun z => absurd q z⟩⟩
  · refine ⟨fun q => absurd q (nI_pos (by omega)), fun _ => ⟨fun q => absurd q (nI_ge hs (by decide)), fun _ => ?_⟩⟩
    rw [ht0]
    refine ek_if (not_congr (nI_eq (a := t.length) (b := 6) (by omega) (by decide))) (fun q => ?_) (fun q => k0 (Or.inr (Classical.byContradiction q)))
    have q : t.length < 6 := by omega
    refine ⟨vp_in_nI q (by decide), ?_⟩
    rw [nI_clamp (by omega)]
    intro σ1 e1 σ2 e2
    have v0 : σ2.1 1 = nI (t.length + 1) := by
      rw [e2]
      show σ1.1 1 + 1 = _
      rw [e1]
      show σ.1 1 + 1 = _
      rw [ht0, nI_1]
    rw [v0]
    refine k1 s hs rfl q σ2 ⟨⟨?_, fun i hi => ?_, ?_, fun i hi => ?_⟩, ?_⟩
    · rw [List.length_append]
      show t.length + 1 ≤ 6
      omega
    · rw [List.length_append] at hi
      have hi : i < t.length + 1 := hi
      by_cases e : i = t.length
      · rw [e, getD_append_e]
        exact hs
      · rw [getD_append_l (by omega)]
        exact ht24 i (by omega)
    · rw [List.length_append]
      exact v0
    · rw [List.length_append] at hi
      have hi : i < t.length + 1 := hi
      rw [e2, e1]
      show (if i = t.length then nI s else σ.2.1 3 i) = _
      by_cases e : i = t.length
      · rw [if_pos e, e, getD_append_e]
      · rw [if_neg e, getD_append_l (by omega)]
        exact hti i (by omega)
    · subst e2
      subst e1
      exact ⟨hg.of rfl rfl rfl rfl, hl.of rfl rfl, hd.of rfl rfl rfl rfl, hst.elim Or.inl (fun z => Or.inr ⟨z.1, z.2.of rfl rfl⟩)⟩
theorem n_list {x : Int32} {K : Int32 → gs_St → Prop} (h : ml_at t G l d v σ) (k0 : l.length = 200 → K (-1) σ) (k1 : l.length < 200 → ∀ τ, ml_at t G (l ++ [x]) d v τ → K (nI (l.length + 1)) τ) : C_Mo_list x σ K := by
  obtain ⟨ht, hg, ⟨hl1, hl2, hl3⟩, hd, hst⟩ := h
  unfold C_Mo_list
  rw [hl2]
  refine ek_if (not_congr (nI_eq (a := l.length) (b := 200) (by omega) (by decide))) (fun q => ?_) (fun q => k0 (Classical.byContradiction q))
  have q : l.length < 200 := by omega
  refine ⟨vp_in_nI q (by decide), ?_⟩
  rw [nI_clamp (by omega)]
  intro σ1 e1 σ2 e2
  have v0 : σ2.1 2 = nI (l.length + 1) := by
    rw [e2]
    show σ1.1 2 + 1 = _
    rw [e1]
    show σ.1 2 + 1 = _
    rw [hl2, nI_1]
  rw [v0]
  refine k1 q σ2 ⟨?_, ?_, ⟨?_, ?_, fun i hi => ?_⟩, ?_⟩
  · subst e2
    subst e1
    exact ht.of rfl rfl
  · subst e2
    subst e1
    exact hg.of rfl rfl rfl rfl
  · rw [List.length_append]
    show l.length + 1 ≤ 200
    omega
  · rw [List.length_append]
    exact v0
  · rw [List.length_append] at hi
    have hi : i < l.length + 1 := hi
    rw [e2, e1]
    show (if i = l.length then x else σ.2.1 4 i) = _
    by_cases e : i = l.length
    · rw [if_pos e, e, getD_append_e]
    · rw [if_neg e, getD_append_l (by omega)]
      exact hl3 i (by omega)
  · subst e2
    subst e1
    exact ⟨hd.of rfl rfl rfl rfl, hst.elim Or.inl (fun z => Or.inr ⟨z.1, z.2.of rfl rfl⟩)⟩
theorem n_about {x i : Int32} {K : Int32 → gs_St → Prop} (h : ml_at t G l d v σ) (k0 : (∀ r, r < G.length → x ≠ nI r) → K (-1) σ)
    (k1 : ∀ r, r < G.length → x = nI r → i = -1 → K (nI (gg_l G r)) σ) (k2 : ∀ r, r < G.length → x = nI r → ∀ j, j < (gg_y G r).length → i = nI j → K (nI ((gg_y G r).getD j 0)) σ)
    (k3 : ∀ r, r < G.length → x = nI r → i ≠ -1 → (∀ j, j < (gg_y G r).length → i ≠ nI j) → K (-1) σ) : C_Mo_about x i σ K := by
  have hg := h.2.1
  have hG := hg.1.1
  refine n_isRule hg (fun r hr e => ?_) (fun hno => br_t rfl (k0 hno))
  subst e
  obtain ⟨hl8, hz, h24⟩ := hg.1.2 r hr
  obtain ⟨b1, b2, b3⟩ := hg.2.2 r hr
  have hv : vp_in (nI r) 24 := vp_in_nI (by omega) (by decide)
  refine br_f (by decide) ?_
  rw [nI_clamp (by omega), b1, b2]
  by_cases hi : i < (-1 : Int32)
  · refine br_t hi (k3 r hr rfl ?_ ?_)
    · rintro rfl
      exact absurd hi (by decide)
    · rintro j hj rfl
      have h1 := nI_pos' (n := j) (by omega)
      rw [Int32.lt_iff_toInt_lt] at hi
      rw [Int32.le_iff_toInt_le] at h1
      rw [show (-1 : Int32).toInt = -1 by decide] at hi
      rw [show (0 : Int32).toInt = 0 by decide] at h1
      omega
  · refine br_f hi ⟨hv, ?_⟩
    by_cases he : i = -1
    · subst he
      refine br_t ?_ (br_f (fun z => z rfl) ⟨hv, k1 r hr rfl rfl⟩)
      rw [Int32.lt_iff_toInt_lt, nI_toInt (by omega), show (-1 : Int32).toInt = -1 by decide]
      omega
    · have h0 : ¬ i < 0 := fun z => he (by
        apply Int32.toInt_inj.mp
        rw [Int32.lt_iff_toInt_lt, show (0 : Int32).toInt = 0 by decide] at z
        rw [Int32.lt_iff_toInt_lt, show (-1 : Int32).toInt = -1 by decide] at hi
        rw [show (-1 : Int32).toInt = -1 by decide]
        omega)
      obtain ⟨j, hj, rfl⟩ := nI_of h0
      refine ek_if (nI_ltI hj (by omega)) (fun q => br_t he (n_at hg hr q (k2 r hr rfl j q rfl))) (fun q => k3 r hr rfl he (fun j' hj' e => ?_))
      have := (nI_eq hj (by omega)).mp e
      omega
end M2A
end
section
/-! Layer 2 of the reference, part b: rule and drop. -/
def mk3 (σ : gs_St) (g0 g1 g2 : Nat → Int32) : gs_St := (σ.1, fun j => if j = 0 then g0 else if j = 1 then g1 else if j = 2 then g2 else σ.2.1 j, σ.2.2)
theorem mk3_0 (σ : gs_St) (g0 g1 g2 g : Nat → Int32) : gs_A (mk3 σ g0 g1 g2) 0 g = mk3 σ g g1 g2 := by
  refine Prod.ext rfl (Prod.ext (funext fun j => ?_) rfl)
  show (if j = 0 then g else (if j = 0 then g0 else if j = 1 then g1 else if j = 2 then g2 else σ.2.1 j)) = (if j = 0 then g else if j = 1 then g1 else if j = 2 then g2 else σ.2.1 j)
  by_cases h : j = 0
  · simp only [if_pos h]
  · simp only [if_neg h]
theorem mk3_1 (σ : gs_St) (g0 g1 g2 g : Nat → Int32) : gs_A (mk3 σ g0 g1 g2) 1 g = mk3 σ g0 g g2 := by
  refine Prod.ext rfl (Prod.ext (funext fun j => ?_) rfl)
  show (if j = 1 then g else (if j = 0 then g0 else if j = 1 then g1 else if j = 2 then g2 else σ.2.1 j)) = (if j = 0 then g0 else if j = 1 then g else if j = 2 then g2 else σ.2.1 j)
  by_cases h : j = 1
  · simp only [if_pos h, if_neg (show ¬ j = 0 by omega)]
  · simp only [if_neg h]
theorem mk3_2 (σ : gs_St) (g0 g1 g2 g : Nat → Int32) : gs_A (mk3 σ g0 g1 g2) 2 g = mk3 σ g0 g1 g := by
  refine Prod.ext rfl (Prod.ext (funext fun j => ?_) rfl)
  show (if j = 2 then g else (if j = 0 then g0 else if j = 1 then g1 else if j = 2 then g2 else σ.2.1 j)) = (if j = 0 then g0 else if j = 1 then g1 else if j = 2 then g else σ.2.1 j)
  by_cases h : j = 2
  · simp only [if_pos h, if_neg (show ¬ j = 0 by omega), if_neg (show ¬ j = 1 by omega)]
  · simp only [if_neg h]
theorem mk3_id (σ : gs_St) : mk3 σ (σ.2.1 0) (σ.2.1 1) (σ.2.1 2) = σ := by
  refine Prod.ext rfl (Prod.ext (funext fun j => ?_) rfl)
  show (if j = 0 then σ.2.1 0 else if j = 1 then σ.2.1 1 else if j = 2 then σ.2.1 2 else σ.2.1 j) = σ.2.1 j
  by_cases h : j = 0
  · rw [if_pos h, h]
  · by_cases h1 : j = 1
    · rw [if_neg h, if_pos h1, h1]
    · by_cases h2 : j = 2
      · rw [if_neg h, if_neg h1, if_pos h2, h2]
      · rw [if_neg h, if_neg h1, if_neg h2]
section M2B
variable {G : gg_R} {σ : gs_St} {t : List Nat} {l : List Int32} {d v : List Nat}
theorem n_rule {x : Int32} {K : Int32 → gs_St → Prop} (h : ml_at t G l d v σ)
    (k0 : ((∀ j, j < 8 → x ≠ nI j) ∨ G.length = 24) → ∀ τ, ml_at [] G l d v τ → K (-1) τ)
    (k1 : ∀ j, j < 8 → x = nI j → G.length < 24 → ∀ τ, ml_at [] (G ++ [(j, t)]) l d v τ → K (nI G.length) τ) : C_Mo_rule x σ K := by
  intro X50 h50
  obtain ⟨⟨ht6, ht24, ht0, hti⟩, hg, hl, hd, hst⟩ := h
  have hG := hg.1.1
  have hg0 := hg.2.1
  refine nm_r ht0 ?_
  intro σ2 e2
  have g2 : σ2.1 0 = nI G.length := by rw [e2]; exact hg0
  have hc2 : ml_at [] G l d v σ2 := by
    rw [e2]
    exact ⟨⟨by decide, fun i hi => absurd hi (Nat.not_lt_zero _), rfl, fun i hi => absurd hi (Nat.not_lt_zero _)⟩, hg.of rfl rfl rfl rfl, hl.of rfl rfl, hd.of rfl rfl rfl rfl, hst.elim Or.inl (fun z => Or.inr ⟨z.1, z.2.of rfl rfl⟩)⟩
  rw [g2]
  refine ek_if (nI_eq (a := G.length) (b := 24) (by omega) (by decide)) (fun q => k0 (Or.inr q) σ2 hc2) (fun q => ?_)
  have q : G.length < 24 := by omega
  refine n_isNt (fun j hj ex => ?_) (fun hno => br_f (fun z => z rfl) (k0 (Or.inl hno) σ2 hc2))
  subst ex
  refine br_t (by decide) ?_
  rw [g2]
  refine ⟨vp_in_nI q (by decide), ?_⟩
  rw [nI_clamp (by omega)]
  intro σ5 e5
  have g5 : σ5.1 0 = nI G.length := by rw [e5]; exact g2
  rw [g5]
  refine ⟨vp_in_nI q (by decide), ?_⟩
  rw [nI_clamp (by omega)]
  intro σ6 e6
  have g6 : σ6.1 0 = nI G.length := by rw [e6]; exact g5
  have key : ∀ (n i : Nat) (f : Nat → Int32), i + n = t.length → (∀ j, f j = if G.length * 6 ≤ j ∧ j < G.length * 6 + i then σ.2.1 3 (j - G.length * 6) else σ.2.1 2 j) → X50 (nI t.length) (nI i) (gs_A σ6 2 f) := by
    intro n
    induction n with
    | zero =>
      intro i f hi hf
      have hi : i = t.length := hi
      subst hi
      apply h50
      refine pk_le t.length t.length (fun _ => ?_) (fun z => absurd z (by omega))
      intro σ7 e7 σ8 e8
      have g8 : σ8.1 0 = nI (G.length + 1) := by
        rw [e8, e7]
        show σ6.1 0 + 1 = _
        rw [g6, nI_1]
      rw [g8, nI_pred]
      have f0 : σ8.2.1 0 = upd (σ.2.1 0) G.length (nI j) := by rw [e8, e7, e6, e5, e2]; rfl
      have f1 : σ8.2.1 1 = upd (σ.2.1 1) G.length (nI t.length) := by rw [e8, e7, e6, e5, e2]; rfl
      have f2 : σ8.2.1 2 = f := by rw [e8, e7]; rfl
      refine k1 j hj rfl q σ8 ⟨⟨by decide, fun i hi => absurd hi (Nat.not_lt_zero _), ?_, fun i hi => absurd hi (Nat.not_lt_zero _)⟩, ⟨gg_ok_app hg.1 q hj ht6 ht24, ?_, fun r hr => ?_⟩, ?_, ?_, Or.inl ?_⟩
      · rw [e8, e7, e6, e5, e2]; rfl
      · rw [List.length_append]
        exact g8
      · rw [List.length_append] at hr
        have hr : r < G.length + 1 := hr
        rw [f0, f1, f2]
        by_cases e : r = G.length
        · subst e
          rw [gg_l_end, gg_y_end]
          refine ⟨pk_us, pk_us, fun i hi => ?_⟩
          have hi : i < t.length := hi
          rw [hf, if_pos ⟨by omega, by omega⟩, show G.length * 6 + i - G.length * 6 = i by omega]
          exact hti i hi
        · have hr' : r < G.length := by omega
          rw [gg_l_app hr', gg_y_app hr', pk_un e, pk_un e]
          obtain ⟨b1, b2, b3⟩ := hg.2.2 r hr'
          have hz := (hg.1.2 r hr').2.1
          refine ⟨b1, b2, fun i hi => ?_⟩
          rw [hf, if_neg (by omega)]
          exact b3 i hi
      · exact hl.of (by rw [e8, e7, e6, e5, e2]; rfl) (by rw [e8, e7, e6, e5, e2]; rfl)
      · exact hd.of (by rw [e8, e7, e6, e5, e2]; rfl) (by rw [e8, e7, e6, e5, e2]; rfl) (by rw [e8, e7, e6, e5, e2]; rfl) (by rw [e8, e7, e6, e5, e2]; rfl)
      · rw [e8]; rfl
    | succ n ih =>
      intro i f hi hf
      apply h50
      refine pk_le t.length i (fun z => absurd z (by omega)) (fun _ => ?_)
      have e0 : (gs_A σ6 2 f).1 0 = nI G.length := g6
      have e3 : (gs_A σ6 2 f).2.1 3 = σ.2.1 3 := by rw [e6, e5, e2]; rfl
      rw [e0, e3, n_six, nI_clamp (by omega), nI_clamp (by omega)]
      refine ⟨vp_in_nI (by omega) (by decide), vp_in_nI (by omega) (by decide), ?_⟩
      intro τ hτ
      have e : τ = gs_A σ6 2 (upd f (G.length * 6 + i) (σ.2.1 3 i)) := by
        rw [hτ, gs_AA]
        rfl
      rw [e]
      refine nm_r (nI_1 i) (ih (i + 1) _ (by omega) (fun j => ?_))
      show (if j = G.length * 6 + i then σ.2.1 3 i else f j) = _
      by_cases z : j = G.length * 6 + i
      · rw [if_pos z, if_pos (by omega), show j - G.length * 6 = i by omega]
      · rw [if_neg z, hf j]
        by_cases y : G.length * 6 ≤ j ∧ j < G.length * 6 + i
        · rw [if_pos y, if_pos (by omega)]
        · rw [if_neg y, if_neg (by omega)]
  have := key t.length 0 (σ6.2.1 2) (by omega) (fun j => by rw [if_neg (by omega), e6, e5, e2]; rfl)
  rw [gs_Aid] at this
  exact this
theorem n_drop {x : Int32} {K : Int32 → gs_St → Prop} (h : ml_at t G l d v σ)
    (k0 : (∀ r, r < G.length → x ≠ nI r) → K 0 σ)
    (k1 : ∀ r, r < G.length → x = nI r → ∀ τ, ml_at t (G.eraseIdx r) l d v τ → K 1 τ) : C_Mo_drop x σ K := by
  intro X22 X60 h22 h60
  obtain ⟨ht, hg, hl, hd, hst⟩ := h
  have hG := hg.1.1
  refine n_isRule hg (fun k hk ex => ?_) (fun hno => br_f (fun z => z rfl) (k0 hno))
  subst ex
  refine br_t (by decide) ?_
  intro σ3 e3
  have g0 : σ3.1 0 = nI (G.length - 1) := by
    rw [e3]
    show σ.1 0 - 1 = _
    rw [hg.2.1, show G.length = (G.length - 1) + 1 by omega, nI_pred]
    congr 1
  -- r: the place that is filled next
  have key : ∀ (n r : Nat) (a b c : Nat → Int32), r + n = G.length - 1 → k ≤ r → (∀ q, a q = if k ≤ q ∧ q < r then σ.2.1 0 (q + 1) else σ.2.1 0 q) → (∀ q, b q = if k ≤ q ∧ q < r then σ.2.1 1 (q + 1) else σ.2.1 1 q) → (∀ q, c q = if k * 6 ≤ q ∧ q < r * 6 then σ.2.1 2 (q + 6) else σ.2.1 2 q) → X22 (nI r) (mk3 σ3 a b c) := by
    intro n
    induction n with
    | zero =>
      intro r a b c hr hkr ha hb hc
      have hr : r = G.length - 1 := hr
      apply h22
      refine pk_le (G.length - 1) r (fun _ => ?_) (fun z => absurd z (by omega)) g0
      intro σ4 e4
      have f0 : σ4.2.1 0 = a := by rw [e4]; rfl
      have f1 : σ4.2.1 1 = b := by rw [e4]; rfl
      have f2 : σ4.2.1 2 = c := by rw [e4]; rfl
      refine k1 k hk rfl σ4 ⟨ht.of (by rw [e4, e3]; rfl) (by rw [e4, e3]; rfl), ⟨gg_ok_er hg.1 hk, ?_, fun q hq => ?_⟩, hl.of (by rw [e4, e3]; rfl) (by rw [e4, e3]; rfl), hd.of (by rw [e4, e3]; rfl) (by rw [e4, e3]; rfl) (by rw [e4, e3]; rfl) (by rw [e4, e3]; rfl), Or.inl (by rw [e4]; rfl)⟩
      · rw [gg_er_n hk, e4]
        exact g0
      · rw [gg_er_n hk] at hq
        rw [f0, f1, f2, gg_er_l, gg_er_y]
        have hq' : (if q < k then q else q + 1) < G.length := by split <;> omega
        obtain ⟨b1, b2, b3⟩ := hg.2.2 _ hq'
        have hz := (hg.1.2 _ hq').2.1
        by_cases z : q < k
        · rw [if_pos z] at b1 b2 b3 hz ⊢
          refine ⟨?_, ?_, fun i hi => ?_⟩
          · rw [ha, if_neg (by omega)]; exact b1
          · rw [hb, if_neg (by omega)]; exact b2
          · rw [hc, if_neg (by omega)]; exact b3 i hi
        · rw [if_neg z] at b1 b2 b3 hz ⊢
          refine ⟨?_, ?_, fun i hi => ?_⟩
          · rw [ha, if_pos (by omega)]; exact b1
          · rw [hb, if_pos (by omega)]; exact b2
          · rw [hc, if_pos (by omega), show q * 6 + i + 6 = (q + 1) * 6 + i by omega]; exact b3 i hi
    | succ n ih =>
      intro r a b c hr hkr ha hb hc
      apply h22
      refine pk_le (G.length - 1) r (fun z => absurd z (by omega)) (fun _ => ?_) g0
      rw [nI_1, nI_clamp (by omega), nI_clamp (by omega)]
      have v1 : vp_in (nI (r + 1)) 24 := vp_in_nI (by omega) (by decide)
      have v0 : vp_in (nI r) 24 := vp_in_nI (by omega) (by decide)
      refine ⟨v1, v0, ?_⟩
      intro σ5 e5
      have e5' : σ5 = mk3 σ3 (upd a r (a (r + 1))) b c := by rw [e5, mk3_0]; rfl
      rw [e5']
      refine ⟨v1, v0, ?_⟩
      intro σ6 e6
      have e6' : σ6 = mk3 σ3 (upd a r (a (r + 1))) (upd b r (b (r + 1))) c := by rw [e6, mk3_1]; rfl
      rw [e6']
      have inner : ∀ (m i : Nat) (c : Nat → Int32), i + m = 6 → (∀ q, c q = if k * 6 ≤ q ∧ q < r * 6 + i then σ.2.1 2 (q + 6) else σ.2.1 2 q) → X60 (nI r) (nI i) (mk3 σ3 (upd a r (a (r + 1))) (upd b r (b (r + 1))) c) := by
        intro m
        induction m with
        | zero =>
          intro i c hi hc
          have hi : i = 6 := hi
          subst hi
          apply h60
          refine br_t (by decide) (nm_r (nI_1 r) (ih (r + 1) _ _ c (by omega) (by omega) (fun q => ?_) (fun q => ?_) (fun q => ?_)))
          · show (if q = r then a (r + 1) else a q) = _
            by_cases z : q = r
            · rw [if_pos z, ha, if_neg (by omega), if_pos (by omega), z]
            · rw [if_neg z, ha]
              by_cases y : k ≤ q ∧ q < r
              · rw [if_pos y, if_pos (by omega)]
              · rw [if_neg y, if_neg (by omega)]
          · show (if q = r then b (r + 1) else b q) = _
            by_cases z : q = r
            · rw [if_pos z, hb, if_neg (by omega), if_pos (by omega), z]
            · rw [if_neg z, hb]
              by_cases y : k ≤ q ∧ q < r
              · rw [if_pos y, if_pos (by omega)]
              · rw [if_neg y, if_neg (by omega)]
          · rw [hc]
            by_cases y : k * 6 ≤ q ∧ q < r * 6 + 6
            · rw [if_pos y, if_pos (by omega)]
            · rw [if_neg y, if_neg (by omega)]
        | succ m ihm =>
          intro i c hi hc
          apply h60
          refine pk_le 6 i (fun z => absurd z (by omega)) (fun _ => ?_)
          have e1 : (6 : Int32) * nI r + (6 : Int32) + nI i = nI (r * 6 + 6 + i) := by
            rw [show (6 : Int32) = nI 6 from rfl, pk_mul, nI_add, nI_add, Nat.mul_comm]
          rw [e1, n_six, nI_clamp (by omega), nI_clamp (by omega)]
          refine ⟨vp_in_nI (by omega) (by decide), vp_in_nI (by omega) (by decide), ?_⟩
          intro τ hτ
          have eτ : τ = mk3 σ3 (upd a r (a (r + 1))) (upd b r (b (r + 1))) (upd c (r * 6 + i) (c (r * 6 + 6 + i))) := by rw [hτ, mk3_2]; rfl
          rw [eτ]
          refine nm_r (nI_1 i) (ihm (i + 1) _ (by omega) (fun q => ?_))
          show (if q = r * 6 + i then c (r * 6 + 6 + i) else c q) = _
          by_cases z : q = r * 6 + i
          · rw [if_pos z, hc, if_neg (by omega), if_pos (by omega), z, show r * 6 + i + 6 = r * 6 + 6 + i by omega]
          · rw [if_neg z, hc]
            by_cases y : k * 6 ≤ q ∧ q < r * 6 + i
            · rw [if_pos y, if_pos (by omega)]
            · rw [if_neg y, if_neg (by omega)]
      exact inner 6 0 c rfl (fun q => by rw [hc]; rfl)
  have := key (G.length - 1 - k) k (σ3.2.1 0) (σ3.2.1 1) (σ3.2.1 2) (by omega) (Nat.le_refl _) (fun q => by rw [if_neg (by omega), e3]; rfl) (fun q => by rw [if_neg (by omega), e3]; rfl) (fun q => by rw [if_neg (by omega), e3]; rfl)
  rw [mk3_id] at this
  exact this
end M2B
end
section
/-! Layer 2 of the reference, part c: least lengths, as longs. -/
def mo : Option Nat → Nat
  | none => 1152921504606846976
  | some n => n
/-- a plain sum of lengths -/
def gg_bs (D : Nat → Option Nat) (x : Int32) : Nat → List Nat → Nat
  | _, [] => 0
  | i, s :: zs => (if nI i = x then 0 else mo (gg_len D s)) + gg_bs D x (i + 1) zs
theorem gg_bs_some {D : Nat → Option Nat} {x : Int32} : ∀ (zs : List Nat) (i n : Nat), gg_but D x i zs = some n → gg_bs D x i zs = n
  | [], _, n, h => by
    injection h with h
  | s :: zs, i, n, h => by
    have h : (if nI i = x then gg_but D x (i + 1) zs else gg_add (gg_len D s) (gg_but D x (i + 1) zs)) = some n := h
    show (if nI i = x then 0 else mo (gg_len D s)) + gg_bs D x (i + 1) zs = n
    by_cases e : nI i = x
    · rw [if_pos e] at h ⊢
      rw [gg_bs_some zs (i + 1) n h, Nat.zero_add]
    · rw [if_neg e] at h ⊢
      obtain ⟨a, b, h1, h2, h3⟩ := gg_add_some h
      rw [gg_bs_some zs (i + 1) b h2, h1]
      exact h3.symm
theorem gg_bs_none {D : Nat → Option Nat} {x : Int32} : ∀ (zs : List Nat) (i : Nat), gg_but D x i zs = none → 1152921504606846976 ≤ gg_bs D x i zs
  | [], _, h => by cases h
  | s :: zs, i, h => by
    have h : (if nI i = x then gg_but D x (i + 1) zs else gg_add (gg_len D s) (gg_but D x (i + 1) zs)) = none := h
    show 1152921504606846976 ≤ (if nI i = x then 0 else mo (gg_len D s)) + gg_bs D x (i + 1) zs
    by_cases e : nI i = x
    · rw [if_pos e] at h ⊢
      have := gg_bs_none zs (i + 1) h
      omega
    · rw [if_neg e] at h ⊢
      cases ha : gg_len D s with
      | none =>
        show 1152921504606846976 ≤ 1152921504606846976 + _
        omega
      | some a =>
        cases hb : gg_but D x (i + 1) zs with
        | none =>
          have := gg_bs_none zs (i + 1) hb
          omega
        | some b =>
          rw [ha, hb] at h
          cases h
theorem mo_le {o : Option Nat} (h : ∀ n, o = some n → n ≤ 1152921504606846976) : mo o ≤ 1152921504606846976 := by
  cases o with
  | none => exact Nat.le_refl _
  | some n => exact h n rfl
section M2C
variable {G : gg_R} {σ : gs_St} {D : Nat → Option Nat}
def me_at (D : Nat → Option Nat) (σ : gs_St) : Prop := ∀ A, A < 8 → σ.2.2 0 A = lN (mo (D A))
def mw_at (D : Nat → Option Nat) (σ : gs_St) : Prop := ∀ A, A < 8 → σ.2.2 1 A = lN (mo (D A))
theorem gl_far : (1152921504606846976 : Int64) = lN 1152921504606846976 := rfl
theorem n_leastOf {s : Nat} {K : Int64 → gs_St → Prop} (hs : s < 2 ^ 31) (hD : me_at D σ) (k : K (lN (mo (gg_len D s))) σ) : C_Mo_leastOf (nI s) σ K := by
  refine n_isNtN hs (fun q => br_f (by decide) ⟨vp_in_nI q (by decide), ?_⟩) (fun q => br_t rfl ?_)
  · rw [nI_clamp (by omega), hD s q]
    have e : gg_len D s = D s := if_pos q
    rw [e] at k
    exact k
  · have e : gg_len D s = some 1 := if_neg (by omega)
    rw [e] at k
    exact k
theorem n_leastBut {r : Nat} {x : Int32} {K : Int64 → gs_St → Prop} (h : mr_at G σ) (hr : r < G.length) (hD : me_at D σ) (hbd : gg_bd D 1679616) (k : K (lN (mo (gg_but D x 0 (gg_y G r)))) σ) : C_Mo_leastBut (nI r) x σ K := by
  intro X5 h5
  have hG := h.1.1
  obtain ⟨hl8, hz, h24⟩ := h.1.2 r hr
  have hmol : ∀ s, mo (gg_len D s) ≤ 1152921504606846976 := fun s => mo_le (fun n hn => by
    have := gg_len_le hbd (by decide) hn
    omega)
  have key : ∀ (zs : List Nat) (i a : Nat), (gg_y G r).drop i = zs → i + zs.length = (gg_y G r).length → a + gg_bs D x i zs = gg_bs D x 0 (gg_y G r) → a ≤ i * 1152921504606846976 → X5 (nI r) x (lN a) (nI i) σ := by
    intro zs
    induction zs with
    | nil =>
      intro i a hd hi ha hb
      have hi : i = (gg_y G r).length := hi
      have ha : a + 0 = gg_bs D x 0 (gg_y G r) := ha
      apply h5
      refine ⟨vp_in_nI (by omega) (by decide), ?_⟩
      rw [nI_clamp (by omega), (h.2.2 r hr).2.1]
      refine pk_le (gg_y G r).length i (fun _ => ?_) (fun q => absurd q (by omega))
      rw [gl_far]
      have hib : i * 1152921504606846976 ≤ 6 * 1152921504606846976 := Nat.mul_le_mul_right _ (by omega)
      cases hs : gg_but D x 0 (gg_y G r) with
      | none =>
        have hn := gg_bs_none _ _ hs
        rw [hs] at k
        refine ek_if (pk_lLE (by decide) (by omega)) (fun _ => k) (fun q => absurd q (by omega))
      | some n =>
        have hn := gg_bs_some _ _ _ hs
        have hle := gg_but_le hbd (by decide) _ _ _ hs
        have : (gg_y G r).length * 1679616 ≤ 6 * 1679616 := Nat.mul_le_mul_right _ hz
        rw [hs] at k
        refine ek_if (pk_lLE (by decide) (by omega)) (fun q => absurd q (by omega)) (fun _ => ?_)
        rw [show a = n by omega]
        exact k
    | cons s zs ih =>
      intro i a hd hi ha hb
      obtain ⟨h1, h2, h3⟩ := gg_cons hd
      have hi : i + (zs.length + 1) = (gg_y G r).length := hi
      have ha : a + ((if nI i = x then 0 else mo (gg_len D s)) + gg_bs D x (i + 1) zs) = gg_bs D x 0 (gg_y G r) := ha
      have h24i := h24 i h1
      rw [h2] at h24i
      have hm := hmol s
      have hi1 : (i + 1) * 1152921504606846976 = i * 1152921504606846976 + 1152921504606846976 := by rw [Nat.add_mul, Nat.one_mul]
      apply h5
      refine ⟨vp_in_nI (by omega) (by decide), ?_⟩
      rw [nI_clamp (by omega), (h.2.2 r hr).2.1]
      refine pk_le (gg_y G r).length i (fun q => absurd q (by omega)) (fun _ => ⟨fun hne => ?_, fun he => ?_⟩)
      · rw [if_neg hne] at ha
        refine n_at h hr h1 ?_
        rw [h2]
        refine n_leastOf (by omega) hD ?_
        exact nm_r (lN_add _ _) (nm_r (nI_1 i) (ih (i + 1) (a + mo (gg_len D s)) h3 (by omega) (by omega) (by omega)))
      · have he : nI i = x := Classical.byContradiction he
        rw [if_pos he, Nat.zero_add] at ha
        have e0 : lN a + (0 : Int64) = lN a := lN_add a 0
        have ha2 : a ≤ (i + 1) * 1152921504606846976 := by rw [hi1]; exact Nat.le_trans hb (Nat.le_add_right _ _)
        exact nm_r e0 (nm_r (nI_1 i) (ih (i + 1) a h3 (by omega) ha ha2))
  exact key (gg_y G r) 0 0 rfl (by omega) (by omega) (by omega)
/-- the shorter of two, by their longs -/
theorem mo_low {W : Nat → Option Nat} {A : Nat} {o : Option Nat} (hW : ∀ n, W A = some n → n < 1152921504606846976) (ho : ∀ n, o = some n → n < 1152921504606846976) : (mo (W A) ≤ mo o → ∀ B, gg_low W A o B = W B) ∧ (¬ mo (W A) ≤ mo o → o ≠ none ∧ ∀ B, gg_low W A o B = gg_up W A o B) := by
  unfold gg_low
  cases o with
  | none =>
    refine ⟨fun _ _ => rfl, fun q => absurd ?_ q⟩
    exact mo_le (fun n hn => by have := hW n hn; omega)
  | some n =>
    have hn := ho n rfl
    cases hd : W A with
    | none =>
      refine ⟨fun q => ?_, fun _ => ⟨(fun z => nomatch z), fun _ => rfl⟩⟩
      have q : 1152921504606846976 ≤ n := q
      omega
    | some m =>
      refine ⟨fun q B => ?_, fun q => ⟨(fun z => nomatch z), fun B => ?_⟩⟩
      · show (if m ≤ n then W else gg_up W A (some n)) B = W B
        rw [if_pos (show m ≤ n from q)]
      · show (if m ≤ n then W else gg_up W A (some n)) B = gg_up W A (some n) B
        rw [if_neg (show ¬ m ≤ n from q)]
theorem n_shorten {K : gs_St → Prop} (h : mr_at G σ) (kk : ∀ (D : Nat → Option Nat) (f : Nat → Int64), (∀ A, A < 8 → f A = lN (mo (D A))) → gm_L G D → gg_bd D 1679616 → K (gs_L σ 0 f)) : C_Mo_shorten σ K := by
  intro X2 X25 X33 h2 h25 h33
  have hG := h.1.1
  have g0 : ∀ f, mr_at G (gs_L σ 0 f) := fun f => h.of rfl rfl rfl rfl
  have ph : ∀ (n k : Nat) (D : Nat → Option Nat) (f : Nat → Int64), k + n = 8 → (∀ A, A < 8 → f A = lN (mo (D A))) → gg_sb gg_b1 D → gm_snd G D → gm_cpl G k D → X25 (nI k) (gs_L σ 0 f) := by
    intro n
    induction n with
    | zero =>
      intro k D f hk hf hsb hsn hcp
      have hk : k = 8 := hk
      subst hk
      apply h25
      exact br_t (by decide) (kk D f hf (gm_L_of hsn hcp) (gg_sb_bd gg_b1_up hsb))
    | succ n ih =>
      intro k D f hk hf hsb hsn hcp
      apply h25
      refine pk_le 8 k (fun q => absurd q (by omega)) (fun _ => ?_)
      have inner : ∀ (m r : Nat) (D : Nat → Option Nat) (f : Nat → Int64), r + m = G.length → (∀ A, A < 8 → f A = lN (mo (D A))) → gg_sb gg_b1 D → gm_snd G D → gm_cpl G k D → gm_dn G k r D → X33 (nI k) (nI r) (gs_L σ 0 f) := by
        intro m
        induction m with
        | zero =>
          intro r D f hr hf hsb hsn hcp hdn
          have hr : r = G.length := hr
          subst hr
          apply h33
          exact pk_le G.length G.length (fun _ => nm_r (nI_1 k) (ih (k + 1) D f (by omega) hf hsb hsn hdn.next)) (fun q => absurd q (by omega)) h.2.1
        | succ m ihm =>
          intro r D f hr hf hsb hsn hcp hdn
          have hr' : r < G.length := by omega
          obtain ⟨hl8, hz, h24⟩ := h.1.2 r hr'
          have hbd : gg_bd D 1679616 := gg_sb_bd gg_b1_up hsb
          apply h33
          refine pk_le G.length r (fun q => absurd q (by omega)) (fun _ => ?_) h.2.1
          refine n_leastBut (D := D) (g0 f) hr' hf hbd ?_
          rw [gg_but_no _ 0 (by omega)]
          have hsum : ∀ x, gg_sum D (gg_y G r) = some x → x ≤ gg_b1 (gg_cnt D 8 + 1) := fun x hx => by
            rw [← gg_but_no _ 0 (by omega)] at hx
            have e1 := gg_but_le hsb (gg_b1_pos _) (gg_y G r) 0 x hx
            refine Nat.le_trans e1 ?_
            unfold gg_b1
            rw [Nat.pow_succ, Nat.mul_comm]
            exact Nat.mul_le_mul_left _ hz
          have hb8 : gg_b1 (gg_cnt D 8 + 1) ≤ gg_b1 9 := gg_mono gg_b1_up (by have := gg_cnt_le D 8; omega)
          have hb9 : gg_b1 9 = 10077696 := by decide
          have hDb : ∀ n, D (gg_l G r) = some n → n < 1152921504606846976 := fun n hn => by have := hbd _ hl8 n hn; omega
          have hob : ∀ n, gg_sum D (gg_y G r) = some n → n < 1152921504606846976 := fun n hn => by have := hsum n hn; omega
          obtain ⟨l1, l2⟩ := mo_low hDb hob
          obtain ⟨s1, s2, s3⟩ := gm_step hr' hsn hcp hdn
          have next : ∀ f2 : Nat → Int64, (∀ B, B < 8 → f2 B = lN (mo (gg_low D (gg_l G r) (gg_sum D (gg_y G r)) B))) → ∀ v7 : Int32, v7 = nI r + 1 → X33 (nI k) v7 (gs_L σ 0 f2) := fun f2 hf2 => nm_r (nI_1 r) (ihm (r + 1) _ f2 (by omega) hf2 (gg_sb_low gg_b1_up hl8 hsb hsum) s1 s2 s3)
          have hv : vp_in (nI r) 24 := vp_in_nI (by omega) (by decide)
          have hv8 : vp_in (nI (gg_l G r)) 8 := vp_in_nI hl8 (by decide)
          rw [nI_clamp (by omega)]
          have ea : (gs_L σ 0 f).2.1 0 r = nI (gg_l G r) := (h.2.2 r hr').1
          have el : (gs_L σ 0 f).2.2 0 (gg_l G r) = lN (mo (D (gg_l G r))) := hf _ hl8
          rw [ea, nI_clamp (by omega), el]
          have m1 : mo (D (gg_l G r)) ≤ 1152921504606846976 := mo_le (fun n hn => by have := hDb n hn; omega)
          have m2 : mo (gg_sum D (gg_y G r)) ≤ 1152921504606846976 := mo_le (fun n hn => by have := hob n hn; omega)
          refine ⟨hv, hv, hv8, ek_if (pk_lLE (by omega) (by omega)) (fun q => ⟨hv, hv8, hv8, ?_⟩) (fun q => ⟨hv8, ?_⟩)⟩
          · intro τ hτ
            rw [gs_LL] at hτ
            rw [hτ]
            refine next _ (fun B hB => ?_)
            rw [l1 q B]
            show (if B = gg_l G r then lN (mo (D (gg_l G r))) else f B) = _
            by_cases e : B = gg_l G r
            · rw [if_pos e, e]
            · rw [if_neg e]
              exact hf B hB
          · intro τ hτ
            rw [gs_LL] at hτ
            rw [hτ]
            refine next _ (fun B hB => ?_)
            rw [(l2 q).2 B]
            show (if B = gg_l G r then lN (mo (gg_sum D (gg_y G r))) else f B) = lN (mo (if B = gg_l G r then gg_sum D (gg_y G r) else D B))
            by_cases e : B = gg_l G r
            · rw [if_pos e, if_pos e]
            · rw [if_neg e, if_neg e]
              exact hf B hB
      exact inner G.length 0 D f (by omega) hf hsb hsn hcp (fun q hq => absurd hq (Nat.not_lt_zero _))
  have fill : ∀ (n i : Nat) (f : Nat → Int64), i + n = 8 → (∀ j, j < i → f j = lN 1152921504606846976) → X2 (nI i) (gs_L σ 0 f) := by
    intro n
    induction n with
    | zero =>
      intro i f hi hf
      have hi : i = 8 := hi
      subst hi
      apply h2
      exact br_t (by decide) (ph 8 0 (fun _ => none) f rfl (fun A hA => hf A hA) (fun A _ n hn => by cases hn) (fun A m hm => by cases hm) (fun A m hm => hm.elim))
    | succ n ih =>
      intro i f hi hf
      apply h2
      refine pk_le 8 i (fun q => absurd q (by omega)) (fun _ => ⟨vp_in_nI (by omega) (by decide), ?_⟩)
      rw [nI_clamp (by omega)]
      intro τ hτ
      have e : τ = gs_L σ 0 (vp_updL f i (lN 1152921504606846976)) := by
        rw [hτ, gs_LL]
        rfl
      rw [e]
      refine nm_r (nI_1 i) (ih (i + 1) _ (by omega) (fun j hj => ?_))
      show (if j = i then lN 1152921504606846976 else f j) = _
      by_cases z : j = i
      · rw [if_pos z]
      · rw [if_neg z]
        exact hf j (by omega)
  have := fill 8 0 (σ.2.2 0) rfl (fun j hj => absurd hj (Nat.not_lt_zero _))
  rw [gs_Lid] at this
  exact this
variable {t : List Nat} {l : List Int32} {d v : List Nat}
theorem n_shortest {x : Int32} {K : Int32 → gs_St → Prop} (h : ml_at t G l d v σ) (k0 : (∀ j, j < 8 → x ≠ nI j) → K (-1) σ) (k1 : ∀ j, j < 8 → x = nI j → ∀ r τ, ml_at t G l d v τ → an_short G j r → K r τ) : C_Mo_shortest x σ K := by
  refine n_isNt (fun j hj e => ?_) (fun hno => br_f (fun z => z rfl) (k0 hno))
  subst e
  refine br_t (by decide) (n_shorten h.2.1 (fun D f hf hL hbd => ⟨vp_in_nI hj (by decide), ?_⟩))
  have hml : ml_at t G l d v (gs_L σ 0 f) := ⟨h.1.of rfl rfl, h.2.1.of rfl rfl rfl rfl, h.2.2.1.of rfl rfl, h.2.2.2.1.of rfl rfl rfl rfl, h.2.2.2.2.elim Or.inl (fun z => Or.inr ⟨z.1, z.2.of rfl rfl⟩)⟩
  have e : (gs_L σ 0 f).2.2 0 j = lN (mo (D j)) := hf j hj
  rw [nI_clamp (by omega), e, gl_far]
  have fin : ∀ r, r = gg_o (D j) → K r (gs_L σ 0 f) := fun r hr => k1 j hj rfl r _ hml ⟨D, hL, hbd, hr⟩
  cases hd : D j with
  | none => exact br_t (by decide) (fin _ (by rw [hd]; rfl))
  | some n =>
    have hn := hbd j hj n hd
    refine ek_if (pk_lLE (by decide) (show n < 2 ^ 63 by omega)) (fun q => absurd (show 1152921504606846976 ≤ n from q) (by omega)) (fun _ => ⟨vp_in_nI hj (by decide), fin _ ?_⟩)
    rw [hd]
    exact lN_i n
end M2C
end
section
/-! Layer 2 of the reference, part d: shortestWith. -/
def gm_B (G : gg_R) (D : Nat → Option Nat) (q : Nat) : gg_R := (match gg_sum D (gg_y G q) with | some a => [(gg_l G q, List.replicate a 8)] | none => []) ++ (List.range G.length).flatMap (fun r => (List.range (gg_y G r).length).filterMap (fun i => if (gg_y G r).getD i 0 < 8 then (gg_but D (nI i) 0 (gg_y G r)).map (fun w => (gg_l G r, (gg_y G r).getD i 0 :: List.replicate w 8)) else none))
/-- A's rule has x, with w beside it -/
def gm_e (G : gg_R) (D : Nat → Option Nat) (A x w : Nat) : Prop := ∃ r i, r < G.length ∧ i < (gg_y G r).length ∧ gg_l G r = A ∧ (gg_y G r).getD i 0 = x ∧ x < 8 ∧ gg_but D (nI i) 0 (gg_y G r) = some w
theorem gm_B_mem {G : gg_R} {D : Nat → Option Nat} {q : Nat} {z : Nat × List Nat} : z ∈ gm_B G D q ↔ (∃ a, gg_sum D (gg_y G q) = some a ∧ z = (gg_l G q, List.replicate a 8)) ∨ ∃ A x w, gm_e G D A x w ∧ z = (A, x :: List.replicate w 8) := by
  unfold gm_B
  rw [List.mem_append, List.mem_flatMap]
  refine or_congr ?_ ?_
  · cases gg_sum D (gg_y G q) with
    | none => exact ⟨fun h => absurd h List.not_mem_nil, fun ⟨a, h, _⟩ => by cases h⟩
    | some a => exact ⟨fun h => ⟨a, rfl, List.mem_singleton.mp h⟩, fun ⟨b, h1, h2⟩ => by injection h1 with h1; rw [h1, h2]; exact List.mem_singleton.mpr rfl⟩
  · constructor
    · rintro ⟨r, hr, h⟩
      rw [List.mem_filterMap] at h
      obtain ⟨i, hi, h⟩ := h
      split at h
      · rename_i hs
        cases hb : gg_but D (nI i) 0 (gg_y G r) with
        | none => rw [hb] at h; cases h
        | some w =>
          rw [hb] at h
          injection h with h
          exact ⟨_, _, w, ⟨r, i, List.mem_range.mp hr, List.mem_range.mp hi, rfl, rfl, hs, hb⟩, h.symm⟩
      · cases h
    · rintro ⟨A, x, w, ⟨r, i, hr, hi, e1, e2, hs, hb⟩, rfl⟩
      refine ⟨r, List.mem_range.mpr hr, List.mem_filterMap.mpr ⟨i, List.mem_range.mpr hi, ?_⟩⟩
      rw [e2, if_pos hs, hb, e1]
      rfl
/-- a way of k steps from A down to x, with w beside it -/
def gm_p (G : gg_R) (D : Nat → Option Nat) : Nat → Nat → Nat → Nat → Prop
  | 0, A, x, w => A = x ∧ w = 0
  | k + 1, A, x, w => ∃ B u v, gm_e G D A B u ∧ gm_p G D k B x v ∧ w = u + v
theorem gm_p_snoc {G : gg_R} {D : Nat → Option Nat} : ∀ (k A x y u v : Nat), gm_p G D k A x u → gm_e G D x y v → gm_p G D (k + 1) A y (u + v)
  | 0, A, x, y, u, v, h, he => by
    obtain ⟨h1, h2⟩ := h
    subst h1
    exact ⟨y, v, 0, he, ⟨rfl, rfl⟩, by omega⟩
  | k + 1, A, x, y, u, v, h, he => by
    obtain ⟨B, a, b, h1, h2, h3⟩ := h
    exact ⟨B, a, b + v, h1, gm_p_snoc k B x y b v h2 he, by omega⟩
theorem gm_p_last {G : gg_R} {D : Nat → Option Nat} : ∀ (k A x w : Nat), gm_p G D (k + 1) A x w → ∃ B u v, gm_p G D k A B u ∧ gm_e G D B x v ∧ w = u + v
  | 0, A, x, w, h => by
    obtain ⟨B, u, v, h1, ⟨h2, h3⟩, h4⟩ := h
    subst h2
    exact ⟨A, 0, u, ⟨rfl, rfl⟩, h1, by omega⟩
  | k + 1, A, x, w, h => by
    obtain ⟨B, u, v, h1, h2, h3⟩ := h
    obtain ⟨C, a, b, g1, g2, g3⟩ := gm_p_last k B x v h2
    exact ⟨C, u + a, b, ⟨B, u, a, h1, g1, rfl⟩, g2, by omega⟩
theorem gm_e_lt {G : gg_R} {D : Nat → Option Nat} {A x w : Nat} (hG : gg_ok G) (h : gm_e G D A x w) : A < 8 ∧ x < 8 := by
  obtain ⟨r, i, hr, hi, e1, e2, hx, hb⟩ := h
  exact ⟨e1 ▸ (hG.2 r hr).1, hx⟩
theorem gm_A_p {G : gg_R} {D : Nat → Option Nat} (hG : gg_ok G) : ∀ (k x m : Nat), gm_D (gm_A G D) k x m → ∃ j, gm_p G D j 0 x m
  | 0, x, m, h => h.elim
  | k + 1, x, m, h => by
    obtain ⟨z, h1, h2, h3⟩ := h
    rcases gm_A_mem.mp h1 with e | ⟨r, i, w, hr, hi, hx, hw, e⟩
    · subst e
      exact ⟨0, h2, h3⟩
    · subst e
      obtain ⟨a, g1, g2⟩ := (gm_S_arw (hG.2 r hr).1).mp h3
      obtain ⟨j, hj⟩ := gm_A_p hG k _ a g1
      have h2 : (gg_y G r).getD i 0 = x := h2
      rw [g2]
      exact ⟨j + 1, gm_p_snoc j 0 _ x a w hj ⟨r, i, hr, hi, rfl, h2, h2 ▸ hx, hw⟩⟩
theorem gm_p_A {G : gg_R} {D : Nat → Option Nat} (hG : gg_ok G) : ∀ (j x m : Nat), gm_p G D j 0 x m → gm_D (gm_A G D) (j + 1) x m
  | 0, x, m, h => by
    obtain ⟨h1, h2⟩ := h
    exact ⟨(0, []), gm_A_mem.mpr (Or.inl rfl), h1, h2⟩
  | j + 1, x, m, h => by
    obtain ⟨B, u, v, h1, ⟨r, i, hr, hi, e1, e2, hx, hw⟩, h3⟩ := gm_p_last j 0 x m h
    have hd := gm_p_A hG j B u h1
    rw [← e1] at hd
    exact ⟨_, gm_A_mem.mpr (Or.inr ⟨r, i, v, hr, hi, e2 ▸ hx, hw, rfl⟩), e2, (gm_S_arw (hG.2 r hr).1).mpr ⟨u, hd, h3⟩⟩
theorem gm_B_p {G : gg_R} {D : Nat → Option Nat} {q s : Nat} (hG : gg_ok G) (hs : gg_sum D (gg_y G q) = some s) : ∀ (k A m : Nat), gm_D (gm_B G D q) k A m → ∃ j p, gm_p G D j A (gg_l G q) p ∧ m = s + p
  | 0, A, m, h => h.elim
  | k + 1, A, m, h => by
    obtain ⟨z, h1, h2, h3⟩ := h
    rcases gm_B_mem.mp h1 with ⟨a, ha, e⟩ | ⟨B, x, w, he, e⟩
    · subst e
      rw [hs] at ha
      injection ha with ha
      have := (gm_S_rep a m).mp h3
      exact ⟨0, 0, ⟨h2.symm, rfl⟩, by omega⟩
    · subst e
      obtain ⟨a, g1, g2⟩ := (gm_S_arw (gm_e_lt hG he).2).mp h3
      obtain ⟨j, p, hj, hp⟩ := gm_B_p hG hs k x a g1
      have h2 : B = A := h2
      subst h2
      exact ⟨j + 1, w + p, ⟨x, w, p, he, hj, rfl⟩, by omega⟩
theorem gm_p_B {G : gg_R} {D : Nat → Option Nat} {q s : Nat} (hG : gg_ok G) (hs : gg_sum D (gg_y G q) = some s) : ∀ (j A p : Nat), gm_p G D j A (gg_l G q) p → gm_D (gm_B G D q) (j + 1) A (s + p)
  | 0, A, p, h => by
    obtain ⟨h1, h2⟩ := h
    refine ⟨_, gm_B_mem.mpr (Or.inl ⟨s, hs, rfl⟩), h1.symm, ?_⟩
    rw [h2]
    exact (gm_S_rep s _).mpr rfl
  | j + 1, A, p, h => by
    obtain ⟨B, u, v, h1, h2, h3⟩ := h
    exact ⟨_, gm_B_mem.mpr (Or.inr ⟨A, B, u, h1, rfl⟩), rfl, (gm_S_arw (gm_e_lt hG h1).2).mpr ⟨s + v, gm_p_B hG hs j B v h2, by omega⟩⟩
theorem gm_B_no {G : gg_R} {D : Nat → Option Nat} {q : Nat} (hG : gg_ok G) (hs : gg_sum D (gg_y G q) = none) : ∀ (k A m : Nat), ¬ gm_D (gm_B G D q) k A m
  | 0, A, m => fun h => h.elim
  | k + 1, A, m => fun h => by
    obtain ⟨z, h1, h2, h3⟩ := h
    rcases gm_B_mem.mp h1 with ⟨a, ha, e⟩ | ⟨B, x, w, he, e⟩
    · rw [hs] at ha
      cases ha
    · subst e
      obtain ⟨a, g1, g2⟩ := (gm_S_arw (gm_e_lt hG he).2).mp h3
      exact gm_B_no hG hs k x a g1
theorem gm_AB {G : gg_R} {D O W : Nat → Option Nat} {q : Nat} (hG : gg_ok G) (hq : q < G.length) (hO : gm_L (gm_A G D) O) (hW : gm_L (gm_B G D q) W) : W 0 = gg_add (gg_sum D (gg_y G q)) (O (gg_l G q)) := by
  have hl8 := (hG.2 q hq).1
  cases hs : gg_sum D (gg_y G q) with
  | none =>
    cases hw : W 0 with
    | none => rfl
    | some m =>
      obtain ⟨⟨k, hk⟩, -⟩ := (hW 0 (by decide) m).mp hw
      exact absurd hk (gm_B_no hG hs k 0 m)
  | some s =>
    cases ho : O (gg_l G q) with
    | none =>
      cases hw : W 0 with
      | none => rfl
      | some m =>
        obtain ⟨⟨k, hk⟩, -⟩ := (hW 0 (by decide) m).mp hw
        obtain ⟨j, p, hj, -⟩ := gm_B_p hG hs k 0 m hk
        obtain ⟨m', hm', -⟩ := gm_V_ex (gm_p_A hG j _ p hj)
        have := (hO _ hl8 m').mpr hm'
        rw [ho] at this
        cases this
    | some o =>
      obtain ⟨⟨k, hk⟩, hmin⟩ := (hO _ hl8 o).mp ho
      obtain ⟨j, hj⟩ := gm_A_p hG k _ o hk
      show W 0 = some (s + o)
      refine (hW 0 (by decide) _).mpr ⟨⟨j + 1, gm_p_B hG hs j 0 o hj⟩, fun k2 n hn => ?_⟩
      obtain ⟨j2, p, hj2, hp⟩ := gm_B_p hG hs k2 0 n hn
      have := hmin _ p (gm_p_A hG j2 _ p hj2)
      omega
/-- W knows what the places before (r, i) give, out of height k -/
def gm_bn (G : gg_R) (D : Nat → Option Nat) (q k r i : Nat) (W : Nat → Option Nat) : Prop := ∀ r' i', (r' < r ∨ (r' = r ∧ i' < i)) → r' < G.length → i' < (gg_y G r').length → (gg_y G r').getD i' 0 < 8 → ∀ a w, gm_D (gm_B G D q) k ((gg_y G r').getD i' 0) a → gg_but D (nI i') 0 (gg_y G r') = some w → ∃ n, n ≤ a + w ∧ W (gg_l G r') = some n
theorem gm_bn.mono {G : gg_R} {D W W' : Nat → Option Nat} {q k r i : Nat} (hl : gg_le W' W) (h : gm_bn G D q k r i W) : gm_bn G D q k r i W' := fun r' i' a1 a2 a3 a4 a w a5 a6 => by
  obtain ⟨n, h1, h2⟩ := h r' i' a1 a2 a3 a4 a w a5 a6
  obtain ⟨n', h3, h4⟩ := hl _ n h2
  exact ⟨n', by omega, h4⟩
theorem gm_bn.next {G : gg_R} {D W : Nat → Option Nat} {q k : Nat} (hG : gg_ok G) (hc : gm_cpl (gm_B G D q) (k + 1) W) (h : gm_bn G D q (k + 1) G.length 0 W) : gm_cpl (gm_B G D q) (k + 1 + 1) W := fun A m hd => by
  obtain ⟨z, h1, h2, h3⟩ := hd
  rcases gm_B_mem.mp h1 with ⟨a, ha, e⟩ | ⟨B, x, w, he, e⟩
  · refine hc A m ⟨z, h1, h2, ?_⟩
    subst e
    exact (gm_S_rep a m).mpr ((gm_S_rep a m).mp h3)
  · subst e
    obtain ⟨a, g1, g2⟩ := (gm_S_arw (gm_e_lt hG he).2).mp h3
    obtain ⟨r, i, hr, hi, e1, e2, hx, hw⟩ := he
    have h2 : B = A := h2
    rw [← e2] at g1
    obtain ⟨n, n1, n2⟩ := h r i (Or.inl hr) hr hi (e2 ▸ hx) a w g1 hw
    rw [e1, h2] at n2
    exact ⟨n, by omega, n2⟩
def an_withB (G : gg_R) (q : Nat) (r : Int32) : Prop := ∃ D W, gm_L G D ∧ gm_L (gm_B G D q) W ∧ r = gg_o (W 0)
theorem gg_sum_congr {D D' : Nat → Option Nat} (h : ∀ A, A < 8 → D A = D' A) : ∀ zs : List Nat, gg_sum D zs = gg_sum D' zs
  | [] => rfl
  | s :: zs => by
    show gg_add (gg_len D s) (gg_sum D zs) = gg_add (gg_len D' s) (gg_sum D' zs)
    have hl : gg_len D s = gg_len D' s := by
      unfold gg_len
      split
      · exact h s (by assumption)
      · rfl
    rw [gg_sum_congr h zs, hl]
theorem gm_A_congr {G : gg_R} {D D' : Nat → Option Nat} (h : ∀ A, A < 8 → D A = D' A) : gm_A G D = gm_A G D' := by
  unfold gm_A
  have e : gg_but D = gg_but D' := funext fun x => funext fun i => funext fun zs => gg_but_congr h zs i
  rw [e]
theorem an_with_eq {G : gg_R} {q : Nat} {r r' : Int32} (hG : gg_ok G) (hq : q < G.length) (h : an_with G q r) (h' : an_withB G q r') : r = r' := by
  obtain ⟨D, O, h1, h2, h3⟩ := h
  obtain ⟨D', W, g1, g2, g3⟩ := h'
  have hD := gm_L_eq h1 g1
  rw [gm_A_congr hD] at h2
  rw [h3, g3, gm_AB hG hq h2 g2, gg_sum_congr hD]
theorem an_short_eq {G : gg_R} {A : Nat} {r r' : Int32} (hA : A < 8) (h : an_short G A r) (h' : an_short G A r') : r = r' := by
  obtain ⟨D, h1, -, h3⟩ := h
  obtain ⟨D', g1, -, g3⟩ := h'
  rw [h3, g3, gm_L_eq h1 g1 A hA]
section M2D
variable {G : gg_R} {σ : gs_St} {t : List Nat} {l : List Int32} {d v : List Nat}
theorem n_shortestWith {x : Int32} {K : Int32 → gs_St → Prop} (h : ml_at t G l d v σ) (k0 : (∀ q, q < G.length → x ≠ nI q) → K (-1) σ) (k1 : ∀ q, q < G.length → x = nI q → ∀ r τ, ml_at t G l d v τ → an_withB G q r → K r τ) : C_Mo_shortestWith x σ K := by
  intro X16 X56 X64 X75 h16 h56 h64 h75
  refine n_isRule h.2.1 (fun q hq e => ?_) (fun hno => br_f (fun z => z rfl) (k0 hno))
  subst e
  refine br_t (by decide) (n_shorten h.2.1 (fun D f hf hL hbd => ?_))
  have hG := h.2.1.1.1
  obtain ⟨hl8q, hzq, h24q⟩ := h.2.1.1.2 q hq
  have gr : ∀ g, mr_at G (gs_L (gs_L σ 0 f) 1 g) := fun g => h.2.1.of rfl rfl rfl rfl
  have gD : ∀ g, me_at D (gs_L (gs_L σ 0 f) 1 g) := fun g => hf
  have hml : ∀ g, ml_at t G l d v (gs_L (gs_L σ 0 f) 1 g) := fun g => ⟨h.1.of rfl rfl, h.2.1.of rfl rfl rfl rfl, h.2.2.1.of rfl rfl, h.2.2.2.1.of rfl rfl rfl rfl, h.2.2.2.2.elim Or.inl (fun z => Or.inr ⟨z.1, z.2.of rfl rfl⟩)⟩
  have rounds : ∀ (n k : Nat) (W : Nat → Option Nat) (g : Nat → Int64), k + n = 8 → (∀ A, A < 8 → g A = lN (mo (W A))) → gg_sb gg_b2 W → gm_snd (gm_B G D q) W → gm_cpl (gm_B G D q) (k + 1) W → X56 (nI k) (gs_L (gs_L σ 0 f) 1 g) := by
    intro n
    induction n with
    | zero =>
      intro k W g hk hg hsb hsn hcp
      have hk : k = 8 := hk
      subst hk
      apply h56
      have v0 : vp_in (0 : Int32) 8 := vp_in_nI (n := 0) (by decide) (by decide)
      refine br_t (by decide) ⟨v0, ?_⟩
      have e0 : (gs_L (gs_L σ 0 f) 1 g).2.2 1 ((0 : Int32).toNatClampNeg) = lN (mo (W 0)) := hg 0 (by decide)
      rw [e0, gl_far]
      have hLW : gm_L (gm_B G D q) W := gm_L_of hsn (fun A m hd => hcp A m (gm_D_le hd (by omega)))
      have fin : ∀ r, r = gg_o (W 0) → K r (gs_L (gs_L σ 0 f) 1 g) := fun r hr => k1 q hq rfl r _ (hml g) ⟨D, W, hL, hLW, hr⟩
      have hbW := gg_sb_bd gg_b2_up hsb
      cases hd : W 0 with
      | none => exact br_t (by decide) (fin _ (by rw [hd]; rfl))
      | some m =>
        have hm := hbW 0 (by decide) m hd
        unfold gg_b2 at hm
        refine ek_if (pk_lLE (by decide) (show m < 2 ^ 63 by omega)) (fun z => absurd (show 1152921504606846976 ≤ m from z) (by omega)) (fun _ => ⟨v0, fin _ ?_⟩)
        rw [hd]
        exact lN_i m
    | succ n ih =>
      intro k W g hk hg hsb hsn hcp
      apply h56
      refine pk_le 8 k (fun z => absurd z (by omega)) (fun _ => ?_)
      have rules : ∀ (m r : Nat) (W : Nat → Option Nat) (g : Nat → Int64), r + m = G.length → (∀ A, A < 8 → g A = lN (mo (W A))) → gg_sb gg_b2 W → gm_snd (gm_B G D q) W → gm_cpl (gm_B G D q) (k + 1) W → gm_bn G D q (k + 1) r 0 W → X64 (nI k) (nI r) (gs_L (gs_L σ 0 f) 1 g) := by
        intro m
        induction m with
        | zero =>
          intro r W g hr hg hsb hsn hcp hbn
          have hr : r = G.length := hr
          subst hr
          apply h64
          exact pk_le G.length G.length (fun _ => nm_r (nI_1 k) (ih (k + 1) W g (by omega) hg hsb hsn (hbn.next h.2.1.1 hcp))) (fun z => absurd z (by omega)) h.2.1.2.1
        | succ m ihm =>
          intro r W g hr hg hsb hsn hcp hbn
          have hr' : r < G.length := by omega
          obtain ⟨hl8, hz, h24⟩ := h.2.1.1.2 r hr'
          apply h64
          refine pk_le G.length r (fun z => absurd z (by omega)) (fun _ => ?_) h.2.1.2.1
          have hvr : vp_in (nI r) 24 := vp_in_nI (by omega) (by decide)
          have hv8 : vp_in (nI (gg_l G r)) 8 := vp_in_nI hl8 (by decide)
          have places : ∀ (m2 i : Nat) (W : Nat → Option Nat) (g : Nat → Int64), i + m2 = (gg_y G r).length → (∀ A, A < 8 → g A = lN (mo (W A))) → gg_sb gg_b2 W → gm_snd (gm_B G D q) W → gm_cpl (gm_B G D q) (k + 1) W → gm_bn G D q (k + 1) r i W → X75 (nI k) (nI r) (nI i) (gs_L (gs_L σ 0 f) 1 g) := by
            intro m2
            induction m2 with
            | zero =>
              intro i W g hi hg hsb hsn hcp hbn
              have hi : i = (gg_y G r).length := hi
              apply h75
              refine ⟨hvr, ?_⟩
              have e1 : (gs_L (gs_L σ 0 f) 1 g).2.1 1 r = nI (gg_y G r).length := (h.2.1.2.2 r hr').2.1
              rw [nI_clamp (by omega), e1]
              refine pk_le (gg_y G r).length i (fun _ => nm_r (nI_1 r) (ihm (r + 1) W g (by omega) hg hsb hsn hcp (fun r' i' a1 a2 a3 a4 a w a5 a6 => ?_))) (fun z => absurd z (by omega))
              rcases a1 with z | ⟨z1, z2⟩
              · by_cases er : r' = r
                · refine hbn r' i' (Or.inr ⟨er, ?_⟩) a2 a3 a4 a w a5 a6
                  rw [er] at a3
                  omega
                · exact hbn r' i' (Or.inl (by omega)) a2 a3 a4 a w a5 a6
              · exact absurd z2 (Nat.not_lt_zero _)
            | succ m2 ihp =>
              intro i W g hi hg hsb hsn hcp hbn
              have hi' : i < (gg_y G r).length := by omega
              have h24i := h24 i hi'
              apply h75
              refine ⟨hvr, ?_⟩
              have e1 : (gs_L (gs_L σ 0 f) 1 g).2.1 1 r = nI (gg_y G r).length := (h.2.1.2.2 r hr').2.1
              have e0 : (gs_L (gs_L σ 0 f) 1 g).2.1 0 r = nI (gg_l G r) := (h.2.1.2.2 r hr').1
              rw [nI_clamp (by omega), e1]
              refine pk_le (gg_y G r).length i (fun z => absurd z (by omega)) (fun _ => ?_)
              refine n_at (gr g) hr' hi' ?_
              refine n_isNtN (by omega) (fun hx => br_f (by decide) ?_) (fun hx => br_t rfl (nm_r (nI_1 i) (ihp (i + 1) W g (by omega) hg hsb hsn hcp (fun r' i' a1 a2 a3 a4 a w a5 a6 => ?_))))
              · refine n_leastBut (D := D) (gr g) hr' (gD g) hbd ?_
                refine n_at (gr g) hr' hi' ⟨vp_in_nI hx (by decide), ?_⟩
                have ew : (gs_L (gs_L σ 0 f) 1 g).2.2 1 ((gg_y G r).getD i 0) = lN (mo (W ((gg_y G r).getD i 0))) := hg _ hx
                have el : (gs_L (gs_L σ 0 f) 1 g).2.2 1 (gg_l G r) = lN (mo (W (gg_l G r))) := hg _ hl8
                rw [nI_clamp (by omega), ew]
                refine nm_r (lN_add _ _) ?_
                rw [e0, nI_clamp (by omega), el]
                have hbW := gg_sb_bd gg_b2_up hsb
                have hc8 := gg_cnt_le W 8
                have hWb : ∀ B, B < 8 → ∀ n, W B = some n → n ≤ 80621568 := fun B hB n hn => hbW B hB n hn
                have hbu : ∀ w, gg_but D (nI i) 0 (gg_y G r) = some w → w ≤ 10077696 := fun w hw => Nat.le_trans (gg_but_le hbd (by decide) _ _ _ hw) (Nat.le_trans (Nat.mul_le_mul_right _ hz) (by decide))
                have m1 : mo (W (gg_l G r)) ≤ 1152921504606846976 := mo_le (fun n hn => by have := hWb _ hl8 n hn; omega)
                have m2' : mo (W ((gg_y G r).getD i 0)) ≤ 1152921504606846976 := mo_le (fun n hn => by have := hWb _ hx n hn; omega)
                have m3 : mo (gg_but D (nI i) 0 (gg_y G r)) ≤ 1152921504606846976 := mo_le (fun n hn => by have := hbu n hn; omega)
                -- W after this place
                have next : ∀ (W' : Nat → Option Nat) (g2 : Nat → Int64), (∀ B, B < 8 → g2 B = lN (mo (W' B))) → gg_sb gg_b2 W' → gg_le W' W → gm_snd (gm_B G D q) W' → (∀ a w, gm_D (gm_B G D q) (k + 1) ((gg_y G r).getD i 0) a → gg_but D (nI i) 0 (gg_y G r) = some w → ∃ n, n ≤ a + w ∧ W' (gg_l G r) = some n) → ∀ v7 : Int32, v7 = nI i + 1 → X75 (nI k) (nI r) v7 (gs_L (gs_L σ 0 f) 1 g2) := by
                  intro W' g2 hg2 hsb2 hle2 hsn2 hnew
                  refine nm_r (nI_1 i) (ihp (i + 1) W' g2 (by omega) hg2 hsb2 hsn2 (hcp.mono hle2) (fun r' i' a1 a2 a3 a4 a w a5 a6 => ?_))
                  by_cases er : r' = r ∧ i' = i
                  · obtain ⟨er1, er2⟩ := er
                    subst er1
                    subst er2
                    exact hnew a w a5 a6
                  · exact (hbn.mono hle2) r' i' (by omega) a2 a3 a4 a w a5 a6
                have keep : ∀ τ : gs_St, τ = gs_L (gs_L (gs_L σ 0 f) 1 g) 1 (vp_updL ((gs_L (gs_L σ 0 f) 1 g).2.2 1) (gg_l G r) (lN (mo (W (gg_l G r))))) → (∀ a w, gm_D (gm_B G D q) (k + 1) ((gg_y G r).getD i 0) a → gg_but D (nI i) 0 (gg_y G r) = some w → ∃ n, n ≤ a + w ∧ W (gg_l G r) = some n) → ∀ v7 : Int32, v7 = nI i + 1 → X75 (nI k) (nI r) v7 τ := by
                  intro τ hτ hnew
                  rw [gs_LL] at hτ
                  rw [hτ]
                  refine next W _ (fun B hB => ?_) hsb gg_le.rfl' hsn hnew
                  show (if B = gg_l G r then lN (mo (W (gg_l G r))) else g B) = _
                  by_cases z : B = gg_l G r
                  · rw [if_pos z, z]
                  · rw [if_neg z]
                    exact hg B hB
                cases hw : gg_but D (nI i) 0 (gg_y G r) with
                | none =>
                  refine ⟨hvr, hvr, hv8, ek_if (pk_lLE (by omega) (by rw [hw] at m3; omega)) (fun z => ⟨hvr, hv8, hv8, fun τ hτ => keep τ hτ (fun a w _ e => by rw [hw] at e; cases e)⟩) (fun z => absurd ?_ z)⟩
                  show mo (W (gg_l G r)) ≤ 1152921504606846976 + _
                  omega
                | some w =>
                  have hw6 := hbu w hw
                  cases hWx : W ((gg_y G r).getD i 0) with
                  | none =>
                    refine ⟨hvr, hvr, hv8, ek_if (pk_lLE (by omega) (by show w + 1152921504606846976 < _; omega)) (fun z => ⟨hvr, hv8, hv8, fun τ hτ => keep τ hτ (fun a w' ha e => ?_)⟩) (fun z => absurd ?_ z)⟩
                    · obtain ⟨n', -, e2⟩ := hcp _ a ha
                      rw [hWx] at e2
                      cases e2
                    · show mo (W (gg_l G r)) ≤ w + 1152921504606846976
                      omega
                  | some u =>
                    have hu := hsb _ hx u hWx
                    have hnew : w + u ≤ gg_b2 (gg_cnt W 8 + 1) := by
                      unfold gg_b2 at hu ⊢
                      omega
                    have hnb : w + u < 1152921504606846976 := by
                      unfold gg_b2 at hu
                      omega
                    obtain ⟨l1, l2⟩ := mo_low (W := W) (A := gg_l G r) (o := some (w + u)) (fun n hn => by have := hWb _ hl8 n hn; omega) (fun n hn => by injection hn with hn; omega)
                    have hsd : gm_snd (gm_B G D q) (gg_low W (gg_l G r) (some (w + u))) := gg_low_snd hsn (fun n hn => by
                      injection hn with hn
                      obtain ⟨k2, hk2⟩ := hsn _ u hWx
                      exact ⟨k2 + 1, _, gm_B_mem.mpr (Or.inr ⟨_, _, w, ⟨r, i, hr', hi', rfl, rfl, hx, hw⟩, rfl⟩), rfl, (gm_S_arw hx).mpr ⟨u, hk2, by omega⟩⟩)
                    have hhit : ∀ a w', gm_D (gm_B G D q) (k + 1) ((gg_y G r).getD i 0) a → gg_but D (nI i) 0 (gg_y G r) = some w' → ∃ n, n ≤ a + w' ∧ gg_low W (gg_l G r) (some (w + u)) (gg_l G r) = some n := fun a w' ha e => by
                      rw [hw] at e
                      injection e with e
                      obtain ⟨n', n1, n2⟩ := hcp _ a ha
                      rw [hWx] at n2
                      injection n2 with n2
                      obtain ⟨n3, n4, n5⟩ := gg_low_hit (D := W) (A := gg_l G r) (n := w + u)
                      exact ⟨n3, by omega, n5⟩
                    refine ⟨hvr, hvr, hv8, ek_if (pk_lLE (by omega) (by show w + u < _; omega)) (fun z => ⟨hvr, hv8, hv8, fun τ hτ => ?_⟩) (fun z => ⟨hv8, fun τ hτ => ?_⟩)⟩
                    · refine keep τ hτ (fun a w' ha e => ?_)
                      obtain ⟨n3, n4, n5⟩ := hhit a w' ha e
                      rw [l1 z] at n5
                      exact ⟨n3, n4, n5⟩
                    · rw [gs_LL] at hτ
                      rw [hτ]
                      refine next (gg_low W (gg_l G r) (some (w + u))) _ (fun B hB => ?_) (gg_sb_low gg_b2_up hl8 hsb (fun n hn => by injection hn with hn; omega)) gg_low_le hsd hhit
                      rw [(l2 z).2 B]
                      show (if B = gg_l G r then lN (w + u) else g B) = lN (mo (if B = gg_l G r then some (w + u) else W B))
                      by_cases y : B = gg_l G r
                      · rw [if_pos y, if_pos y]
                        rfl
                      · rw [if_neg y, if_neg y]
                        exact hg B hB
              · by_cases er : r' = r ∧ i' = i
                · obtain ⟨er1, er2⟩ := er
                  subst er1
                  subst er2
                  omega
                · exact hbn r' i' (by omega) a2 a3 a4 a w a5 a6
          exact places (gg_y G r).length 0 W g (by omega) hg hsb hsn hcp hbn
      exact rules G.length 0 W g (by omega) hg hsb hsn hcp (fun r' i' a1 => by omega)
  have fill : ∀ (n i : Nat) (g : Nat → Int64), i + n = 8 → (∀ j, j < i → g j = lN 1152921504606846976) → X16 (nI q) (nI i) (gs_L (gs_L σ 0 f) 1 g) := by
    intro n
    induction n with
    | zero =>
      intro i g hi hg
      have hi : i = 8 := hi
      subst hi
      apply h16
      refine br_t (by decide) ⟨vp_in_nI (by omega) (by decide), ?_⟩
      have e0 : (gs_L (gs_L σ 0 f) 1 g).2.1 0 q = nI (gg_l G q) := (h.2.1.2.2 q hq).1
      rw [nI_clamp (by omega), e0]
      refine n_leastBut (D := D) (gr g) hq (gD g) hbd ⟨vp_in_nI hl8q (by decide), ?_⟩
      rw [nI_clamp (by omega), gg_but_no _ 0 (by omega)]
      intro τ hτ
      rw [gs_LL] at hτ
      rw [hτ]
      have hsb : ∀ s, gg_sum D (gg_y G q) = some s → s ≤ 10077696 := fun s hs => by
        rw [← gg_but_no _ 0 (by omega)] at hs
        exact Nat.le_trans (gg_but_le hbd (by decide) _ _ _ hs) (Nat.le_trans (Nat.mul_le_mul_right _ hzq) (by decide))
      refine rounds 8 0 (gg_up (fun _ => none) (gg_l G q) (gg_sum D (gg_y G q))) _ rfl (fun A hA => ?_) (fun A hA n hn => ?_) (fun A m hm => ?_) (fun A m hm => ?_)
      · show (if A = gg_l G q then lN (mo (gg_sum D (gg_y G q))) else g A) = lN (mo (if A = gg_l G q then gg_sum D (gg_y G q) else none))
        by_cases z : A = gg_l G q
        · rw [if_pos z, if_pos z]
        · rw [if_neg z, if_neg z]
          exact hg A hA
      · by_cases z : A = gg_l G q
        · subst z
          rw [gg_up_s] at hn
          have hs := hsb n hn
          have hcnt : gg_cnt (gg_up (fun _ => none) (gg_l G q) (gg_sum D (gg_y G q))) 8 = gg_cnt (fun _ => none) 8 + 1 := by
            rw [hn]
            exact gg_cnt_new rfl 8 hl8q
          rw [hcnt]
          unfold gg_b2
          have : gg_cnt (fun _ => none) 8 = 0 := rfl
          rw [this]
          omega
        · rw [gg_up_n z] at hn
          cases hn
      · by_cases z : A = gg_l G q
        · subst z
          rw [gg_up_s] at hm
          exact ⟨1, _, gm_B_mem.mpr (Or.inl ⟨m, hm, rfl⟩), rfl, (gm_S_rep m m).mpr rfl⟩
        · rw [gg_up_n z] at hm
          cases hm
      · obtain ⟨z, z1, z2, z3⟩ := hm
        rcases gm_B_mem.mp z1 with ⟨a, ha, e⟩ | ⟨B, x, w, he, e⟩
        · subst e
          have z2 : gg_l G q = A := z2
          subst z2
          have := (gm_S_rep a m).mp z3
          exact ⟨a, by omega, by rw [gg_up_s]; exact ha⟩
        · subst e
          obtain ⟨a, a1, a2⟩ := (gm_S_arw (gm_e_lt h.2.1.1 he).2).mp z3
          exact a1.elim
    | succ n ih =>
      intro i g hi hg
      apply h16
      refine pk_le 8 i (fun z => absurd z (by omega)) (fun _ => ⟨vp_in_nI (by omega) (by decide), ?_⟩)
      rw [nI_clamp (by omega)]
      intro τ hτ
      have e : τ = gs_L (gs_L σ 0 f) 1 (vp_updL g i (lN 1152921504606846976)) := by
        rw [hτ, gs_LL]
        rfl
      rw [e]
      refine nm_r (nI_1 i) (ih (i + 1) _ (by omega) (fun j hj => ?_))
      show (if j = i then lN 1152921504606846976 else g j) = _
      by_cases z : j = i
      · rw [if_pos z]
      · rw [if_neg z]
        exact hg j (by omega)
  have := fill 8 0 ((gs_L σ 0 f).2.2 1) rfl (fun j hj => absurd hj (Nat.not_lt_zero _))
  rw [gs_Lid] at this
  exact this
end M2D
end
section
/-! Layer 2 of the reference, part e: circle. -/
def bI : Bool → Int32
  | true => 1
  | false => 0
theorem bI_0 (b : Bool) : bI b = 0 ↔ b = false := by cases b <;> decide
theorem bI_n0 (b : Bool) : ¬ bI b = 0 ↔ b = true := by cases b <;> decide
theorem bI_01 (b : Bool) : bI b = 0 ∨ bI b = 1 := by cases b <;> decide
theorem nar_0 : vp_nar .boolean (0 : Int32) = 0 := by decide +kernel
theorem nar_1 : vp_nar .boolean (1 : Int32) = 1 := by decide +kernel
theorem gm_L_ex (G : gg_R) : ∃ D, gm_L G D := by
  have ex : ∀ A, ∃ o : Option Nat, ∀ m, o = some m ↔ gm_V G A m := by
    intro A
    by_cases h : ∃ m, gm_V G A m
    · obtain ⟨m, hm⟩ := h
      refine ⟨some m, fun n => ⟨fun e => ?_, fun e => ?_⟩⟩
      · injection e with e
        exact e ▸ hm
      · rw [gm_V_uniq hm e]
    · exact ⟨none, fun n => ⟨(fun e => nomatch e), fun e => absurd ⟨n, e⟩ h⟩⟩
  exact ⟨fun A => Classical.choose (ex A), fun A _ m => Classical.choose_spec (ex A) m⟩
theorem gm_L_0 {G : gg_R} {D : Nat → Option Nat} (h : gm_L G D) {A : Nat} (hA : A < 8) : D A = some 0 ↔ ∃ k, gm_D G k A 0 := by
  rw [h A hA 0]
  exact ⟨fun z => z.1, fun z => ⟨z, fun _ _ _ => Nat.zero_le _⟩⟩
theorem gm_S_0 {P : Nat → Nat → Prop} : ∀ ys : List Nat, gm_S P ys 0 ↔ ∀ i, i < ys.length → ys.getD i 0 < 8 ∧ P (ys.getD i 0) 0
  | [] => ⟨fun _ i hi => absurd hi (Nat.not_lt_zero _), fun _ => rfl⟩
  | s :: ys => by
    show (∃ a b, 0 = a + b ∧ (s < 8 → P s a) ∧ (8 ≤ s → a = 1) ∧ gm_S P ys b) ↔ _
    constructor
    · rintro ⟨a, b, h1, h2, h3, h4⟩ i hi
      have ha : a = 0 := by omega
      have hb : b = 0 := by omega
      subst ha
      subst hb
      have hs : s < 8 := by
        rcases Nat.lt_or_ge s 8 with q | q
        · exact q
        · have := h3 q
          omega
      cases i with
      | zero => exact ⟨hs, h2 hs⟩
      | succ i => exact (gm_S_0 ys).mp h4 i (Nat.lt_of_succ_lt_succ hi)
    · intro h
      obtain ⟨h1, h2⟩ := h 0 (Nat.zero_lt_succ _)
      have h1 : s < 8 := h1
      exact ⟨0, 0, rfl, fun _ => h2, fun z => absurd z (by omega), (gm_S_0 ys).mpr (fun i hi => h (i + 1) (Nat.succ_lt_succ hi))⟩
theorem gg_to_congr {G : gg_R} {D D' : Nat → Option Nat} (h : ∀ A, A < 8 → D A = D' A) (A x : Nat) : gg_to G D A x ↔ gg_to G D' A x := by
  have e : ∀ (ys : List Nat) (z : Int32), gg_eb D ys z ↔ gg_eb D' ys z := fun ys z =>
    ⟨fun q j hj hne => ⟨(q j hj hne).1, by rw [← h _ (q j hj hne).1]; exact (q j hj hne).2⟩, fun q j hj hne => ⟨(q j hj hne).1, by rw [h _ (q j hj hne).1]; exact (q j hj hne).2⟩⟩
  constructor
  · rintro ⟨r, i, hr, h1, h2, h3, h4, h5⟩
    exact ⟨r, i, hr, h1, h2, h3, h4, (e _ _).mp h5⟩
  · rintro ⟨r, i, hr, h1, h2, h3, h4, h5⟩
    exact ⟨r, i, hr, h1, h2, h3, h4, (e _ _).mpr h5⟩
/-- leading in steps, by way of those below k -/
def wa_R (T : Nat → Nat → Prop) : Nat → Nat → Nat → Prop
  | 0, a, b => T a b
  | k + 1, a, b => wa_R T k a b ∨ (wa_R T k a k ∧ wa_R T k k b)
theorem wa_stk {T : Nat → Nat → Prop} {U : Nat → Prop} (hU : ∀ A, U A → A < 8 ∧ ∃ x, U x ∧ T A x) : ∀ k, (∃ n, n < 8 ∧ wa_R T k n n) ∨ ∀ A, U A → ∃ x, U x ∧ k ≤ x ∧ wa_R T k A x
  | 0 => Or.inr (fun A hA => by
    obtain ⟨x, h1, h2⟩ := (hU A hA).2
    exact ⟨x, h1, Nat.zero_le _, h2⟩)
  | k + 1 => by
    rcases wa_stk hU k with ⟨n, h1, h2⟩ | h
    · exact Or.inl ⟨n, h1, Or.inl h2⟩
    · by_cases c : wa_R T k k k ∧ k < 8
      · exact Or.inl ⟨k, c.2, Or.inl c.1⟩
      · refine Or.inr (fun A hA => ?_)
        obtain ⟨x, h1, h2, h3⟩ := h A hA
        by_cases e : x = k
        · subst e
          obtain ⟨y, g1, g2, g3⟩ := h x h1
          by_cases e2 : y = x
          · subst e2
            exact absurd ⟨g3, (hU y g1).1⟩ c
          · exact ⟨y, g1, by omega, Or.inr ⟨h3, g3⟩⟩
        · exact ⟨x, h1, by omega, Or.inl h3⟩
/-- b says whether there is a circle -/
def an_circM (G : gg_R) (b : Bool) : Prop := ∀ D o c, gm_L G D → gg_ord (gg_to G D) o c → (8 ≤ c ∨ gg_stk (gg_to G D) o c) → (b = true ↔ c < 8)
theorem gg_rank {T : Nat → Nat → Prop} {o : Nat → Nat} {c : Nat} (h : gg_ord T o c) (hc : 8 ≤ c) : ∃ rk : Nat → Nat, ∀ A x, A < 8 → x < 8 → T A x → rk x < rk A := by
  have all := gg_ord_all h hc
  have ex : ∀ A, ∃ j, A < 8 → j < c ∧ o j = A := fun A => by
    by_cases hA : A < 8
    · obtain ⟨j, h1, h2⟩ := all A hA
      exact ⟨j, fun _ => ⟨h1, h2⟩⟩
    · exact ⟨0, fun z => absurd z hA⟩
  refine ⟨fun A => Classical.choose (ex A), fun A x hA hx hT => ?_⟩
  obtain ⟨a1, a2⟩ := Classical.choose_spec (ex A) hA
  obtain ⟨b1, b2⟩ := Classical.choose_spec (ex x) hx
  show Classical.choose (ex x) < Classical.choose (ex A)
  revert a1 a2 b1 b2
  generalize Classical.choose (ex A) = i
  generalize Classical.choose (ex x) = j
  intro a1 a2 b1 b2
  rw [← a2] at hT
  obtain ⟨k, h1, h2⟩ := h.2.2 i a1 x hx hT
  rcases Nat.lt_or_ge k j with q | q
  · exact absurd (h2.trans b2.symm) (h.2.1 k j q b1)
  · omega
section M2E
variable {G : gg_R} {σ : gs_St} {E : Nat → Bool}
def mE_at (E : Nat → Bool) (σ : gs_St) : Prop := ∀ A, A < 8 → σ.2.1 7 A = bI (E A)
def gg_ebE (E : Nat → Bool) (ys : List Nat) (x : Int32) : Prop := ∀ j, j < ys.length → nI j ≠ x → ys.getD j 0 < 8 ∧ E (ys.getD j 0) = true
theorem n_isEmpty {s : Nat} {K : Int32 → gs_St → Prop} (hs : s < 2 ^ 31) (hE : mE_at E σ) (h1 : s < 8 ∧ E s = true → K 1 σ) (h0 : ¬ (s < 8 ∧ E s = true) → K 0 σ) : C_Mo_isEmpty (nI s) σ K := by
  refine n_isNtN hs (fun q => br_f (by decide) ⟨vp_in_nI q (by decide), ?_⟩) (fun q => br_t rfl (h0 (fun z => by omega)))
  rw [nI_clamp (by omega), hE s q, bI_0]
  exact ⟨fun z => h0 (fun y => by rw [z] at y; exact absurd y.2 Bool.false_ne_true), fun z => h1 ⟨q, by cases hh : E s with | true => rfl | false => exact absurd hh z⟩⟩
theorem n_allEmpty {r : Nat} {x : Int32} {K : Int32 → gs_St → Prop} (h : mr_at G σ) (hr : r < G.length) (hE : mE_at E σ) (h1 : gg_ebE E (gg_y G r) x → K 1 σ) (h0 : ¬ gg_ebE E (gg_y G r) x → K 0 σ) : C_Mo_allEmpty (nI r) x σ K := by
  intro X5 h5
  have hG := h.1.1
  obtain ⟨hl8, hz, h24⟩ := h.1.2 r hr
  have key : ∀ (n i : Nat) (b : Bool), i + n = (gg_y G r).length → (b = true ↔ ∀ j, j < i → nI j ≠ x → (gg_y G r).getD j 0 < 8 ∧ E ((gg_y G r).getD j 0) = true) → X5 (nI r) x (bI b) (nI i) σ := by
    intro n
    induction n with
    | zero =>
      intro i b hi hb
      have hi : i = (gg_y G r).length := hi
      apply h5
      refine ⟨vp_in_nI (by omega) (by decide), ?_⟩
      rw [nI_clamp (by omega), (h.2.2 r hr).2.1]
      refine pk_le (gg_y G r).length i (fun _ => ⟨bI_01 b, ?_⟩) (fun q => absurd q (by omega))
      rw [hi] at hb
      cases b with
      | true => exact h1 (hb.mp rfl)
      | false => exact h0 (fun z => absurd (hb.mpr z) Bool.false_ne_true)
    | succ n ih =>
      intro i b hi hb
      have hi' : i < (gg_y G r).length := by omega
      apply h5
      refine ⟨vp_in_nI (by omega) (by decide), ?_⟩
      rw [nI_clamp (by omega), (h.2.2 r hr).2.1]
      refine pk_le (gg_y G r).length i (fun q => absurd q (by omega)) (fun _ => ?_)
      have no : ¬ (∀ j, j < i + 1 → nI j ≠ x → (gg_y G r).getD j 0 < 8 ∧ E ((gg_y G r).getD j 0) = true) → ∀ v1 : Int32, v1 = nI i + 1 → X5 (nI r) x 0 v1 σ := fun z => nm_r (nI_1 i) (ih (i + 1) false (by omega) ⟨fun y => absurd y Bool.false_ne_true, fun y => absurd y z⟩)
      have yes : (∀ j, j < i + 1 → nI j ≠ x → (gg_y G r).getD j 0 < 8 ∧ E ((gg_y G r).getD j 0) = true) → ∀ v1 : Int32, v1 = nI i + 1 → X5 (nI r) x 1 v1 σ := fun z => nm_r (nI_1 i) (ih (i + 1) true (by omega) ⟨fun _ => z, fun _ => rfl⟩)
      refine ek_if (bI_0 b) (fun q => no (fun z => ?_)) (fun q => ?_)
      · have := hb.mpr (fun j hj => z j (by omega))
        rw [q] at this
        exact absurd this Bool.false_ne_true
      · have hb1 : b = true := by cases hh : b with | true => rfl | false => exact absurd hh q
        have hall := hb.mp hb1
        refine ⟨fun e => yes (fun j hj hne => ?_), fun e => ?_⟩
        · by_cases ej : j = i
          · subst ej
            exact absurd e hne
          · exact hall j (by omega) hne
        · have h24i := h24 i hi'
          refine n_at h hr hi' (n_isEmpty (by omega) hE (fun z => br_f (by decide) (yes (fun j hj hne => ?_))) (fun z => br_t rfl (no (fun y => z (y i (by omega) e)))))
          by_cases ej : j = i
          · subst ej
            exact z
          · exact hall j (by omega) hne
  exact key (gg_y G r).length 0 true (by omega) ⟨fun _ j hj => absurd hj (Nat.not_lt_zero _), fun _ => rfl⟩
def up_b (E : Nat → Bool) (A : Nat) (b : Bool) : Nat → Bool := fun x => if x = A then b else E x
theorem up_b_s {E : Nat → Bool} {A : Nat} {b : Bool} : up_b E A b A = b := if_pos rfl
theorem up_b_n {E : Nat → Bool} {A x : Nat} {b : Bool} (h : x ≠ A) : up_b E A b x = E x := if_neg h
theorem up_b_at {E : Nat → Bool} {f : Nat → Int32} {A N : Nat} {b : Bool} {v : Int32} (hf : ∀ B, B < N → f B = bI (E B)) (hv : v = bI b) : ∀ B, B < N → upd f A v B = bI (up_b E A b B) := fun B hB => by
  show (if B = A then v else f B) = bI (if B = A then b else E B)
  by_cases z : B = A
  · rw [if_pos z, if_pos z, hv]
  · rw [if_neg z, if_neg z]
    exact hf B hB
theorem n_circle {K : Int32 → gs_St → Prop} (h : mr_at G σ) (kk : ∀ (b : Bool) (e f : Nat → Int32), an_circM G b → K (bI b) (gs_A (gs_A σ 7 e) 8 f)) : C_Mo_circle σ K := by
  intro X2 X23 X31 X92 X113 X123 X190 X198 X274 h2 h23 h31 h92 h113 h123 h190 h198 h274
  have hG := h.1.1
  obtain ⟨D, hD⟩ := gm_L_ex G
  have g7 : ∀ e, mr_at G (gs_A σ 7 e) := fun e => h.of rfl rfl rfl rfl
  have g8 : ∀ e f, mr_at G (gs_A (gs_A σ 7 e) 8 f) := fun e f => h.of rfl rfl rfl rfl
  have p88 : ∀ a b : Nat, b < 8 → (a * 8 + b) / 8 = a ∧ (a * 8 + b) % 8 = b := fun a b hb => by omega
  -- the answer
  have ph6 : ∀ (e f : Nat → Int32) (B : Nat → Bool), (∀ p, p < 64 → f p = bI (B p)) → (∀ b : Bool, (b = true ↔ ∃ n, n < 8 ∧ B (n * 9) = true) → an_circM G b) → ∀ (n i : Nat) (b : Bool), i + n = 8 → (b = true ↔ ∃ m, m < i ∧ B (m * 9) = true) → X274 (bI b) (nI i) (gs_A (gs_A σ 7 e) 8 f) := by
    intro e f B hB han n
    induction n with
    | zero =>
      intro i b hi hb
      have hi : i = 8 := hi
      subst hi
      apply h274
      exact br_t (by decide) ⟨bI_01 b, kk b e f (han b hb)⟩
    | succ n ih =>
      intro i b hi hb
      apply h274
      refine pk_le 8 i (fun q => absurd q (by omega)) (fun _ => ek_if (bI_n0 b) (fun q => ?_) (fun q => ?_))
      · refine nm_r (nI_1 i) (ih (i + 1) true (by omega) ⟨fun _ => ?_, fun _ => rfl⟩)
        obtain ⟨m, m1, m2⟩ := hb.mp q
        exact ⟨m, by omega, m2⟩
      · have e9 : (9 : Int32) * nI i = nI (i * 9) := by rw [show (9 : Int32) = nI 9 from rfl, pk_mul, Nat.mul_comm]
        have ef : (gs_A (gs_A σ 7 e) 8 f).2.1 8 (i * 9) = bI (B (i * 9)) := hB _ (by omega)
        rw [e9]
        refine ⟨vp_in_nI (by omega) (by decide), ?_⟩
        rw [nI_clamp (by omega), ef]
        have hbf : ¬ ∃ m, m < i ∧ B (m * 9) = true := fun z => q (hb.mpr z)
        refine ek_if (bI_0 _) (fun z => nm_r (nI_1 i) (ih (i + 1) false (by omega) ⟨fun y => absurd y Bool.false_ne_true, fun ⟨m, m1, m2⟩ => ?_⟩)) (fun z => nm_r (nI_1 i) (ih (i + 1) true (by omega) ⟨fun _ => ⟨i, by omega, ?_⟩, fun _ => rfl⟩))
        · by_cases em : m = i
          · rw [em, z] at m2
            exact absurd m2 Bool.false_ne_true
          · exact absurd ⟨m, by omega, m2⟩ hbf
        · cases hh : B (i * 9) with
          | true => rfl
          | false => exact absurd hh z
  -- steps by way of others
  have ph5 : ∀ (e : Nat → Int32) (n k : Nat) (f : Nat → Int32) (B : Nat → Bool), k + n = 8 → (∀ p, p < 64 → f p = bI (B p)) → (∀ rk : Nat → Nat, (∀ A x, A < 8 → x < 8 → gg_to G D A x → rk x < rk A) → ∀ p, p < 64 → B p = true → rk (p % 8) < rk (p / 8)) → (∀ a b, a < 8 → b < 8 → wa_R (gg_to G D) k a b → B (a * 8 + b) = true) → X190 (nI k) (gs_A (gs_A σ 7 e) 8 f) := by
    intro e n
    induction n with
    | zero =>
      intro k f B hk hB hS hC
      have hk : k = 8 := hk
      subst hk
      apply h190
      refine br_t (by decide) (ph6 e f B hB ?_ 8 0 false rfl ⟨fun z => absurd z Bool.false_ne_true, fun ⟨m, m1, _⟩ => absurd m1 (Nat.not_lt_zero _)⟩)
      intro b hb D' o c hD' ho hst
      rw [hb]
      have hT : ∀ A x, gg_to G D' A x ↔ gg_to G D A x := gg_to_congr (gm_L_eq hD' hD)
      constructor
      · rintro ⟨m, m1, m2⟩
        rcases Nat.lt_or_ge c 8 with q | q
        · exact q
        · obtain ⟨rk, hrk⟩ := gg_rank ho q
          have := hS rk (fun A x hA hx hl => hrk A x hA hx ((hT A x).mpr hl)) (m * 9) (by omega) m2
          rw [show m * 9 % 8 = m by omega, show m * 9 / 8 = m by omega] at this
          omega
      · intro q
        have hstk : gg_stk (gg_to G D') o c := hst.resolve_left (by omega)
        rcases wa_stk (T := gg_to G D) (U := fun A => A < 8 ∧ ∀ j, j < c → o j ≠ A) (fun A hA => ⟨hA.1, by
          obtain ⟨x, x1, x2, x3⟩ := hstk A hA.1 hA.2
          exact ⟨x, ⟨x1, x3⟩, (hT A x).mp x2⟩⟩) 8 with ⟨m, m1, m2⟩ | hall
        · exact ⟨m, m1, by have := hC m m m1 m1 m2; rw [show m * 8 + m = m * 9 by omega] at this; exact this⟩
        · obtain ⟨A, a1, a2⟩ := gg_ord_miss (T := gg_to G D) (o := o) q
          obtain ⟨x, ⟨x1, -⟩, x2, -⟩ := hall A ⟨a1, a2⟩
          omega
    | succ n ih =>
      intro k f B hk hB hS hC
      have hk8 : k < 8 := by omega
      apply h190
      refine pk_le 8 k (fun q => absurd q (by omega)) (fun _ => ?_)
      have inner : ∀ (m p : Nat) (f2 : Nat → Int32) (B2 : Nat → Bool), p + m = 64 → (∀ q, q < 64 → f2 q = bI (B2 q)) → (∀ rk : Nat → Nat, (∀ A x, A < 8 → x < 8 → gg_to G D A x → rk x < rk A) → ∀ q, q < 64 → B2 q = true → rk (q % 8) < rk (q / 8)) → (∀ q, q < 64 → B q = true → B2 q = true) → (∀ q, q < p → B (q / 8 * 8 + k) = true → B (8 * k + q % 8) = true → B2 q = true) → X198 (nI k) (nI p) (gs_A (gs_A σ 7 e) 8 f2) := by
        intro m
        induction m with
        | zero =>
          intro p f2 B2 hp hB2 hS2 hm2 hd2
          have hp : p = 64 := hp
          subst hp
          apply h198
          refine br_t (by decide) (nm_r (nI_1 k) (ih (k + 1) f2 B2 (by omega) hB2 hS2 (fun a b ha hb hR => ?_)))
          rcases hR with z | ⟨z1, z2⟩
          · exact hm2 _ (by omega) (hC a b ha hb z)
          · obtain ⟨q1, q2⟩ := p88 a b hb
            refine hd2 (a * 8 + b) (by omega) ?_ ?_
            · rw [q1]
              exact hC a k ha hk8 z1
            · rw [q2, Nat.mul_comm]
              exact hC k b hk8 hb z2
        | succ m ihm =>
          intro p f2 B2 hp hB2 hS2 hm2 hd2
          have hp64 : p < 64 := by omega
          have vp : vp_in (nI p) 64 := vp_in_nI hp64 (by decide)
          have ef : ∀ q, q < 64 → (gs_A (gs_A σ 7 e) 8 f2).2.1 8 q = bI (B2 q) := fun q hq => hB2 q hq
          have ediv : nI p / (8 : Int32) = nI (p / 8) := pk_div (a := p) (d := 8) (by omega) (by decide) (by decide)
          have erem : nI p - nI p / (8 : Int32) * (8 : Int32) = nI (p % 8) := pk_rem (a := p) (d := 8) (by omega) (by decide) (by decide)
          have ei1 : nI p / (8 : Int32) * (8 : Int32) + nI k = nI (p / 8 * 8 + k) := by rw [ediv, show (8 : Int32) = nI 8 from rfl, pk_mul, nI_add]
          have ei2 : (8 : Int32) * nI k + (nI p - nI p / (8 : Int32) * (8 : Int32)) = nI (8 * k + p % 8) := by rw [erem, show (8 : Int32) = nI 8 from rfl, pk_mul, nI_add]
          -- what is stored
          have store : ∀ (b : Bool) (v : Int32), v = bI b → (B2 p = true → b = true) → (b = true → B2 p = true ∨ (B2 (p / 8 * 8 + k) = true ∧ B2 (8 * k + p % 8) = true)) → (B2 (p / 8 * 8 + k) = true → B2 (8 * k + p % 8) = true → b = true) → ∀ τ : gs_St, τ = gs_A (gs_A (gs_A σ 7 e) 8 f2) 8 (upd ((gs_A (gs_A σ 7 e) 8 f2).2.1 8) p v) → ∀ v29 : Int32, v29 = nI p + 1 → X198 (nI k) v29 τ := by
            intro b v hv hup hsd hcp τ hτ
            have eτ : τ = gs_A (gs_A σ 7 e) 8 (upd f2 p v) := by
              rw [hτ, gs_AA]
              rfl
            rw [eτ]
            refine nm_r (nI_1 p) (ihm (p + 1) _ (up_b B2 p b) (by omega) (up_b_at hB2 hv) (fun rk hrk q hq hb => ?_) (fun q hq hb => ?_) (fun q hq hb1 hb2 => ?_))
            · by_cases z : q = p
              · subst z
                rw [up_b_s] at hb
                rcases hsd hb with y | ⟨y1, y2⟩
                · exact hS2 rk hrk q hq y
                · have r1 := hS2 rk hrk _ (by omega) y1
                  have r2 := hS2 rk hrk _ (by omega) y2
                  rw [show (q / 8 * 8 + k) % 8 = k by omega, show (q / 8 * 8 + k) / 8 = q / 8 by omega] at r1
                  rw [show (8 * k + q % 8) % 8 = q % 8 by omega, show (8 * k + q % 8) / 8 = k by omega] at r2
                  omega
              · rw [up_b_n z] at hb
                exact hS2 rk hrk q hq hb
            · by_cases z : q = p
              · subst z
                rw [up_b_s]
                exact hup (hm2 q hq hb)
              · rw [up_b_n z]
                exact hm2 q hq hb
            · by_cases z : q = p
              · subst z
                rw [up_b_s]
                exact hcp (hm2 _ (by omega) hb1) (hm2 _ (by omega) hb2)
              · rw [up_b_n z]
                exact hd2 q (by omega) hb1 hb2
          apply h198
          refine pk_le 64 p (fun q => absurd q (by omega)) (fun _ => ⟨vp, ?_⟩)
          rw [ei1, ei2, nI_clamp (by omega), nI_clamp (by omega), nI_clamp (by omega), ef p hp64, ef _ (by omega), ef _ (by omega), nar_0, nar_1]
          refine ek_if (bI_n0 _) (fun q => ⟨vp, store true 1 rfl (fun _ => rfl) (fun _ => Or.inl q) (fun _ _ => rfl)⟩) (fun q => ⟨by decide, vp_in_nI (by omega) (by decide), ?_⟩)
          refine ek_if (bI_0 _) (fun z => ⟨vp, store false 0 rfl (fun y => absurd y q) (fun y => absurd y Bool.false_ne_true) (fun y _ => by rw [z] at y; exact absurd y Bool.false_ne_true)⟩) (fun z => ⟨by decide, vp_in_nI (by omega) (by decide), ?_⟩)
          have z : B2 (p / 8 * 8 + k) = true := by
            cases hh : B2 (p / 8 * 8 + k) with
            | true => rfl
            | false => exact absurd hh z
          refine ek_if (bI_0 _) (fun y => ⟨vp, store false 0 rfl (fun w => absurd w q) (fun w => absurd w Bool.false_ne_true) (fun _ w => by rw [y] at w; exact absurd w Bool.false_ne_true)⟩) (fun y => ⟨vp, store true 1 rfl (fun _ => rfl) (fun _ => Or.inr ⟨z, ?_⟩) (fun _ _ => rfl)⟩)
          cases hh : B2 (8 * k + p % 8) with
          | true => rfl
          | false => exact absurd hh y
      exact inner 64 0 f B rfl hB hS (fun q _ hb => hb) (fun q hq => absurd hq (Nat.not_lt_zero _))
  -- who leads to whom
  have ph4 : ∀ (e : Nat → Int32) (E : Nat → Bool), (∀ A, A < 8 → e A = bI (E A)) → (∀ A, A < 8 → (E A = true ↔ D A = some 0)) → ∀ (n r : Nat) (f : Nat → Int32) (B : Nat → Bool), r + n = G.length → (∀ p, p < 64 → f p = bI (B p)) → (∀ p, p < 64 → (B p = true ↔ ∃ r' i, r' < r ∧ gg_pl G D r' i (p / 8) (p % 8))) → X113 (nI r) (gs_A (gs_A σ 7 e) 8 f) := by
    intro e E he hED n
    have ebE : ∀ ys z, gg_ebE E ys z ↔ gg_eb D ys z := fun ys z => ⟨fun q j hj hne => ⟨(q j hj hne).1, (hED _ (q j hj hne).1).mp (q j hj hne).2⟩, fun q j hj hne => ⟨(q j hj hne).1, (hED _ (q j hj hne).1).mpr (q j hj hne).2⟩⟩
    induction n with
    | zero =>
      intro r f B hr hB hBl
      have hr : r = G.length := hr
      subst hr
      apply h113
      refine pk_le G.length G.length (fun _ => ?_) (fun q => absurd q (by omega)) h.2.1
      refine ph5 e 8 0 f B rfl hB (fun rk hrk p hp hb => ?_) (fun a b ha hb hR => ?_)
      · obtain ⟨r, i, hr, hp2⟩ := (hBl p hp).mp hb
        exact hrk _ _ (by omega) hp2.2.2.2.1 ⟨r, i, hr, hp2⟩
      · obtain ⟨r, i, hr, hp2⟩ := hR
        obtain ⟨q1, q2⟩ := p88 a b hb
        refine (hBl _ (by omega)).mpr ⟨r, i, hr, ?_⟩
        rw [q1, q2]
        exact hp2
    | succ n ih =>
      intro r f B hr hB hBl
      have hr' : r < G.length := by omega
      obtain ⟨hl8, hz, h24⟩ := h.1.2 r hr'
      apply h113
      refine pk_le G.length r (fun q => absurd q (by omega)) (fun _ => ?_) h.2.1
      have inner : ∀ (m i : Nat) (f : Nat → Int32) (B : Nat → Bool), i + m = (gg_y G r).length → (∀ p, p < 64 → f p = bI (B p)) → (∀ p, p < 64 → (B p = true ↔ ∃ r' i', (r' < r ∨ (r' = r ∧ i' < i)) ∧ gg_pl G D r' i' (p / 8) (p % 8))) → X123 (nI r) (nI i) (gs_A (gs_A σ 7 e) 8 f) := by
        intro m
        induction m with
        | zero =>
          intro i f B hi hB hBl
          have hi : i = (gg_y G r).length := hi
          apply h123
          refine ⟨vp_in_nI (by omega) (by decide), ?_⟩
          have e1 : (gs_A (gs_A σ 7 e) 8 f).2.1 1 r = nI (gg_y G r).length := (h.2.2 r hr').2.1
          rw [nI_clamp (by omega), e1]
          refine pk_le (gg_y G r).length i (fun _ => nm_r (nI_1 r) (ih (r + 1) f B (by omega) hB (fun p hp => ?_))) (fun q => absurd q (by omega))
          rw [hBl p hp]
          constructor
          · rintro ⟨r', i', q | ⟨q1, q2⟩, hp⟩
            · exact ⟨r', i', by omega, hp⟩
            · exact ⟨r', i', by omega, hp⟩
          · rintro ⟨r', i', q, hp⟩
            by_cases er : r' = r
            · refine ⟨r', i', Or.inr ⟨er, ?_⟩, hp⟩
              subst er
              have := hp.1
              omega
            · exact ⟨r', i', Or.inl (by omega), hp⟩
        | succ m ihm =>
          intro i f B hi hB hBl
          have hi' : i < (gg_y G r).length := by omega
          have h24i := h24 i hi'
          have nolead : (∀ A x, ¬ gg_pl G D r i A x) → ∀ p, p < 64 → (B p = true ↔ ∃ r' i', (r' < r ∨ (r' = r ∧ i' < i + 1)) ∧ gg_pl G D r' i' (p / 8) (p % 8)) := by
            intro hno p hp
            rw [hBl p hp]
            constructor
            · rintro ⟨r', i', q | ⟨q1, q2⟩, hp⟩
              · exact ⟨r', i', Or.inl q, hp⟩
              · exact ⟨r', i', Or.inr ⟨q1, by omega⟩, hp⟩
            · rintro ⟨r', i', q | ⟨q1, q2⟩, hp⟩
              · exact ⟨r', i', Or.inl q, hp⟩
              · refine ⟨r', i', Or.inr ⟨q1, ?_⟩, hp⟩
                by_cases ei : i' = i
                · rw [q1, ei] at hp
                  exact absurd hp (hno _ _)
                · omega
          apply h123
          refine ⟨vp_in_nI (by omega) (by decide), ?_⟩
          have e1 : (gs_A (gs_A σ 7 e) 8 f).2.1 1 r = nI (gg_y G r).length := (h.2.2 r hr').2.1
          have e0 : (gs_A (gs_A σ 7 e) 8 f).2.1 0 r = nI (gg_l G r) := (h.2.2 r hr').1
          rw [nI_clamp (by omega), e1]
          refine pk_le (gg_y G r).length i (fun q => absurd q (by omega)) (fun _ => ?_)
          refine n_at (g8 e f) hr' hi' ?_
          refine n_isNtN (by omega) (fun q => br_f (by decide) ?_) (fun q => br_t rfl (nm_r (nI_1 i) (ihm (i + 1) f B (by omega) hB (nolead (fun A x hp => by
              have h1 := hp.2.2.1
              have h2 := hp.2.2.2.1
              omega)))))
          refine n_allEmpty (E := E) (g8 e f) hr' he (fun hy => br_f (by decide) ⟨vp_in_nI (by omega) (by decide), ?_⟩) (fun hy => br_t rfl (nm_r (nI_1 i) (ihm (i + 1) f B (by omega) hB (nolead (fun A x hp => hy ((ebE _ _).mpr hp.2.2.2.2))))))
          refine n_at (g8 e f) hr' hi' ?_
          have e8 : (8 : Int32) * nI (gg_l G r) + nI ((gg_y G r).getD i 0) = nI (gg_l G r * 8 + (gg_y G r).getD i 0) := by rw [show (8 : Int32) = nI 8 from rfl, pk_mul, nI_add, Nat.mul_comm]
          rw [e0, e8, nar_1]
          refine ⟨vp_in_nI (by omega) (by decide), ?_⟩
          rw [nI_clamp (by omega)]
          intro τ hτ
          have eτ : τ = gs_A (gs_A σ 7 e) 8 (upd f (gg_l G r * 8 + (gg_y G r).getD i 0) 1) := by
            rw [hτ, gs_AA]
            rfl
          rw [eτ]
          have hpl : gg_pl G D r i (gg_l G r) ((gg_y G r).getD i 0) := ⟨hi', rfl, rfl, q, (ebE _ _).mp hy⟩
          obtain ⟨q1, q2⟩ := p88 (gg_l G r) ((gg_y G r).getD i 0) q
          refine nm_r (nI_1 i) (ihm (i + 1) _ (up_b B (gg_l G r * 8 + (gg_y G r).getD i 0) true) (by omega) (up_b_at hB rfl) (fun p hp => ?_))
          by_cases z : p = gg_l G r * 8 + (gg_y G r).getD i 0
          · subst z
            rw [up_b_s, q1, q2]
            exact ⟨fun _ => ⟨r, i, Or.inr ⟨rfl, by omega⟩, hpl⟩, fun _ => rfl⟩
          · rw [up_b_n z, hBl p hp]
            constructor
            · rintro ⟨r', i', y | ⟨y1, y2⟩, hp2⟩
              · exact ⟨r', i', Or.inl y, hp2⟩
              · exact ⟨r', i', Or.inr ⟨y1, by omega⟩, hp2⟩
            · rintro ⟨r', i', y | ⟨y1, y2⟩, hp2⟩
              · exact ⟨r', i', Or.inl y, hp2⟩
              · by_cases ei : i' = i
                · rw [y1, ei] at hp2
                  have a1 := hp2.2.1
                  have a2 := hp2.2.2.1
                  omega
                · exact ⟨r', i', Or.inr ⟨y1, by omega⟩, hp2⟩
      refine inner (gg_y G r).length 0 f B (by omega) hB (fun p hp => ?_)
      rw [hBl p hp]
      constructor
      · rintro ⟨r', i', z, hp2⟩
        exact ⟨r', i', Or.inl z, hp2⟩
      · rintro ⟨r', i', z | ⟨z1, z2⟩, hp2⟩
        · exact ⟨r', i', z, hp2⟩
        · exact absurd z2 (Nat.not_lt_zero _)
  have ph3 : ∀ (e : Nat → Int32) (E : Nat → Bool), (∀ A, A < 8 → e A = bI (E A)) → (∀ A, A < 8 → (E A = true ↔ D A = some 0)) → ∀ (n p : Nat) (f : Nat → Int32), p + n = 64 → (∀ q, q < p → f q = 0) → X92 (nI p) (gs_A (gs_A σ 7 e) 8 f) := by
    intro e E he hED n
    induction n with
    | zero =>
      intro p f hp hf
      have hp : p = 64 := hp
      subst hp
      apply h92
      exact br_t (by decide) (ph4 e E he hED G.length 0 f (fun _ => false) (by omega) (fun q hq => hf q hq) (fun q hq => ⟨fun z => absurd z Bool.false_ne_true, fun ⟨_, _, z, _⟩ => absurd z (Nat.not_lt_zero _)⟩))
    | succ n ih =>
      intro p f hp hf
      apply h92
      refine pk_le 64 p (fun q => absurd q (by omega)) (fun _ => ⟨vp_in_nI (by omega) (by decide), ?_⟩)
      rw [nI_clamp (by omega), nar_0]
      intro τ hτ
      have eτ : τ = gs_A (gs_A σ 7 e) 8 (upd f p 0) := by
        rw [hτ, gs_AA]
        rfl
      rw [eτ]
      refine nm_r (nI_1 p) (ih (p + 1) _ (by omega) (fun q hq => ?_))
      show (if q = p then (0 : Int32) else f q) = 0
      by_cases z : q = p
      · rw [if_pos z]
      · rw [if_neg z]
        exact hf q (by omega)
  -- which are empty
  have ph2 : ∀ (n k : Nat) (e : Nat → Int32) (E : Nat → Bool), k + n = 8 → (∀ A, A < 8 → e A = bI (E A)) → (∀ A, E A = true → ∃ j, gm_D G j A 0) → (∀ A, gm_D G k A 0 → E A = true) → X23 (nI k) (gs_A σ 7 e) := by
    intro n
    induction n with
    | zero =>
      intro k e E hk he hs hc
      have hk : k = 8 := hk
      subst hk
      apply h23
      refine br_t (by decide) ?_
      have := ph3 e E he (fun A hA => ⟨fun z => (gm_L_0 hD hA).mpr (hs A z), fun z => hc A (gm_eight hA ((hD A hA 0).mp z))⟩) 64 0 ((gs_A σ 7 e).2.1 8) rfl (fun q hq => absurd hq (Nat.not_lt_zero _))
      rw [gs_Aid] at this
      exact this
    | succ n ih =>
      intro k e E hk he hs hc
      apply h23
      refine pk_le 8 k (fun q => absurd q (by omega)) (fun _ => ?_)
      have inner : ∀ (m r : Nat) (e : Nat → Int32) (E : Nat → Bool), r + m = G.length → (∀ A, A < 8 → e A = bI (E A)) → (∀ A, E A = true → ∃ j, gm_D G j A 0) → (∀ A, gm_D G k A 0 → E A = true) → (∀ q, q < r → gm_S (gm_D G k) (gg_y G q) 0 → E (gg_l G q) = true) → X31 (nI k) (nI r) (gs_A σ 7 e) := by
        intro m
        induction m with
        | zero =>
          intro r e E hr he hs hc hdn
          have hr : r = G.length := hr
          subst hr
          apply h31
          refine pk_le G.length G.length (fun _ => nm_r (nI_1 k) (ih (k + 1) e E (by omega) he hs (fun A hd => ?_))) (fun q => absurd q (by omega)) h.2.1
          obtain ⟨z, z1, z2, z3⟩ := hd
          obtain ⟨r, hr, e1, e2⟩ := gg_idx z1
          rw [← e2] at z3
          have := hdn r hr z3
          rw [e1, z2] at this
          exact this
        | succ m ihm =>
          intro r e E hr he hs hc hdn
          have hr' : r < G.length := by omega
          obtain ⟨hl8, hz, h24⟩ := h.1.2 r hr'
          have vr : vp_in (nI r) 24 := vp_in_nI (by omega) (by decide)
          have v8 : vp_in (nI (gg_l G r)) 8 := vp_in_nI hl8 (by decide)
          have e0 : (gs_A σ 7 e).2.1 0 r = nI (gg_l G r) := (h.2.2 r hr').1
          have e7 : (gs_A σ 7 e).2.1 7 (gg_l G r) = bI (E (gg_l G r)) := he _ hl8
          have store : ∀ (b : Bool) (v : Int32), v = bI b → (E (gg_l G r) = true → b = true) → (b = true → ∃ j, gm_D G j (gg_l G r) 0) → (gm_S (gm_D G k) (gg_y G r) 0 → b = true) → ∀ τ : gs_St, τ = gs_A (gs_A σ 7 e) 7 (upd ((gs_A σ 7 e).2.1 7) (gg_l G r) v) → ∀ v5 : Int32, v5 = nI r + 1 → X31 (nI k) v5 τ := by
            intro b v hv hup hsd hcp τ hτ
            have eτ : τ = gs_A σ 7 (upd e (gg_l G r) v) := by
              rw [hτ, gs_AA]
              rfl
            rw [eτ]
            refine nm_r (nI_1 r) (ihm (r + 1) _ (up_b E (gg_l G r) b) (by omega) (up_b_at he hv) (fun A hA => ?_) (fun A hA => ?_) (fun q hq hS => ?_))
            · by_cases z : A = gg_l G r
              · rw [z] at hA ⊢
                rw [up_b_s] at hA
                exact hsd hA
              · rw [up_b_n z] at hA
                exact hs A hA
            · by_cases z : A = gg_l G r
              · rw [z, up_b_s]
                exact hup (z ▸ hc A hA)
              · rw [up_b_n z]
                exact hc A hA
            · by_cases zr : q = r
              · rw [zr, up_b_s]
                exact hcp (zr ▸ hS)
              · by_cases z : gg_l G q = gg_l G r
                · rw [z, up_b_s]
                  exact hup (z ▸ hdn q (by omega) hS)
                · rw [up_b_n z]
                  exact hdn q (by omega) hS
          apply h31
          refine pk_le G.length r (fun q => absurd q (by omega)) (fun _ => ?_) h.2.1
          rw [nI_clamp (by omega), e0, nI_clamp (by omega), e7, nar_0, nar_1]
          have noskip : ∀ j, j < (gg_y G r).length → nI j ≠ (-1 : Int32) := fun j hj z => absurd (z ▸ (by decide : (-1 : Int32) < 0)) (nI_pos (by omega))
          have Sk : gm_S (gm_D G k) (gg_y G r) 0 → gg_ebE E (gg_y G r) (-1) := fun hS j hj _ => by
            obtain ⟨a1, a2⟩ := (gm_S_0 _).mp hS j hj
            exact ⟨a1, hc _ a2⟩
          refine ⟨vr, vr, v8, ek_if (bI_n0 _) (fun q => ⟨v8, store true 1 rfl (fun _ => rfl) (fun _ => hs _ q) (fun _ => rfl)⟩) (fun q => ?_)⟩
          refine n_allEmpty (E := E) (g7 e) hr' he (fun hy => br_f (by decide) ⟨v8, store true 1 rfl (fun _ => rfl) (fun _ => ?_) (fun _ => rfl)⟩) (fun hy => br_t rfl ⟨v8, store false 0 rfl (fun z => absurd z q) (fun z => absurd z Bool.false_ne_true) (fun hS => absurd (Sk hS) hy)⟩)
          have hS : gm_S (fun x a => ∃ j, gm_D G j x a) (gg_y G r) 0 := (gm_S_0 _).mpr (fun j hj => ⟨(hy j hj (noskip j hj)).1, hs _ (hy j hj (noskip j hj)).2⟩)
          obtain ⟨j, hj⟩ := gm_S_some _ _ hS
          exact ⟨j + 1, _, gg_mem hr', rfl, hj⟩
      exact inner G.length 0 e E (by omega) he hs hc (fun q hq => absurd hq (Nat.not_lt_zero _))
  have ph1 : ∀ (n i : Nat) (e : Nat → Int32), i + n = 8 → (∀ j, j < i → e j = 0) → X2 (nI i) (gs_A σ 7 e) := by
    intro n
    induction n with
    | zero =>
      intro i e hi he
      have hi : i = 8 := hi
      subst hi
      apply h2
      exact br_t (by decide) (ph2 8 0 e (fun _ => false) rfl (fun A hA => he A hA) (fun A z => absurd z Bool.false_ne_true) (fun A z => z.elim))
    | succ n ih =>
      intro i e hi he
      apply h2
      refine pk_le 8 i (fun q => absurd q (by omega)) (fun _ => ⟨vp_in_nI (by omega) (by decide), ?_⟩)
      rw [nI_clamp (by omega), nar_0]
      intro τ hτ
      have eτ : τ = gs_A σ 7 (upd e i 0) := by
        rw [hτ, gs_AA]
        rfl
      rw [eτ]
      refine nm_r (nI_1 i) (ih (i + 1) _ (by omega) (fun j hj => ?_))
      show (if j = i then (0 : Int32) else e j) = 0
      by_cases z : j = i
      · rw [if_pos z]
      · rw [if_neg z]
        exact he j (by omega)
  have := ph1 8 0 (σ.2.1 7) rfl (fun j hj => absurd hj (Nat.not_lt_zero _))
  rw [gs_Aid] at this
  exact this
end M2E
end
section
/-! Layer 2 of the reference, part f: counts. -/
section M2F
variable {G : gg_R} {σ : gs_St} {T : Nat → Nat → Nat}
theorem n_sum {a b : Nat} {K : Int64 → gs_St → Prop} (ha : a ≤ 1000000000000000001) (hb : b ≤ 1000000000000000001) (k : K (lN (gc_cap (a + b))) σ) : C_Mo_sum (lN a) (lN b) σ K := by
  unfold C_Mo_sum
  rw [lN_add, gl_18]
  unfold gc_cap at k
  refine ek_if (pk_lLE (by omega) (by decide)) (fun q => ?_) (fun q => ?_)
  · rw [if_pos q] at k
    exact k
  · rw [if_neg q] at k
    exact k
theorem n_product {a b : Nat} {K : Int64 → gs_St → Prop} (ha : a ≤ 1000000000000000001) (hb : b ≤ 1000000000000000001) (k : K (lN (gc_cap (a * b))) σ) : C_Mo_product (lN a) (lN b) σ K := by
  have hza : (lN a = (0 : Int64)) ↔ a = 0 := pk_lEQ (a := a) (b := 0) (by omega) (by decide)
  refine ek_if hza (fun q => ?_) (fun q => s_times ha hb k)
  subst q
  rw [Nat.zero_mul] at k
  exact k
theorem n_of {s p N : Nat} {K : Int64 → gs_St → Prop} (hs : s < 24) (hN : N ≤ 17) (hp : p < N) (hT : mt_at T N σ) (k : K (lN (gd_F T s p)) σ) : C_Mo_of (nI s) (nI p) σ K := by
  refine n_isNtN (by omega) (fun q => br_f (by decide) ?_) (fun q => br_t rfl ?_)
  · rw [n_17]
    refine ⟨vp_in_nI (by omega) (by decide), ?_⟩
    rw [nI_clamp (by omega), hT s q p hp]
    unfold gd_F at k
    rw [if_pos q] at k
    exact k
  · unfold gd_F at k
    rw [if_neg (by omega)] at k
    refine ek_if (not_congr (nI_eq (a := p) (b := 1) (by omega) (by decide))) (fun z => ?_) (fun z => ?_)
    · rw [if_neg z] at k
      exact k
    · rw [if_pos (Classical.byContradiction z)] at k
      exact k
theorem gd_F_le {T : Nat → Nat → Nat} (hTb : ∀ A p, T A p ≤ 1000000000000000001) (s p : Nat) : gd_F T s p ≤ 1000000000000000001 := by
  unfold gd_F
  split
  · exact hTb s p
  · split <;> omega
/-- the endings of a rule -/
def mb_at (T : Nat → Nat → Nat) (ys : List Nat) (n : Nat) (σ : gs_St) : Prop := ∀ i, i ≤ ys.length → ∀ p, p ≤ n → σ.2.2 3 (i * 17 + p) = lN (gc_E T (ys.drop i) p)
theorem n_fill {r n N : Nat} {K : gs_St → Prop} (h : mr_at G σ) (hr : r < G.length) (hn : n < N) (hN : N ≤ 17) (hT : mt_at T N σ) (hTb : ∀ A p, T A p ≤ 1000000000000000001)
    (kk : ∀ f : Nat → Int64, (∀ i, i ≤ (gg_y G r).length → ∀ p, p ≤ n → f (i * 17 + p) = lN (gc_E T ((gg_y G r).drop i) p)) → K (gs_L σ 3 f)) : C_Mo_fill (nI r) (nI n) σ K := by
  intro X2 X47 X54 X66 h2 h47 h54 h66
  have hG := h.1.1
  obtain ⟨hl8, hz, h24⟩ := h.1.2 r hr
  have g3 : ∀ f, mr_at G (gs_L σ 3 f) := fun f => h.of rfl rfl rfl rfl
  have t3 : ∀ f, mt_at T N (gs_L σ 3 f) := fun f => hT
  have vr : vp_in (nI r) 24 := vp_in_nI (by omega) (by decide)
  have esz : ∀ f, (gs_L σ 3 f).2.1 1 r = nI (gg_y G r).length := fun f => (h.2.2 r hr).2.1
  have rows : ∀ (c : Nat) (f : Nat → Int64), c ≤ (gg_y G r).length → (∀ i, c ≤ i → i ≤ (gg_y G r).length → ∀ p, p ≤ n → f (i * 17 + p) = lN (gc_E T ((gg_y G r).drop i) p)) → X47 (nI r) (nI n) (nI c - 1) (gs_L σ 3 f) := by
    intro c
    induction c with
    | zero =>
      intro f hc hf
      apply h47
      exact br_t (by decide) (kk f (fun i hi => hf i (Nat.zero_le _) hi))
    | succ c ih =>
      intro f hc hf
      have hc' : c < (gg_y G r).length := by omega
      have h24c := h24 c hc'
      rw [nI_pred]
      apply h47
      refine br_f (nI_pos (by omega)) ?_
      have cols : ∀ (m q : Nat) (f : Nat → Int64), q + m = n + 1 → (∀ i, c < i → i ≤ (gg_y G r).length → ∀ p, p ≤ n → f (i * 17 + p) = lN (gc_E T ((gg_y G r).drop i) p)) → (∀ p, p < q → f (c * 17 + p) = lN (gc_E T ((gg_y G r).drop c) p)) → X54 (nI r) (nI n) (nI c) (nI q) (gs_L σ 3 f) := by
        intro m
        induction m with
        | zero =>
          intro q f hq hf hfc
          have hq : q = n + 1 := hq
          subst hq
          apply h54
          refine pk_lt n (n + 1) (fun _ => ?_) (fun z => absurd z (by omega))
          rw [gv_m1]
          refine nm_e (ih f (by omega) (fun i hi hi2 p hp => ?_))
          by_cases e : i = c
          · rw [e]
            exact hfc p (by omega)
          · exact hf i (by omega) hi2 p hp
        | succ m ihm =>
          intro q f hq hf hfc
          apply h54
          refine pk_lt n q (fun z => absurd z (by omega)) (fun _ => ?_)
          have sum : ∀ (m2 p : Nat), p + m2 = q + 1 → X66 (nI r) (nI n) (nI c) (nI q) (lN (gc_cap (gc_sum (fun p => gd_F T ((gg_y G r).getD c 0) p * gc_E T ((gg_y G r).drop (c + 1)) (q - p)) p))) (nI p) (gs_L σ 3 f) := by
            intro m2
            induction m2 with
            | zero =>
              intro p hp
              have hp : p = q + 1 := hp
              subst hp
              apply h66
              refine pk_lt q (q + 1) (fun _ => ?_) (fun z => absurd z (by omega))
              rw [n_17, ← gc_E_sum, ← gg_drop hc']
              refine ⟨vp_in_nI (by omega) (by decide), ?_⟩
              rw [nI_clamp (by omega)]
              intro τ hτ
              have eτ : τ = gs_L σ 3 (vp_updL f (c * 17 + q) (lN (gc_E T ((gg_y G r).drop c) q))) := by
                rw [hτ, gs_LL]
                rfl
              rw [eτ]
              refine nm_r (nI_1 q) (ihm (q + 1) _ (by omega) (fun i hi hi2 p hp => ?_) (fun p hp => ?_))
              · show (if i * 17 + p = c * 17 + q then _ else f (i * 17 + p)) = _
                rw [if_neg (by omega)]
                exact hf i hi hi2 p hp
              · show (if c * 17 + p = c * 17 + q then lN (gc_E T ((gg_y G r).drop c) q) else f (c * 17 + p)) = _
                by_cases e : p = q
                · rw [if_pos (by rw [e]), e]
                · rw [if_neg (by omega)]
                  exact hfc p (by omega)
            | succ m2 ih2 =>
              intro p hp
              apply h66
              refine pk_lt q p (fun z => absurd z (by omega)) (fun _ => ?_)
              refine n_at (g3 f) hr hc' ?_
              refine n_of (T := T) (N := N) h24c hN (by omega) (t3 f) ?_
              have ei : (17 : Int32) * nI c + (17 : Int32) + nI q - nI p = nI ((c + 1) * 17 + (q - p)) := by
                rw [show (17 : Int32) = nI 17 from rfl, pk_mul, nI_add, nI_add, pk_sub (by omega)]
                congr 1
                omega
              rw [ei]
              refine ⟨vp_in_nI (by omega) (by decide), ?_⟩
              have ef : (gs_L σ 3 f).2.2 3 ((c + 1) * 17 + (q - p)) = lN (gc_E T ((gg_y G r).drop (c + 1)) (q - p)) := hf (c + 1) (by omega) (by omega) (q - p) (by omega)
              rw [nI_clamp (by omega), ef]
              refine n_product (gd_F_le hTb _ _) (gc_E_le _ _ _) (n_sum (gc_cap_le _) (gc_cap_le _) ?_)
              rw [gc_cap_add2]
              exact nm_r (nI_1 p) (ih2 (p + 1) (by omega))
          exact sum (q + 1) 0 (by omega)
      exact cols (n + 1) 0 f (by omega) (fun i hi => hf i (by omega)) (fun p hp => absurd hp (Nat.not_lt_zero _))
  have base : ∀ (m q : Nat) (f : Nat → Int64), q + m = n + 1 → (∀ p, p < q → f ((gg_y G r).length * 17 + p) = lN (if p = 0 then 1 else 0)) → X2 (nI r) (nI n) (nI q) (gs_L σ 3 f) := by
    intro m
    induction m with
    | zero =>
      intro q f hq hf
      have hq : q = n + 1 := hq
      subst hq
      apply h2
      refine pk_lt n (n + 1) (fun _ => ⟨vr, ?_⟩) (fun z => absurd z (by omega))
      rw [nI_clamp (by omega), esz]
      refine nm_e (rows (gg_y G r).length f (Nat.le_refl _) (fun i hi hi2 p hp => ?_))
      have e : i = (gg_y G r).length := by omega
      subst e
      rw [hf p (by omega), List.drop_eq_nil_iff.mpr (Nat.le_refl _)]
      rfl
    | succ m ih =>
      intro q f hq hf
      apply h2
      refine pk_lt n q (fun z => absurd z (by omega)) (fun _ => ⟨vr, ?_⟩)
      rw [nI_clamp (by omega), esz, n_17, nI_clamp (by omega)]
      have step : ∀ v : Int64, v = lN (if q = 0 then 1 else 0) → ∀ τ : gs_St, τ = gs_L (gs_L σ 3 f) 3 (vp_updL ((gs_L σ 3 f).2.2 3) ((gg_y G r).length * 17 + q) v) → ∀ v3 : Int32, v3 = nI q + 1 → X2 (nI r) (nI n) v3 τ := by
        intro v hv τ hτ
        have eτ : τ = gs_L σ 3 (vp_updL f ((gg_y G r).length * 17 + q) v) := by
          rw [hτ, gs_LL]
          rfl
        rw [eτ]
        refine nm_r (nI_1 q) (ih (q + 1) _ (by omega) (fun p hp => ?_))
        show (if (gg_y G r).length * 17 + p = (gg_y G r).length * 17 + q then v else f ((gg_y G r).length * 17 + p)) = _
        by_cases e : p = q
        · rw [if_pos (by rw [e]), hv, e]
        · rw [if_neg (by omega)]
          exact hf p (by omega)
      have vi : vp_in (nI ((gg_y G r).length * 17 + q)) 119 := vp_in_nI (by omega) (by decide)
      refine ek_if (not_congr (nI_eq (a := q) (b := 0) (by omega) (by decide))) (fun z => ⟨vi, step 0 ?_⟩) (fun z => ⟨vi, step 1 ?_⟩)
      · rw [if_neg z]
        rfl
      · rw [if_pos (Classical.byContradiction z)]
        rfl
  have := base (n + 1) 0 (σ.2.2 3) (by omega) (fun p hp => absurd hp (Nat.not_lt_zero _))
  rw [gs_Lid] at this
  exact this
/-- the table with a new value for A at n -/
def gc_up (T : Nat → Nat → Nat) (A n v : Nat) : Nat → Nat → Nat := fun x p => if x = A ∧ p = n then v else T x p
theorem gc_up_s {T : Nat → Nat → Nat} {A n v : Nat} : gc_up T A n v A n = v := if_pos ⟨rfl, rfl⟩
theorem gc_up_p {T : Nat → Nat → Nat} {A n v x p : Nat} (h : p ≠ n) : gc_up T A n v x p = T x p := if_neg (fun q => h q.2)
theorem gc_up_x {T : Nat → Nat → Nat} {A n v x p : Nat} (h : x ≠ A) : gc_up T A n v x p = T x p := if_neg (fun q => h q.1)
theorem gc_up_id {T : Nat → Nat → Nat} {A n : Nat} : gc_up T A n (T A n) = T := by
  funext x p
  unfold gc_up
  split
  · rename_i q
    rw [q.1, q.2]
  · rfl
/-- x's count at n is the sum over its rules -/
def gc_st (T : Nat → Nat → Nat) (G : gg_R) (kp : Nat → Bool) (n x : Nat) : Prop := T x n = gc_cap (gc_pt T G kp x n G.length)
theorem n_reckon {x : Int32} {D : Nat → Option Nat} {rk : Nat → Nat} {K : gs_St → Prop} (h : mr_at G σ) (hk : σ.1 5 = 0 ∨ (σ.1 5 = 1 ∧ mk_at G σ)) (hD : gm_L G D) (hrk : ∀ A y, A < 8 → y < 8 → gg_to G D A y → rk y < rk A) (hr8 : ∀ A, A < 8 → rk A < 8)
    (kk : ∀ (T : Nat → Nat → Nat) (τ : gs_St), (∀ A p, T A p ≤ 1000000000000000001) → gc_okk (fun y => D y = some 0) G (fun r => decide (nI r ≠ x)) T 17 → mt_at T 17 τ → τ.1 5 = 1 → τ.1 6 = x → (∀ k, k ≠ 5 → k ≠ 6 → τ.1 k = σ.1 k) → τ.2.1 = σ.2.1 → (∀ k, k ≠ 2 → k ≠ 3 → τ.2.2 k = σ.2.2 k) → K τ) : C_Mo_reckon x σ K := by
  intro X28 X50 X61 X77 X90 h28 h50 h61 h77 h90
  have hG := h.1.1
  have hcl := gm_L_cl h.1 hD
  have run : ∀ σ2 : gs_St, σ2 = gs_I (gs_I σ 5 1) 6 x → X28 x 0 σ2 := by
    intro σ2 e2
    have gS : ∀ m f, mr_at G (gs_L (gs_L σ2 2 m) 3 f) := fun m f => h.of (by rw [e2]; rfl) (by rw [e2]; rfl) (by rw [e2]; rfl) (by rw [e2]; rfl)
    have g0 : ∀ m f, (gs_L (gs_L σ2 2 m) 3 f).1 0 = nI G.length := fun m f => (gS m f).2.1
    have lens : ∀ (c n : Nat) (Tc : Nat → Nat → Nat) (m f : Nat → Int64), n + c = 17 → (∀ A p, Tc A p ≤ 1000000000000000001) → (∀ A, A < 8 → ∀ p, p < 17 → m (A * 17 + p) = lN (Tc A p)) → (∀ y, y < 8 → ¬ D y = some 0 → Tc y 0 = 0) → (∀ y p, y < 8 → p < n → gc_st Tc G (fun r => decide (nI r ≠ x)) p y) → X50 x (nI n) (gs_L (gs_L σ2 2 m) 3 f) := by
      intro c
      induction c with
      | zero =>
        intro n Tc m f hn hb hm hem hok
        have hn : n = 17 := hn
        subst hn
        apply h50
        refine br_t (by decide) (kk Tc _ hb ⟨fun A p hA hp => hok A p hA hp, fun A hA he _ => hem A hA he⟩ hm ?_ ?_ (fun k k5 k6 => ?_) ?_ (fun k k2 k3 => ?_))
        · rw [e2]; rfl
        · rw [e2]; rfl
        · rw [e2]
          show (if k = 6 then x else if k = 5 then 1 else σ.1 k) = σ.1 k
          rw [if_neg k6, if_neg k5]
        · rw [e2]; rfl
        · rw [e2]
          show (if k = 3 then f else if k = 2 then m else σ.2.2 k) = σ.2.2 k
          rw [if_neg k3, if_neg k2]
      | succ c ih =>
        intro n Tc m f hn hb hm hem hok
        apply h50
        refine pk_le 17 n (fun z => absurd z (by omega)) (fun _ => ?_)
        -- turns
        have turns : ∀ (c2 t : Nat) (b : Bool) (Tc : Nat → Nat → Nat) (m f : Nat → Int64), t + c2 = 10 → (∀ A p, Tc A p ≤ 1000000000000000001) → (∀ A, A < 8 → ∀ p, p < 17 → m (A * 17 + p) = lN (Tc A p)) → (∀ y, y < 8 → ¬ D y = some 0 → Tc y 0 = 0) → (∀ y p, y < 8 → p < n → gc_st Tc G (fun r => decide (nI r ≠ x)) p y) → (∀ y, y < 8 → rk y < t → gc_st Tc G (fun r => decide (nI r ≠ x)) n y) → (b = false → ∀ y, y < 8 → gc_st Tc G (fun r => decide (nI r ≠ x)) n y) → X61 x (nI n) (bI b) (nI t) (gs_L (gs_L σ2 2 m) 3 f) := by
          intro c2
          induction c2 with
          | zero =>
            intro t b Tc m f ht hb hm hem hok hst hbf
            have ht : t = 10 := ht
            subst ht
            apply h61
            refine br_t (by decide) (nm_r (nI_1 n) (ih (n + 1) Tc m f (by omega) hb hm hem (fun y p hy hp => ?_)))
            by_cases e : p = n
            · rw [e]
              exact hst y hy (by have := hr8 y hy; omega)
            · exact hok y p hy (by omega)
          | succ c2 ih2 =>
            intro t b Tc m f ht hb hm hem hok hst hbf
            apply h61
            refine pk_le 10 t (fun z => absurd z (by omega)) (fun _ => ek_if (bI_0 b) (fun z => nm_r (nI_1 n) (ih (n + 1) Tc m f (by omega) hb hm hem (fun y p hy hp => ?_))) (fun z => ?_))
            · by_cases e : p = n
              · rw [e]
                exact hbf z y hy
              · exact hok y p hy (by omega)
            · -- one turn
              have turn : ∀ (c3 A : Nat) (b : Bool) (Tc : Nat → Nat → Nat) (m f : Nat → Int64), A + c3 = 8 → (∀ A p, Tc A p ≤ 1000000000000000001) → (∀ A, A < 8 → ∀ p, p < 17 → m (A * 17 + p) = lN (Tc A p)) → (∀ y, y < 8 → ¬ D y = some 0 → Tc y 0 = 0) → (∀ y p, y < 8 → p < n → gc_st Tc G (fun r => decide (nI r ≠ x)) p y) → (∀ y, y < 8 → rk y < t → gc_st Tc G (fun r => decide (nI r ≠ x)) n y) → (∀ y, y < A → rk y ≤ t → gc_st Tc G (fun r => decide (nI r ≠ x)) n y) → (b = false → ∀ y, y < A → gc_st Tc G (fun r => decide (nI r ≠ x)) n y) → X77 x (nI n) (bI b) (nI t) (nI A) (gs_L (gs_L σ2 2 m) 3 f) := by
                intro c3
                induction c3 with
                | zero =>
                  intro A b Tc m f hA hb hm hem hok hst hst2 hbf
                  have hA : A = 8 := hA
                  subst hA
                  apply h77
                  exact br_t (by decide) (nm_r (nI_1 t) (ih2 (t + 1) b Tc m f (by omega) hb hm hem hok (fun y hy hy2 => hst2 y hy (by omega)) hbf))
                | succ c3 ih3 =>
                  intro A b Tc m f hA hb hm hem hok hst hst2 hbf
                  have hA8 : A < 8 := by omega
                  apply h77
                  refine pk_le 8 A (fun z => absurd z (by omega)) (fun _ => ?_)
                  have noself : ¬ gg_to G D A A := fun z => by have := hrk A A hA8 hA8 z; omega
                  -- the new table
                  have fin : ∀ (b2 : Bool) (f : Nat → Int64), (b2 = false → b = false ∧ gc_cap (gc_pt Tc G (fun r => decide (nI r ≠ x)) A n G.length) = Tc A n) → ∀ τ : gs_St, τ = gs_L (gs_L (gs_L σ2 2 m) 3 f) 2 (vp_updL ((gs_L (gs_L σ2 2 m) 3 f).2.2 2) (A * 17 + n) (lN (gc_cap (gc_pt Tc G (fun r => decide (nI r ≠ x)) A n G.length)))) → ∀ v11 : Int32, v11 = nI A + 1 → X77 x (nI n) (bI b2) (nI t) v11 τ := by
                    intro b2 f hb2 τ hτ
                    have eτ : τ = gs_L (gs_L σ2 2 (vp_updL m (A * 17 + n) (lN (gc_cap (gc_pt Tc G (fun r => decide (nI r ≠ x)) A n G.length))))) 3 f := by
                      rw [hτ, gs_LLL σ2 2 3 (by decide)]
                      rfl
                    rw [eτ]
                    have hTu : ∀ B, B < 8 → ∀ p, p < 17 → vp_updL m (A * 17 + n) (lN (gc_cap (gc_pt Tc G (fun r => decide (nI r ≠ x)) A n G.length))) (B * 17 + p) = lN (gc_up Tc A n (gc_cap (gc_pt Tc G (fun r => decide (nI r ≠ x)) A n G.length)) B p) := fun B hB p hp => by
                      show (if B * 17 + p = A * 17 + n then _ else m (B * 17 + p)) = _
                      unfold gc_up
                      by_cases e : B = A ∧ p = n
                      · rw [if_pos (by rw [e.1, e.2]), if_pos e]
                      · rw [if_neg (by omega), if_neg e]
                        exact hm B hB p hp
                    by_cases same : gc_cap (gc_pt Tc G (fun r => decide (nI r ≠ x)) A n G.length) = Tc A n
                    · have eT : gc_up Tc A n (gc_cap (gc_pt Tc G (fun r => decide (nI r ≠ x)) A n G.length)) = Tc := by rw [same, gc_up_id]
                      rw [eT] at hTu
                      have hSA : gc_st Tc G (fun r => decide (nI r ≠ x)) n A := same.symm
                      refine nm_r (nI_1 A) (ih3 (A + 1) b2 Tc _ f (by omega) hb hTu hem hok hst (fun y hy hy2 => ?_) (fun z y hy => ?_))
                      · by_cases e : y = A
                        · rw [e]; exact hSA
                        · exact hst2 y (by omega) hy2
                      · by_cases e : y = A
                        · rw [e]; exact hSA
                        · exact hbf (hb2 z).1 y (by omega)
                    · have hb2t : b2 = true := by
                        cases hh : b2 with
                        | true => rfl
                        | false => exact absurd (hb2 hh).2 same
                      have hrA : t ≤ rk A := Classical.byContradiction (fun z => same (hst A hA8 (by omega)).symm)
                      have hem2 : ∀ y, y < 8 → ¬ D y = some 0 → gc_up Tc A n (gc_cap (gc_pt Tc G (fun r => decide (nI r ≠ x)) A n G.length)) y 0 = 0 := fun y hy he => by
                        unfold gc_up
                        split
                        · rename_i q
                          obtain ⟨q1, q2⟩ := q
                          subst q1
                          rw [← q2, gc_pt_zero hcl hem he _ (Nat.le_refl _)]
                          rfl
                        · exact hem y hy he
                      have keep : ∀ y, y < 8 → ¬ gg_to G D y A → gc_pt (gc_up Tc A n (gc_cap (gc_pt Tc G (fun r => decide (nI r ≠ x)) A n G.length))) G (fun r => decide (nI r ≠ x)) y n G.length = gc_pt Tc G (fun r => decide (nI r ≠ x)) y n G.length := fun y hy hno =>
                        gc_pt_same (T := gc_up Tc A n (gc_cap (gc_pt Tc G (fun r => decide (nI r ≠ x)) A n G.length))) (T' := Tc) (D := D) (n := n) h.1 (fun z p _ hp => gc_up_p (by omega)) (fun z hz he => ⟨hem2 z hz he, hem z hz he⟩) (fun z hz hto => gc_up_x (fun e => hno (e ▸ hto))) _ (Nat.le_refl _)
                      have keepS : ∀ y, y < 8 → y ≠ A → rk y ≤ t → gc_st Tc G (fun r => decide (nI r ≠ x)) n y → gc_st (gc_up Tc A n (gc_cap (gc_pt Tc G (fun r => decide (nI r ≠ x)) A n G.length))) G (fun r => decide (nI r ≠ x)) n y := fun y hy hne hyt hs => by
                        unfold gc_st
                        rw [keep y hy (fun z => by have := hrk y A hy hA8 z; omega), gc_up_x hne]
                        exact hs
                      have hSA : gc_st (gc_up Tc A n (gc_cap (gc_pt Tc G (fun r => decide (nI r ≠ x)) A n G.length))) G (fun r => decide (nI r ≠ x)) n A := by
                        unfold gc_st
                        rw [keep A hA8 noself, gc_up_s]
                      refine nm_r (nI_1 A) (ih3 (A + 1) b2 _ _ f (by omega) (fun B p => ?_) hTu hem2 (fun y p hy hp => ?_) (fun y hy hyt => ?_) (fun y hy hyt => ?_) (fun z => by rw [hb2t] at z; exact absurd z.symm Bool.false_ne_true))
                      · unfold gc_up
                        split
                        · exact gc_cap_le _
                        · exact hb B p
                      · unfold gc_st
                        rw [gc_up_p (by omega), gc_pt_upto (T := gc_up Tc A n (gc_cap (gc_pt Tc G (fun r => decide (nI r ≠ x)) A n G.length))) (T' := Tc) (fun z q _ hq => gc_up_p (by omega))]
                        exact hok y p hy hp
                      · by_cases e : y = A
                        · rw [e]; exact hSA
                        · exact keepS y hy e (by omega) (hst y hy hyt)
                      · by_cases e : y = A
                        · rw [e]; exact hSA
                        · exact keepS y (by omega) e hyt (hst2 y (by omega) hyt)
                  have rules : ∀ (c4 r : Nat) (f : Nat → Int64), r + c4 = G.length → X90 x (nI n) (bI b) (nI t) (nI A) (lN (gc_cap (gc_pt Tc G (fun r => decide (nI r ≠ x)) A n r))) (nI r) (gs_L (gs_L σ2 2 m) 3 f) := by
                    intro c4
                    induction c4 with
                    | zero =>
                      intro r f hr
                      have hr : r = G.length := hr
                      subst hr
                      apply h90
                      refine pk_le G.length G.length (fun _ => ?_) (fun z => absurd z (by omega)) (g0 m f)
                      have em : (gs_L (gs_L σ2 2 m) 3 f).2.2 2 (A * 17 + n) = lN (Tc A n) := hm A hA8 n (by omega)
                      have vi : vp_in (nI (A * 17 + n)) 136 := vp_in_nI (by omega) (by decide)
                      rw [n_17, nI_clamp (by omega), em]
                      refine ek_if (bI_n0 b) (fun z => ⟨vi, fin true f (fun y => absurd y.symm Bool.false_ne_true)⟩) (fun z => ⟨vi, ?_⟩)
                      have hbfalse : b = false := by
                        cases hh : b with
                        | true => exact absurd hh z
                        | false => rfl
                      have hbt := hb A n
                      have hct := gc_cap_le (gc_pt Tc G (fun r => decide (nI r ≠ x)) A n G.length)
                      refine ek_if (pk_lEQ (by omega) (by omega)) (fun y => ⟨vi, fin false f (fun _ => ⟨hbfalse, y⟩)⟩) (fun y => ⟨vi, fin true f (fun w => absurd w.symm Bool.false_ne_true)⟩)
                    | succ c4 ih4 =>
                      intro r f hr
                      have hr' : r < G.length := by omega
                      obtain ⟨hl8, hz, h24⟩ := h.1.2 r hr'
                      have enx : gc_pt Tc G (fun r => decide (nI r ≠ x)) A n (r + 1) = gc_pt Tc G (fun r => decide (nI r ≠ x)) A n r + (if decide (nI r ≠ x) = true ∧ gg_l G r = A then gc_E Tc (gg_y G r) n else 0) := rfl
                      have pass : ¬ (decide (nI r ≠ x) = true ∧ gg_l G r = A) → ∀ v : Int32, v = nI r + 1 → X90 x (nI n) (bI b) (nI t) (nI A) (lN (gc_cap (gc_pt Tc G (fun r => decide (nI r ≠ x)) A n r))) v (gs_L (gs_L σ2 2 m) 3 f) := fun hno => by
                        have enx2 : gc_pt Tc G (fun r => decide (nI r ≠ x)) A n (r + 1) = gc_pt Tc G (fun r => decide (nI r ≠ x)) A n r := enx.trans (by rw [if_neg hno]; rfl)
                        rw [← enx2]
                        exact nm_r (nI_1 r) (ih4 (r + 1) f (by omega))
                      apply h90
                      refine pk_le G.length r (fun z => absurd z (by omega)) (fun _ => ⟨vp_in_nI (by omega) (by decide), ?_⟩) (g0 m f)
                      have el : (gs_L (gs_L σ2 2 m) 3 f).2.1 0 r = nI (gg_l G r) := ((gS m f).2.2 r hr').1
                      rw [nI_clamp (by omega), el]
                      refine ek_if (not_congr (nI_eq (by omega) (by omega))) (fun z => pass (fun y => z y.2)) (fun z => ⟨fun y => pass (fun w => absurd y (of_decide_eq_true w.1)), fun y => ?_⟩)
                      have z : gg_l G r = A := Classical.byContradiction z
                      rw [if_pos ⟨decide_eq_true y, z⟩] at enx
                      refine n_fill (T := Tc) (N := 17) (gS m f) hr' (by omega) (by decide) hm hb (fun f2 hf2 => ?_)
                      rw [gs_LL]
                      refine ⟨vp_in_nI (by omega) (by decide), ?_⟩
                      have e0 : (gs_L (gs_L σ2 2 m) 3 f2).2.2 3 n = lN (gc_E Tc (gg_y G r) n) := by
                        have := hf2 0 (Nat.zero_le _) n (Nat.le_refl _)
                        rw [Nat.zero_mul, Nat.zero_add] at this
                        exact this
                      rw [nI_clamp (by omega), e0]
                      refine n_sum (gc_cap_le _) (gc_E_le _ _ _) ?_
                      rw [gc_cap_add, ← enx]
                      exact nm_r (nI_1 r) (ih4 (r + 1) f2 (by omega))
                  exact rules G.length 0 f (by omega)
              exact turn 8 0 false Tc m f rfl hb hm hem hok hst (fun y hy => absurd hy (Nat.not_lt_zero _)) (fun _ y hy => absurd hy (Nat.not_lt_zero _))
        exact turns 10 0 true Tc m f rfl hb hm hem hok (fun y _ hy => absurd hy (Nat.not_lt_zero _)) (fun z => absurd z.symm Bool.false_ne_true)
    have zero : ∀ (c i : Nat) (m : Nat → Int64), i + c = 136 → (∀ j, j < i → m j = 0) → X28 x (nI i) (gs_L σ2 2 m) := by
      intro c
      induction c with
      | zero =>
        intro i m hi hm
        have hi : i = 136 := hi
        subst hi
        apply h28
        refine br_t (by decide) ?_
        have := lens 17 0 (fun _ _ => 0) m ((gs_L σ2 2 m).2.2 3) rfl (fun _ _ => Nat.zero_le _) (fun A hA p hp => hm _ (by omega)) (fun _ _ _ => rfl) (fun y p _ hp => absurd hp (Nat.not_lt_zero _))
        rw [gs_Lid] at this
        exact this
      | succ c ih =>
        intro i m hi hm
        apply h28
        refine pk_le 136 i (fun z => absurd z (by omega)) (fun _ => ⟨vp_in_nI (by omega) (by decide), ?_⟩)
        rw [nI_clamp (by omega)]
        intro τ hτ
        have eτ : τ = gs_L σ2 2 (vp_updL m i 0) := by
          rw [hτ, gs_LL]
          rfl
        rw [eτ]
        refine nm_r (nI_1 i) (ih (i + 1) _ (by omega) (fun j hj => ?_))
        show (if j = i then (0 : Int64) else m j) = 0
        by_cases e : j = i
        · rw [if_pos e]
        · rw [if_neg e]
          exact hm j (by omega)
    have := zero 136 0 (σ2.2.2 2) rfl (fun j hj => absurd hj (Nat.not_lt_zero _))
    rw [gs_Lid] at this
    exact this
  refine ⟨fun _ => fun σ1 e1 σ2 e2 => run σ2 (by rw [e2, e1]), fun hne => ⟨fun _ => fun σ1 e1 σ2 e2 => run σ2 (by rw [e2, e1]), fun heq => ?_⟩⟩
  have heq : σ.1 6 = x := Classical.byContradiction heq
  rcases hk with z | ⟨z, D2, T, q1, q2, q3, q4⟩
  · exact absurd z hne
  · rw [heq] at q3
    have hDD := gm_L_eq hD q1
    refine kk T σ q2 ⟨q3.1, fun A hA he => q3.2 A hA (fun w => he (by show D A = some 0; rw [hDD A hA]; exact w))⟩ q4 z heq (fun _ _ _ => rfl) rfl (fun _ _ _ => rfl)
end M2F
end
section
/-! Layer 2 of the reference, part g: trees, treesWith; one table only. -/
theorem gc_pt_kp {T : Nat → Nat → Nat} {G : gg_R} {kp kp' : Nat → Bool} {A n : Nat} : ∀ r, (∀ q, q < r → kp q = kp' q) → gc_pt T G kp A n r = gc_pt T G kp' A n r
  | 0, _ => rfl
  | r + 1, h => by
    show gc_pt T G kp A n r + (if kp r = true ∧ gg_l G r = A then gc_E T (gg_y G r) n else 0) = gc_pt T G kp' A n r + (if kp' r = true ∧ gg_l G r = A then gc_E T (gg_y G r) n else 0)
    rw [gc_pt_kp r (fun q hq => h q (by omega)), h r (by omega)]
theorem gc_okk_kp {em : Nat → Prop} {G : gg_R} {kp kp' : Nat → Bool} {T : Nat → Nat → Nat} {N : Nat} (hk : ∀ q, q < G.length → kp q = kp' q) (h : gc_okk em G kp T N) : gc_okk em G kp' T N := ⟨fun A n hA hn => by rw [← gc_pt_kp _ hk]; exact h.1 A n hA hn, h.2⟩
theorem gc_okk_em {D D' : Nat → Option Nat} {G : gg_R} {kp : Nat → Bool} {T : Nat → Nat → Nat} {N : Nat} (hD : ∀ A, A < 8 → D A = D' A) (h : gc_okk (fun y => D y = some 0) G kp T N) : gc_okk (fun y => D' y = some 0) G kp T N := ⟨h.1, fun A hA he => h.2 A hA (fun z => he (by show D' A = some 0; rw [← hD A hA]; exact z))⟩
theorem kp_m1 {G : gg_R} (hG : gg_ok G) : ∀ q, q < G.length → decide (nI q ≠ (-1 : Int32)) = (fun _ : Nat => true) q := fun q hq => decide_eq_true (fun z => absurd (z ▸ (by decide : (-1 : Int32) < 0)) (nI_pos (by have := hG.1; omega)))
theorem gg_ord_ex (T : Nat → Nat → Prop) : ∃ o c, gg_ord T o c ∧ (8 ≤ c ∨ gg_stk T o c) := by
  have key : ∀ (k : Nat) (o : Nat → Nat) (c : Nat), 8 - c ≤ k → gg_ord T o c → ∃ o c, gg_ord T o c ∧ (8 ≤ c ∨ gg_stk T o c) := by
    intro k
    induction k with
    | zero => exact fun o c hk ho => ⟨o, c, ho, Or.inl (by omega)⟩
    | succ k ih =>
      intro o c hk ho
      by_cases hs : gg_stk T o c
      · exact ⟨o, c, ho, Or.inr hs⟩
      · by_cases h8 : 8 ≤ c
        · exact ⟨o, c, ho, Or.inl h8⟩
        · have ex : ∃ A, A < 8 ∧ (∀ j, j < c → o j ≠ A) ∧ ∀ x, x < 8 → T A x → ∃ j, j < c ∧ o j = x := Classical.byContradiction (fun z => hs (fun A hA hn => Classical.byContradiction (fun y => z ⟨A, hA, hn, fun x hx hT => Classical.byContradiction (fun w => y ⟨x, hx, hT, fun j hj e => w ⟨j, hj, e⟩⟩)⟩)))
          obtain ⟨A, hA, hn, ht⟩ := ex
          exact ih _ (c + 1) (by omega) (gg_ord_add ho hA hn ht)
  exact key 8 (fun _ => 0) 0 (by omega) ⟨fun j hj => absurd hj (Nat.not_lt_zero _), fun i j _ hj => absurd hj (Nat.not_lt_zero _), fun j hj => absurd hj (Nat.not_lt_zero _)⟩
theorem gg_rank8 {T : Nat → Nat → Prop} {o : Nat → Nat} (h : gg_ord T o 8) : ∃ rk : Nat → Nat, (∀ A x, A < 8 → x < 8 → T A x → rk x < rk A) ∧ ∀ A, A < 8 → rk A < 8 := by
  have all := gg_ord_all h (Nat.le_refl 8)
  have ex : ∀ A, ∃ j, A < 8 → j < 8 ∧ o j = A := fun A => by
    by_cases hA : A < 8
    · obtain ⟨j, h1, h2⟩ := all A hA
      exact ⟨j, fun _ => ⟨h1, h2⟩⟩
    · exact ⟨0, fun z => absurd z hA⟩
  refine ⟨fun A => Classical.choose (ex A), fun A x hA hx hT => ?_, fun A hA => (Classical.choose_spec (ex A) hA).1⟩
  obtain ⟨a1, a2⟩ := Classical.choose_spec (ex A) hA
  obtain ⟨b1, b2⟩ := Classical.choose_spec (ex x) hx
  show Classical.choose (ex x) < Classical.choose (ex A)
  revert a1 a2 b1 b2
  generalize Classical.choose (ex A) = i
  generalize Classical.choose (ex x) = j
  intro a1 a2 b1 b2
  rw [← a2] at hT
  obtain ⟨k, h1, h2⟩ := h.2.2 i a1 x hx hT
  rcases Nat.lt_or_ge k j with q | q
  · exact absurd (h2.trans b2.symm) (h.2.1 k j q b1)
  · omega
/-- two tables of the same grammar -/
theorem gc_two {G : gg_R} {D D' : Nat → Option Nat} {o : Nat → Nat} {kp : Nat → Bool} {T T' : Nat → Nat → Nat} {N N' : Nat} (hG : gg_ok G) (hD : gm_L G D) (hD' : gm_L G D') (ho : gg_ord (gg_to G D) o 8) (h : gc_okk (fun y => D y = some 0) G kp T N) (h' : gc_okk (fun y => D' y = some 0) G kp T' N') : ∀ n, n < N → n < N' → ∀ A, A < 8 → T A n = T' A n := by
  obtain ⟨rk, hrk, -⟩ := gg_rank8 ho
  exact gc_onek hG rk hrk h (gc_okk_em (gm_L_eq hD' hD) h')
theorem an_tab_one {G : gg_R} {kp : Nat → Bool} {A n v v' : Nat} (hG : gg_ok G) (hA : A < 8) (h : an_tab G kp A n v) (h' : an_tab G kp A n v') : v = v' := by
  obtain ⟨D, o, T, N, h1, h2, h3, h4, h5⟩ := h
  obtain ⟨D', o', T', N', g1, g2, g3, g4, g5⟩ := h'
  rw [h5, g5]
  exact gc_two hG h1 g1 h2 h3 g3 n h4 g4 A hA
theorem an_circ_M {G : gg_R} {P : Prop} {b : Bool} (h : an_circ G P) (h' : an_circM G b) : b = true ↔ P := by
  obtain ⟨D, o, c, h1, h2, h3, h4⟩ := h
  rw [h4]
  exact h' D o c h1 h2 h3
section M2G
variable {G : gg_R} {σ : gs_St} {t : List Nat} {l : List Int32} {d v : List Nat}
theorem n_isLength {y : Int32} {K : Int32 → gs_St → Prop} (k0 : (∀ n, n ≤ 16 → y ≠ nI n) → K 0 σ) (k1 : ∀ n, n ≤ 16 → y = nI n → K 1 σ) : C_Mo_isLength y σ K := by
  rcases pk_ix y (n := 17) (by decide) with q | q | ⟨n, hn, rfl⟩
  · exact ⟨fun _ => k0 (fun n hn e => absurd (e ▸ q) (nI_pos (by omega))), fun z => absurd q z⟩
  · have hno : ∀ n, n ≤ 16 → y ≠ nI n := fun n hn e => absurd (e ▸ q) (nI_ge (by omega) (by decide))
    exact ⟨fun _ => k0 hno, fun _ => ⟨fun _ => k0 hno, fun z => absurd q z⟩⟩
  · exact ⟨fun q => absurd q (nI_pos (by omega)), fun _ => ⟨fun q => absurd q (nI_ge hn (by decide)), fun _ => k1 n (by omega) rfl⟩⟩
/-- circle, and nothing that lasts has changed -/
theorem n_circ {K : Int32 → gs_St → Prop} (h : ml_at t G l d v σ) (k1 : ∀ τ, ml_at t G l d v τ → an_circM G true → K 1 τ) (k0 : ∀ τ, ml_at t G l d v τ → an_circM G false → K 0 τ) : C_Mo_circle σ K := by
  refine n_circle h.2.1 (fun b e f hb => ?_)
  have hml : ml_at t G l d v (gs_A (gs_A σ 7 e) 8 f) := ⟨h.1.of rfl rfl, h.2.1.of rfl rfl rfl rfl, h.2.2.1.of rfl rfl, h.2.2.2.1.of rfl rfl rfl rfl, h.2.2.2.2.elim Or.inl (fun z => Or.inr ⟨z.1, z.2.of rfl rfl⟩)⟩
  cases b with
  | true => exact k1 _ hml hb
  | false => exact k0 _ hml hb
/-- reckon, where there is no circle -/
theorem n_reck {x : Int32} {K : gs_St → Prop} (h : ml_at t G l d v σ) (hc : an_circM G false) (kk : ∀ D o T τ, ml_at t G l d v τ → gm_L G D → gg_ord (gg_to G D) o 8 → (∀ A p, T A p ≤ 1000000000000000001) → gc_okk (fun y => D y = some 0) G (fun r => decide (nI r ≠ x)) T 17 → mt_at T 17 τ → τ.1 5 = 1 → τ.1 6 = x → K τ) : C_Mo_reckon x σ K := by
  obtain ⟨D, hD⟩ := gm_L_ex G
  obtain ⟨o, c, ho, hst⟩ := gg_ord_ex (gg_to G D)
  have hc8 : ¬ c < 8 := fun z => absurd ((hc D o c hD ho hst).mpr z) Bool.false_ne_true
  have hle := gg_ord_le ho
  have e8 : c = 8 := by omega
  subst e8
  obtain ⟨rk, hrk, hr8⟩ := gg_rank8 ho
  refine n_reckon h.2.1 h.2.2.2.2 hD hrk hr8 (fun T τ hb hok hm h5 h6 hI hA hL => ?_)
  refine kk D o T τ ⟨h.1.of (hI 1 (by decide) (by decide)) (by rw [hA]), h.2.1.of (hI 0 (by decide) (by decide)) (by rw [hA]) (by rw [hA]) (by rw [hA]), h.2.2.1.of (hI 2 (by decide) (by decide)) (by rw [hA]), h.2.2.2.1.of (hI 3 (by decide) (by decide)) (hI 4 (by decide) (by decide)) (by rw [hA]) (by rw [hA]), Or.inr ⟨h5, D, T, hD, hb, ?_, hm⟩⟩ hD ho hb hok hm h5 h6
  rw [h6]
  exact hok
theorem n_trees {x y : Int32} {K : Int64 → gs_St → Prop} (h : ml_at t G l d v σ)
    (k0 : ∀ τ, ml_at t G l d v τ → ((∀ j, j < 8 → x ≠ nI j) ∨ (∀ n, n ≤ 16 → y ≠ nI n) ∨ an_circM G true) → K (-1) τ)
    (k1 : ∀ j, j < 8 → x = nI j → ∀ n, n ≤ 16 → y = nI n → an_circM G false → ∀ D o T τ, ml_at t G l d v τ → gm_L G D → gg_ord (gg_to G D) o 8 → (∀ A p, T A p ≤ 1000000000000000001) → gc_okk (fun y => D y = some 0) G (fun _ => true) T 17 → mt_at T 17 τ → K (if T j n ≤ 1000000000000000000 then lN (T j n) else -2) τ) : C_Mo_trees x y σ K := by
  refine n_isNt (fun j hj e => ?_) (fun hno => br_t rfl (k0 σ h (Or.inl hno)))
  subst e
  refine br_f (by decide) (n_isLength (fun hno => br_t rfl (k0 σ h (Or.inr (Or.inl hno)))) (fun n hn e => ?_))
  subst e
  refine br_f (by decide) (n_circ h (fun τ hτ hc => br_f (by decide) (k0 τ hτ (Or.inr (Or.inr hc)))) (fun τ hτ hc => br_t rfl ?_))
  refine n_reck hτ hc (fun D o T τ2 hτ2 hD ho hb hok hm h5 h6 => ?_)
  refine n_of (T := T) (N := 17) (by omega) (by decide) (by omega) hm ?_
  have hF : gd_F T j n = T j n := by unfold gd_F; rw [if_pos hj]
  rw [hF, gl_18]
  have hbn := hb j n
  have := k1 j hj rfl n hn rfl hc D o T τ2 hτ2 hD ho hb (gc_okk_kp (kp_m1 h.2.1.1) hok) hm
  refine ek_if (pk_lLE (by omega) (by decide)) (fun q => ?_) (fun q => ?_)
  · rw [if_pos q] at this
    exact this
  · rw [if_neg q] at this
    exact this
theorem n_treesWith {x y : Int32} {K : Int64 → gs_St → Prop} (h : ml_at t G l d v σ)
    (k0 : ∀ τ, ml_at t G l d v τ → ((∀ r, r < G.length → x ≠ nI r) ∨ (∀ n, n ≤ 16 → y ≠ nI n) ∨ an_circM G true) → K (-1) τ)
    (k1 : ∀ r, r < G.length → x = nI r → ∀ n, n ≤ 16 → y = nI n → an_circM G false → ∀ τ a, ml_at t G l d v τ → an_tab G (fun _ => true) 0 n a → 1000000000000000000 < a → K (-2) τ)
    (k2 : ∀ r, r < G.length → x = nI r → ∀ n, n ≤ 16 → y = nI n → an_circM G false → ∀ τ a b, ml_at t G l d v τ → an_tab G (fun _ => true) 0 n a → a ≤ 1000000000000000000 → an_tab G (fun q => decide (nI q ≠ nI r)) 0 n b → K (lN a - lN b) τ) : C_Mo_treesWith x y σ K := by
  refine n_isRule h.2.1 (fun r hr e => ?_) (fun hno => br_t rfl (k0 σ h (Or.inl hno)))
  subst e
  refine br_f (by decide) (n_isLength (fun hno => br_t rfl (k0 σ h (Or.inr (Or.inl hno)))) (fun n hn e => ?_))
  subst e
  refine br_f (by decide) (n_circ h (fun τ hτ hc => br_f (by decide) (k0 τ hτ (Or.inr (Or.inr hc)))) (fun τ hτ hc => br_t rfl ?_))
  refine n_trees (x := 0) (y := nI n) hτ (fun τ2 hτ2 hno => ?_) (fun j hj ej n2 hn2 en hcf D o T τ2 hτ2 hD ho hb hok hm => ?_)
  · rcases hno with z | z | z
    · exact absurd rfl (z 0 (by decide))
    · exact absurd rfl (z n hn)
    · obtain ⟨D, hD⟩ := gm_L_ex G
      obtain ⟨o, c, ho, hst⟩ := gg_ord_ex (gg_to G D)
      have a := hc D o c hD ho hst
      have b := z D o c hD ho hst
      exact absurd (a.mpr (b.mp rfl)) Bool.false_ne_true
  · have ej : j = 0 := ((nI_eq (a := 0) (b := j) (by decide) (by omega)).mp ej).symm
    have en : n2 = n := ((nI_eq (by omega) (by omega)).mp en).symm
    subst ej
    subst en
    have hbn := hb 0 n2
    have tab : an_tab G (fun _ => true) 0 n2 (T 0 n2) := ⟨D, o, T, 17, hD, ho, hok, by omega, rfl⟩
    by_cases q : T 0 n2 ≤ 1000000000000000000
    · rw [if_pos q]
      have hle : (0 : Int64) ≤ lN (T 0 n2) := (pk_lLE (a := 0) (b := T 0 n2) (by decide) (by omega)).mpr (Nat.zero_le _)
      refine br_t hle (n_reck hτ2 hc (fun D2 o2 T2 τ3 hτ3 hD2 ho2 hb2 hok2 hm2 h5 h6 => ?_))
      refine n_of (s := 0) (T := T2) (N := 17) (by decide) (by decide) (by omega) hm2 ?_
      have hF : gd_F T2 0 n2 = T2 0 n2 := by unfold gd_F; rw [if_pos (by decide)]
      rw [hF]
      exact k2 r hr rfl n2 hn rfl hc τ3 _ _ hτ3 tab q ⟨D2, o2, T2, 17, hD2, ho2, hok2, by omega, rfl⟩
    · rw [if_neg q]
      exact br_f (by decide) (k1 r hr rfl n2 hn rfl hc τ2 _ hτ2 tab (by omega))
end M2G
end
section
/-! Layer 2 of the reference, part h: split and draw. -/
def fr_m (σ τ : gs_St) : Prop := (∀ k, k ≠ 7 → τ.1 k = σ.1 k) ∧ (∀ k, k ≠ 9 → k ≠ 10 → k ≠ 13 → τ.2.1 k = σ.2.1 k) ∧ ∀ k, k ≠ 3 → k ≠ 4 → k ≠ 5 → τ.2.2 k = σ.2.2 k
theorem fr_m.rf {σ : gs_St} : fr_m σ σ := ⟨fun _ _ => rfl, fun _ _ _ _ => rfl, fun _ _ _ _ => rfl⟩
theorem fr_m.tr {σ τ ρ : gs_St} (h : fr_m σ τ) (h' : fr_m τ ρ) : fr_m σ ρ := ⟨fun k a => (h'.1 k a).trans (h.1 k a), fun k a b c => (h'.2.1 k a b c).trans (h.2.1 k a b c), fun k a b c => (h'.2.2 k a b c).trans (h.2.2 k a b c)⟩
theorem fr_m.I {σ : gs_St} {v : Int32} : fr_m σ (gs_I σ 7 v) := ⟨fun j a => if_neg a, fun _ _ _ _ => rfl, fun _ _ _ _ => rfl⟩
theorem fr_m.A {σ : gs_St} {k : Nat} {f : Nat → Int32} (hk : k = 9 ∨ k = 10 ∨ k = 13) : fr_m σ (gs_A σ k f) := ⟨fun _ _ => rfl, fun j a b c => if_neg (by omega), fun _ _ _ _ => rfl⟩
theorem fr_m.L {σ : gs_St} {k : Nat} {f : Nat → Int64} (hk : k = 3 ∨ k = 4 ∨ k = 5) : fr_m σ (gs_L σ k f) := ⟨fun _ _ => rfl, fun _ _ _ _ => rfl, fun j a b c => if_neg (by omega)⟩
theorem fr_m.mr {G : gg_R} {σ τ : gs_St} (h : fr_m σ τ) (hg : mr_at G σ) : mr_at G τ := hg.of (h.1 0 (by decide)) (h.2.1 0 (by decide) (by decide) (by decide)) (h.2.1 1 (by decide) (by decide) (by decide)) (h.2.1 2 (by decide) (by decide) (by decide))
theorem fr_m.mt {T : Nat → Nat → Nat} {N : Nat} {σ τ : gs_St} (h : fr_m σ τ) (ht : mt_at T N σ) : mt_at T N τ := fun A hA p hp => by
  rw [h.2.2 2 (by decide) (by decide) (by decide)]
  exact ht A hA p hp
def qc_at (τ : gs_St) (j : Nat) (e : Nat × Nat × Nat) : Prop := τ.2.1 9 j = nI e.1 ∧ τ.2.1 10 j = nI e.2.1 ∧ τ.2.2 4 j = lN e.2.2
def qi_at (p : List (Nat × Nat × Nat)) (τ : gs_St) : Prop := ∀ k e, p[k]? = some e → qc_at τ (p.length - 1 - k) e
section M2H
variable {G : gg_R} {σ : gs_St} {T : Nat → Nat → Nat}
theorem n_put {c s a b : Nat} {K : gs_St → Prop} (h7 : σ.1 7 = nI c) (hc : c < 1300) (kk : ∀ τ, fr_m σ τ → τ.1 7 = nI (c + 1) → qc_at τ c (s, a, b) → (∀ i e, i ≠ c → qc_at σ i e → qc_at τ i e) → τ.2.1 13 = σ.2.1 13 → τ.2.2 5 = σ.2.2 5 → τ.2.2 3 = σ.2.2 3 → K τ) : C_Mo_put (nI s) (nI a) (lN b) σ K := by
  unfold C_Mo_put
  have hv : vp_in (nI c) 1300 := vp_in_nI hc (by decide)
  rw [h7]
  refine ⟨hv, ?_⟩
  rw [nI_clamp (by omega)]
  intro σ1 e1
  have a1 : σ1.1 7 = nI c := by rw [e1]; exact h7
  rw [a1]
  refine ⟨hv, ?_⟩
  rw [nI_clamp (by omega)]
  intro σ2 e2
  have a2 : σ2.1 7 = nI c := by rw [e2]; exact a1
  rw [a2]
  refine ⟨hv, ?_⟩
  rw [nI_clamp (by omega)]
  intro σ3 e3 σ4 e4
  have f9 : σ4.2.1 9 = upd (σ.2.1 9) c (nI s) := by rw [e4, e3, e2, e1]; rfl
  have f10 : σ4.2.1 10 = upd (σ.2.1 10) c (nI a) := by rw [e4, e3, e2, e1]; rfl
  have f4 : σ4.2.2 4 = vp_updL (σ.2.2 4) c (lN b) := by rw [e4, e3, e2, e1]; rfl
  refine kk σ4 ?_ ?_ ⟨?_, ?_, ?_⟩ (fun i e hi he => ⟨?_, ?_, ?_⟩) (by rw [e4, e3, e2, e1]; rfl) (by rw [e4, e3, e2, e1]; rfl) (by rw [e4, e3, e2, e1]; rfl)
  · rw [e4, e3, e2, e1]
    exact (((fr_m.A (Or.inl rfl)).tr (fr_m.A (Or.inr (Or.inl rfl)))).tr (fr_m.L (Or.inr (Or.inl rfl)))).tr fr_m.I
  · rw [e4]
    show σ3.1 7 + 1 = _
    rw [e3]
    show σ2.1 7 + 1 = _
    rw [a2, nI_1]
  · rw [f9]; exact pk_us
  · rw [f10]; exact pk_us
  · rw [f4]; exact pk_uLs
  · rw [f9, pk_un hi]; exact he.1
  · rw [f10, pk_un hi]; exact he.2.1
  · rw [f4, pk_uLn hi]; exact he.2.2
theorem n_split {A n m : Nat} {p : List (Nat × Nat × Nat)} {K : Int32 → gs_St → Prop} (h : mr_at G σ) (hA : A < 8) (hn : n ≤ 16) (hT : mt_at T 17 σ) (hTb : ∀ A p, T A p ≤ 1000000000000000001) (hok : gd_ok G T 17) (hmT : m < T A n) (hTA : T A n ≤ 1000000000000000000) (h7 : σ.1 7 = nI p.length) (hp : p.length < 1290) (hpi : qi_at p σ)
    (kk : ∀ r m' τ, gd_pk T G A n G.length 0 m = some (r, m') → r < G.length → m' < gc_E T (gg_y G r) n → gc_E T (gg_y G r) n ≤ 1000000000000000000 → fr_m σ τ → τ.1 7 = nI (gd_sp T (gg_y G r) n m' ++ p).length → qi_at (gd_sp T (gg_y G r) n m' ++ p) τ → K (nI r) τ) : C_Mo_split (nI A) (nI n) (lN m) σ K := by
  intro X9 X52 X91 X140 X206 X276 h9 h52 h91 h140 h206 h276
  have hG := h.1.1
  have hok' := hok A n hA (by omega)
  rw [hok'] at hmT hTA
  obtain ⟨c1, c2⟩ := gc_cap_small hTA
  rw [c1] at hmT
  -- onto the pile
  have push : ∀ (r : Nat) (cs : List (Nat × Nat × Nat)), r < G.length → cs.length = (gg_y G r).length → cs.map (fun e => e.1) = gg_y G r → (∀ τ, fr_m σ τ → τ.1 7 = nI (cs ++ p).length → qi_at (cs ++ p) τ → K (nI r) τ) → ∀ (c : Nat) (τ : gs_St), c ≤ cs.length → fr_m σ τ → τ.1 7 = nI (cs.drop c ++ p).length → qi_at (cs.drop c ++ p) τ → (∀ i e, cs[i]? = some e → τ.2.1 13 i = nI e.2.1 ∧ τ.2.2 5 i = lN e.2.2) → X276 (nI r) (nI c - 1) τ := by
    intro r cs hr hlen hmap hK c
    obtain ⟨hl8, hz, h24⟩ := h.1.2 r hr
    induction c with
    | zero =>
      intro τ hc hfr h7 hqi hpt
      apply h276
      exact br_t (by decide) (hK τ hfr h7 hqi)
    | succ c ih =>
      intro τ hc hfr h7 hqi hpt
      have hc' : c < cs.length := by omega
      have hi' : c < (gg_y G r).length := by omega
      have ecs : cs[c]? = some cs[c] := List.getElem?_eq_getElem hc'
      have esym : (gg_y G r).getD c 0 = cs[c].1 := by
        rw [← hmap, List.getD_eq_getElem?_getD, List.getElem?_map, ecs]
        rfl
      have edrop : cs.drop c = cs[c] :: cs.drop (c + 1) := List.drop_eq_getElem_cons hc'
      have hdl : (cs.drop (c + 1)).length ≤ 6 := by rw [List.length_drop]; omega
      rw [nI_pred]
      apply h276
      refine br_f (nI_pos (by omega)) ?_
      refine n_at (hfr.mr h) hr hi' ⟨vp_in_nI (by omega) (by decide), vp_in_nI (by omega) (by decide), ?_⟩
      obtain ⟨q1, q2⟩ := hpt c _ ecs
      rw [nI_clamp (by omega), q1, q2, esym]
      refine n_put h7 (by rw [List.length_append]; omega) (fun τ2 f2 g7 gc go g13 g5 g3 => ?_)
      rw [gv_m1]
      refine nm_e (ih τ2 (by omega) (hfr.tr f2) ?_ (fun k e hk => ?_) (fun i e hi => by rw [g13, g5]; exact hpt i e hi))
      · rw [g7, edrop]
        rfl
      · rw [edrop] at hk ⊢
        show qc_at τ2 ((cs.drop (c + 1) ++ p).length + 1 - 1 - k) e
        cases k with
        | zero =>
          injection hk with hk
          rw [← hk, show (cs.drop (c + 1) ++ p).length + 1 - 1 - 0 = (cs.drop (c + 1) ++ p).length by omega]
          exact gc
        | succ k =>
          have hk : (cs.drop (c + 1) ++ p)[k]? = some e := hk
          have hkl : k < (cs.drop (c + 1) ++ p).length := (List.getElem?_eq_some_iff.mp hk).1
          rw [show (cs.drop (c + 1) ++ p).length + 1 - 1 - (k + 1) = (cs.drop (c + 1) ++ p).length - 1 - k by omega]
          exact go _ e (by omega) (hqi k e hk)
  -- the parts
  have parts : ∀ (r m' : Nat), gd_pk T G A n G.length 0 m = some (r, m') → r < G.length → m' < gc_E T (gg_y G r) n → gc_E T (gg_y G r) n ≤ 1000000000000000000 → ∀ τ : gs_St, fr_m σ τ → τ.1 7 = nI p.length → qi_at p τ → mb_at T (gg_y G r) n τ → X91 (lN m') (nI r) (nI n) 0 τ := by
    intro r m' hpk hr hm' hmb τ hfr h7' hqi hmbt
    obtain ⟨hl8, hz, h24⟩ := h.1.2 r hr
    obtain ⟨s1, s2, s3⟩ := gd_sp_ok _ _ _ hm' hmb
    have hspl : (gd_sp T (gg_y G r) n m').length = (gg_y G r).length := by rw [← List.length_map (f := fun e : Nat × Nat × Nat => e.1), s3]
    have vr : vp_in (nI r) 24 := vp_in_nI (by omega) (by decide)
    have key : ∀ (zs : List Nat) (i nl ml : Nat) (c : List (Nat × Nat × Nat)) (τ : gs_St), (gg_y G r).drop i = zs → i + zs.length = (gg_y G r).length → c.length = i → c ++ gd_sp T zs nl ml = gd_sp T (gg_y G r) n m' → nl ≤ n → ml < gc_E T zs nl → gc_E T zs nl ≤ 1000000000000000000 → fr_m σ τ → τ.1 7 = nI p.length → qi_at p τ → mb_at T (gg_y G r) n τ → (∀ j e, c[j]? = some e → τ.2.1 13 j = nI e.2.1 ∧ τ.2.2 5 j = lN e.2.2) → X91 (lN ml) (nI r) (nI nl) (nI i) τ := by
      intro zs
      induction zs with
      | nil =>
        intro i nl ml c τ hd hi hc hsp hnl hml hmlb hfr h7' hqi hmbt hpt
        have hi : i = (gg_y G r).length := hi
        have hsp : c ++ [] = gd_sp T (gg_y G r) n m' := hsp
        rw [List.append_nil] at hsp
        apply h91
        have es : τ.2.1 1 r = nI (gg_y G r).length := ((hfr.mr h).2.2 r hr).2.1
        refine ⟨vr, ?_⟩
        rw [nI_clamp (by omega), es]
        refine pk_le (gg_y G r).length i (fun _ => ⟨vr, nm_e ?_⟩) (fun q => absurd q (by omega))
        rw [← hspl]
        have hdn : (gd_sp T (gg_y G r) n m').drop (gd_sp T (gg_y G r) n m').length = [] := List.drop_eq_nil_iff.mpr (Nat.le_refl _)
        exact push r (gd_sp T (gg_y G r) n m') hr hspl s3 (fun τ2 f2 g7 gq => kk r m' τ2 hpk hr hm' hmb f2 g7 gq) _ τ (Nat.le_refl _) hfr (by rw [hdn]; exact h7') (by rw [hdn]; exact hqi) (by rw [← hsp]; exact hpt)
      | cons s zs ih =>
        intro i nl ml c τ hd hi hc hsp hnl hml hmlb hfr h7' hqi hmbt hpt
        obtain ⟨h1, h2, h3⟩ := gg_cons hd
        have hi : i + (zs.length + 1) = (gg_y G r).length := hi
        have hs24 := h24 i h1
        rw [h2] at hs24
        have hgr := hfr.mr h
        have hgt := hfr.mt hT
        have es : τ.2.1 1 r = nI (gg_y G r).length := (hgr.2.2 r hr).2.1
        have hEsum := gc_E_sum T s zs nl
        rw [hEsum] at hml hmlb
        obtain ⟨d1, d2⟩ := gc_cap_small hmlb
        rw [d1] at hml
        obtain ⟨p1, p2⟩ := gd_pt_ok d2 nl 0 ml (by omega) (by show ml + 0 < _; omega)
        have hbeh : ∀ q, q ≤ nl → τ.2.2 3 ((i + 1) * 17 + (nl - q)) = lN (gc_E T zs (nl - q)) := fun q hq => by
          rw [hmbt (i + 1) (by omega) (nl - q) (by omega), h3]
        have ew : ∀ q, gd_w T s zs nl q = gc_cap (gd_F T s q * gc_E T zs (nl - q)) := fun q => rfl
        have fin : ∀ (q x : Nat), gd_pt T s zs nl nl 0 ml = (q, x) → X206 (lN x) (nI r) (nI nl) (nI i) (nI q) τ := by
          intro q x hpt2
          have hq : q ≤ nl := by rw [hpt2] at p1; exact p1
          have hx : x < gd_F T s q * gc_E T zs (nl - q) := by rw [hpt2] at p2; exact p2
          have hle : gd_F T s q * gc_E T zs (nl - q) ≤ gc_sum (fun p => gd_F T s p * gc_E T zs (nl - p)) (nl + 1) := by
            have a := gc_sum_mono (fun p => gd_F T s p * gc_E T zs (nl - p)) (q + 1) (nl + 1) (by omega)
            have b : gc_sum (fun p => gd_F T s p * gc_E T zs (nl - p)) (q + 1) = gc_sum (fun p => gd_F T s p * gc_E T zs (nl - p)) q + gd_F T s q * gc_E T zs (nl - q) := rfl
            omega
          have hE0 : 0 < gc_E T zs (nl - q) := Nat.pos_of_ne_zero (fun z => by rw [z, Nat.mul_zero] at hx; omega)
          have hF0 : 0 < gd_F T s q := Nat.pos_of_ne_zero (fun z => by rw [z, Nat.zero_mul] at hx; omega)
          have hE2 : gc_E T zs (nl - q) ≤ gd_F T s q * gc_E T zs (nl - q) := Nat.le_mul_of_pos_left _ hF0
          have hmx : max 1 (gc_E T zs (nl - q)) = gc_E T zs (nl - q) := Nat.max_eq_right hE0
          apply h206
          refine nm_r (pk_sub hq) ?_
          have ei : (17 : Int32) * nI i + (17 : Int32) + nI (nl - q) = nI ((i + 1) * 17 + (nl - q)) := by
            rw [show (17 : Int32) = nI 17 from rfl, pk_mul, nI_add, nI_add]
            congr 1
            omega
          rw [ei]
          refine ⟨vp_in_nI (by omega) (by decide), ?_⟩
          rw [nI_clamp (by omega), hbeh q hq]
          refine nm_e ⟨vp_in_nI (by omega) (by decide), ?_⟩
          have hne : ¬ lN (gc_E T zs (nl - q)) = 0 := fun z => by
            have := (pk_lEQ (a := gc_E T zs (nl - q)) (b := 0) (by omega) (by decide)).mp z
            omega
          rw [nI_clamp (by omega)]
          intro σ24 e24
          refine ⟨hne, vp_in_nI (by omega) (by decide), ?_⟩
          intro σ25 e25
          refine ⟨hne, ?_⟩
          rw [pk_lRem (by omega) hE0 (by omega)]
          rw [pk_lDiv (by omega) hE0 (by omega)] at e25
          have f13 : σ25.2.1 13 = upd (τ.2.1 13) i (nI q) := by rw [e25, e24]; rfl
          have f5 : σ25.2.2 5 = vp_updL (τ.2.2 5) i (lN (x / gc_E T zs (nl - q))) := by rw [e25, e24]; rfl
          have hfr25 : fr_m τ σ25 := by
            rw [e25, e24]
            exact (fr_m.A (Or.inr (Or.inr rfl))).tr (fr_m.L (Or.inr (Or.inr rfl)))
          refine nm_e (nm_r (nI_1 i) (ih (i + 1) (nl - q) (x % gc_E T zs (nl - q)) (c ++ [(s, q, x / gc_E T zs (nl - q))]) σ25 h3 (by omega) (by rw [List.length_append]; show c.length + 1 = i + 1; omega) ?_ (by omega) (Nat.mod_lt _ hE0) (by omega) (hfr.tr hfr25) (by rw [e25, e24]; exact h7') (fun k e hk => by rw [e25, e24]; exact hqi k e hk) (fun i' hi' p' hp' => by rw [e25, e24]; exact hmbt i' hi' p' hp') (fun j e hj => ?_)))
          · rw [← hsp, List.append_assoc]
            congr 1
            show (s, q, x / gc_E T zs (nl - q)) :: gd_sp T zs (nl - q) (x % gc_E T zs (nl - q)) = (s, (gd_pt T s zs nl nl 0 ml).1, (gd_pt T s zs nl nl 0 ml).2 / max 1 (gc_E T zs (nl - (gd_pt T s zs nl nl 0 ml).1))) :: gd_sp T zs (nl - (gd_pt T s zs nl nl 0 ml).1) ((gd_pt T s zs nl nl 0 ml).2 % max 1 (gc_E T zs (nl - (gd_pt T s zs nl nl 0 ml).1)))
            rw [hpt2]
            show _ = (s, q, x / max 1 (gc_E T zs (nl - q))) :: gd_sp T zs (nl - q) (x % max 1 (gc_E T zs (nl - q)))
            rw [hmx]
          · rw [f13, f5]
            rcases Nat.lt_or_ge j c.length with z | z
            · rw [List.getElem?_append_left z] at hj
              rw [pk_un (by omega), pk_uLn (by omega)]
              exact hpt j e hj
            · have hj1 : j < (c ++ [(s, q, x / gc_E T zs (nl - q))]).length := (List.getElem?_eq_some_iff.mp hj).1
              rw [List.length_append] at hj1
              have hj1 : j < c.length + 1 := hj1
              have hjc : j = c.length := by omega
              subst hjc
              rw [List.getElem?_append_right (Nat.le_refl _), Nat.sub_self] at hj
              injection hj with hj
              rw [← hj, hc, pk_us, pk_uLs]
              exact ⟨rfl, rfl⟩
        have loop : ∀ (k q x : Nat), q + k = nl → x ≤ ml → gd_pt T s zs nl k q x = gd_pt T s zs nl nl 0 ml → X140 (lN x) (nI r) (nI nl) (nI i) (nI q) (lN (gd_w T s zs nl q)) τ := by
          intro k
          induction k with
          | zero =>
            intro q x hq hx hpt2
            have hq : q = nl := hq
            have hwq := gc_cap_le (gd_F T s q * gc_E T zs (nl - q))
            have hpt2 : (q, x) = gd_pt T s zs nl nl 0 ml := hpt2
            apply h140
            refine ⟨fun _ => fin q x hpt2.symm, fun _ => pk_le nl q (fun _ => fin q x hpt2.symm) (fun z => absurd z (by omega))⟩
          | succ k ihk =>
            intro q x hq hx hpt2
            have hpt2 : (if x < gd_w T s zs nl q then (q, x) else gd_pt T s zs nl k (q + 1) (x - gd_w T s zs nl q)) = gd_pt T s zs nl nl 0 ml := hpt2
            have hwq : gd_w T s zs nl q ≤ 1000000000000000001 := gc_cap_le _
            apply h140
            refine ek_if (pk_lLT (a := x) (b := gd_w T s zs nl q) (by omega) (by omega)) (fun z => ?_) (fun z => ?_)
            · rw [if_pos z] at hpt2
              exact fin q x hpt2.symm
            · rw [if_neg z] at hpt2
              refine pk_le nl q (fun z => absurd z (by omega)) (fun _ => ?_)
              refine nm_r (lN_sub (by omega)) (nm_r (nI_1 q) ?_)
              refine n_at hgr hr h1 ?_
              rw [h2]
              refine n_of (T := T) (N := 17) hs24 (by decide) (by omega) hgt ?_
              have ei : (17 : Int32) * nI i + (17 : Int32) + nI nl - nI (q + 1) = nI ((i + 1) * 17 + (nl - (q + 1))) := by
                rw [show (17 : Int32) = nI 17 from rfl, pk_mul, nI_add, nI_add, pk_sub (by omega)]
                congr 1
                omega
              rw [ei]
              refine ⟨vp_in_nI (by omega) (by decide), ?_⟩
              rw [nI_clamp (by omega), hbeh (q + 1) (by omega)]
              refine n_product (gd_F_le hTb _ _) (gc_E_le _ _ _) ?_
              exact ihk (q + 1) (x - gd_w T s zs nl q) (by omega) (by omega) hpt2
        apply h91
        refine ⟨vr, ?_⟩
        rw [nI_clamp (by omega), es]
        refine pk_le (gg_y G r).length i (fun q => absurd q (by omega)) (fun _ => ?_)
        refine n_at hgr hr h1 ?_
        rw [h2]
        refine n_of (p := 0) (T := T) (N := 17) hs24 (by decide) (by decide) hgt ?_
        have ei : (17 : Int32) * nI i + (17 : Int32) + nI nl = nI ((i + 1) * 17 + (nl - 0)) := by
          rw [show (17 : Int32) = nI 17 from rfl, pk_mul, nI_add, nI_add]
          congr 1
          omega
        rw [ei]
        refine ⟨vp_in_nI (by omega) (by decide), ?_⟩
        rw [nI_clamp (by omega), hbeh 0 (by omega)]
        refine n_product (gd_F_le hTb _ _) (gc_E_le _ _ _) ?_
        exact loop nl 0 ml (by omega) (Nat.le_refl _) rfl
    exact key (gg_y G r) 0 n m' [] τ rfl (by omega) rfl rfl (Nat.le_refl _) hm' hmb hfr h7' hqi hmbt (fun j e hj => by cases hj)
  -- the rule
  have rules : ∀ (k r x : Nat) (f : Nat → Int64), r + k = G.length → x + gc_pt T G (fun _ => true) A n r < gc_pt T G (fun _ => true) A n G.length → gd_pk T G A n k r x = gd_pk T G A n G.length 0 m → X9 (nI A) (nI n) (lN x) (nI r) 0 (gs_L σ 3 f) := by
    intro k
    induction k with
    | zero =>
      intro r x f hr hx _
      have hr : r = G.length := hr
      subst hr
      omega
    | succ k ih =>
      intro r x f hr hx hpk
      have hr' : r < G.length := by omega
      have hl8 := (h.1.2 r hr').1
      have hpk : (if gg_l G r = A then (if x < gc_E T (gg_y G r) n then some (r, x) else gd_pk T G A n k (r + 1) (x - gc_E T (gg_y G r) n)) else gd_pk T G A n k (r + 1) x) = gd_pk T G A n G.length 0 m := hpk
      have hnx : gc_pt T G (fun _ => true) A n (r + 1) = gc_pt T G (fun _ => true) A n r + (if true = true ∧ gg_l G r = A then gc_E T (gg_y G r) n else 0) := rfl
      have hEb := gc_E_le T (gg_y G r) n
      have hle := gc_pt_true_mono T G A n (r + 1) G.length (by omega)
      apply h9
      refine br_f (fun z => z rfl) ?_
      refine pk_le G.length r (fun z => absurd z (by omega)) (fun _ => ⟨vp_in_nI (by omega) (by decide), ?_⟩) h.2.1
      have el : (gs_L σ 3 f).2.1 0 r = nI (gg_l G r) := (h.2.2 r hr').1
      rw [nI_clamp (by omega), el]
      refine ek_if (not_congr (nI_eq (by omega) (by omega))) (fun z => ?_) (fun z => ?_)
      · rw [if_neg z] at hpk
        rw [if_neg (fun y => z y.2)] at hnx
        apply h52
        have h0 : (0 : Int64) ≤ lN x := (pk_lLE (a := 0) (b := x) (by decide) (by omega)).mpr (Nat.zero_le _)
        have e0 : lN x - (0 : Int64) = lN x := lN_sub (a := x) (b := 0) (Nat.zero_le _)
        exact br_t h0 (br_f (fun y => y rfl) (nm_r e0 (nm_r (nI_1 r) (ih (r + 1) x f (by omega) (by omega) hpk))))
      · have z : gg_l G r = A := Classical.byContradiction z
        rw [if_pos z] at hpk
        rw [if_pos ⟨rfl, z⟩] at hnx
        refine n_fill (T := T) (N := 17) (h.of rfl rfl rfl rfl) hr' (by omega) (by decide) hT hTb (fun f2 hf2 => ⟨vp_in_nI (by omega) (by decide), ?_⟩)
        rw [gs_LL]
        have e0 : (gs_L σ 3 f2).2.2 3 n = lN (gc_E T (gg_y G r) n) := by
          have := hf2 0 (Nat.zero_le _) n (Nat.le_refl _)
          rw [Nat.zero_mul, Nat.zero_add] at this
          exact this
        rw [nI_clamp (by omega), e0]
        refine nm_e ?_
        apply h52
        refine ek_if (pk_lLE (a := gc_E T (gg_y G r) n) (b := x) (by omega) (by omega)) (fun y => ?_) (fun y => ?_)
        · rw [if_neg (by omega)] at hpk
          exact br_f (fun w => w rfl) (nm_r (lN_sub y) (nm_r (nI_1 r) (ih (r + 1) _ f2 (by omega) (by omega) hpk)))
        · rw [if_pos (by omega)] at hpk
          refine br_t (by decide) ?_
          apply h9
          refine br_t (by decide) ?_
          exact parts r x hpk.symm hr' (by omega) (by omega) (gs_L σ 3 f2) (fr_m.L (Or.inl rfl)) h7 hpi (fun i hi p' hp' => hf2 i hi p' hp')
  have := rules G.length 0 m (σ.2.2 3) (by omega) (by show m + 0 < _; omega) rfl
  rw [gs_Lid] at this
  exact this
end M2H
end
section
/-! Layer 2, part i of the reference: draw, of both. -/
/-- the number a is that of a tree: of j, of the length n -/
def an_dr (G : gg_R) (x y : Int32) (a : Int64) (j n m : Nat) (T : Nat → Nat → Nat) : Prop := x = nI j ∧ j < 8 ∧ y = nI n ∧ n ≤ 16 ∧ a = lN m ∧ m < 2 ^ 63 ∧ (∃ D o N, gm_L G D ∧ gg_ord (gg_to G D) o 8 ∧ gc_okk (fun y => D y = some 0) G (fun _ => true) T N ∧ n < N) ∧ T j n ≤ 1000000000000000000 ∧ m < T j n
theorem gd_pt_le {T : Nat → Nat → Nat} {s n : Nat} {ys : List Nat} : ∀ (k p m : Nat), (gd_pt T s ys n k p m).1 ≤ p + k
  | 0, p, m => Nat.le_refl p
  | k + 1, p, m => by
    show (if m < gd_w T s ys n p then (p, m) else gd_pt T s ys n k (p + 1) (m - gd_w T s ys n p)).1 ≤ p + (k + 1)
    split
    · show p ≤ _
      omega
    · have := gd_pt_le (T := T) (s := s) (n := n) (ys := ys) k (p + 1) (m - gd_w T s ys n p)
      omega
section GDC
variable {T T' : Nat → Nat → Nat} {M : Nat}
theorem gd_w_eq (hT : ∀ x p, x < 8 → p ≤ M → T x p = T' x p) (s : Nat) (ys : List Nat) (n p : Nat) (hn : n ≤ M) (hp : p ≤ n) : gd_w T s ys n p = gd_w T' s ys n p := by
  unfold gd_w
  have hF : gd_F T s p = gd_F T' s p := by
    unfold gd_F
    by_cases hs : s < 8
    · rw [if_pos hs, if_pos hs, hT s p hs (by omega)]
    · rw [if_neg hs, if_neg hs]
  rw [hF, gc_E_upto ys (n - p) (fun x q hx hq => hT x q hx (by omega))]
theorem gd_pt_eq (hT : ∀ x p, x < 8 → p ≤ M → T x p = T' x p) (s : Nat) (ys : List Nat) (n : Nat) (hn : n ≤ M) : ∀ (k p m : Nat), p + k = n → gd_pt T s ys n k p m = gd_pt T' s ys n k p m
  | 0, _, _, _ => rfl
  | k + 1, p, m, h => by
    show (if m < gd_w T s ys n p then (p, m) else gd_pt T s ys n k (p + 1) (m - gd_w T s ys n p)) = (if m < gd_w T' s ys n p then (p, m) else gd_pt T' s ys n k (p + 1) (m - gd_w T' s ys n p))
    rw [gd_w_eq hT s ys n p hn (by omega), gd_pt_eq hT s ys n hn k (p + 1) _ (by omega)]
theorem gd_sp_eq (hT : ∀ x p, x < 8 → p ≤ M → T x p = T' x p) : ∀ (ys : List Nat) (n m : Nat), n ≤ M → gd_sp T ys n m = gd_sp T' ys n m
  | [], _, _, _ => rfl
  | s :: ys, n, m, h => by
    show (s, (gd_pt T s ys n n 0 m).1, (gd_pt T s ys n n 0 m).2 / max 1 (gc_E T ys (n - (gd_pt T s ys n n 0 m).1))) :: gd_sp T ys (n - (gd_pt T s ys n n 0 m).1) ((gd_pt T s ys n n 0 m).2 % max 1 (gc_E T ys (n - (gd_pt T s ys n n 0 m).1))) = (s, (gd_pt T' s ys n n 0 m).1, (gd_pt T' s ys n n 0 m).2 / max 1 (gc_E T' ys (n - (gd_pt T' s ys n n 0 m).1))) :: gd_sp T' ys (n - (gd_pt T' s ys n n 0 m).1) ((gd_pt T' s ys n n 0 m).2 % max 1 (gc_E T' ys (n - (gd_pt T' s ys n n 0 m).1)))
    rw [gd_pt_eq hT s ys n h n 0 m (by omega), gc_E_upto ys (n - (gd_pt T' s ys n n 0 m).1) (fun x q hx hq => hT x q hx (by omega)), gd_sp_eq hT ys (n - (gd_pt T' s ys n n 0 m).1) _ (by omega)]
theorem gd_sp_le : ∀ (ys : List Nat) (n m : Nat) (e : Nat × Nat × Nat), e ∈ gd_sp T ys n m → e.2.1 ≤ n
  | [], _, _, _, h => absurd h List.not_mem_nil
  | s :: ys, n, m, e, h => by
    have hp := gd_pt_le (T := T) (s := s) (n := n) (ys := ys) n 0 m
    rcases List.mem_cons.mp h with z | z
    · rw [z]
      show (gd_pt T s ys n n 0 m).1 ≤ n
      omega
    · have := gd_sp_le ys _ _ e z
      omega
theorem gd_pk_eq (hT : ∀ x p, x < 8 → p ≤ M → T x p = T' x p) (G : gg_R) (A n : Nat) (hn : n ≤ M) : ∀ (k r m : Nat), gd_pk T G A n k r m = gd_pk T' G A n k r m
  | 0, _, _ => rfl
  | k + 1, r, m => by
    show (if gg_l G r = A then (if m < gc_E T (gg_y G r) n then some (r, m) else gd_pk T G A n k (r + 1) (m - gc_E T (gg_y G r) n)) else gd_pk T G A n k (r + 1) m) = (if gg_l G r = A then (if m < gc_E T' (gg_y G r) n then some (r, m) else gd_pk T' G A n k (r + 1) (m - gc_E T' (gg_y G r) n)) else gd_pk T' G A n k (r + 1) m)
    rw [gc_E_upto (gg_y G r) n (fun x q hx hq => hT x q hx (by omega)), gd_pk_eq hT G A n hn k (r + 1), gd_pk_eq hT G A n hn k (r + 1)]
theorem gd_res_eq (hT : ∀ x p, x < 8 → p ≤ M → T x p = T' x p) (G : gg_R) : ∀ (k : Nat) (p : List (Nat × Nat × Nat)) (R L : List Nat) (o : Option (List Nat × List Nat)), (∀ e, e ∈ p → e.2.1 ≤ M) → gd_res T G k p R L o → gd_res T' G k p R L o
  | 0, _, _, _, _, _, h => h.elim
  | _ + 1, [], _, _, _, _, h => h
  | k + 1, e :: p, R, L, o, hp, h => by
    have he := hp e List.mem_cons_self
    have h : if e.1 < 8 then ∃ q, gd_pk T G e.1 e.2.1 G.length 0 e.2.2 = some q ∧ (if R.length < 200 then gd_res T G k (gd_sp T (gg_y G q.1) e.2.1 q.2 ++ p) (R ++ [q.1]) L o else o = none) else gd_res T G k p R (L ++ [e.1]) o := h
    show if e.1 < 8 then ∃ q, gd_pk T' G e.1 e.2.1 G.length 0 e.2.2 = some q ∧ (if R.length < 200 then gd_res T' G k (gd_sp T' (gg_y G q.1) e.2.1 q.2 ++ p) (R ++ [q.1]) L o else o = none) else gd_res T' G k p R (L ++ [e.1]) o
    by_cases c : e.1 < 8
    · rw [if_pos c] at h ⊢
      obtain ⟨q, h1, h2⟩ := h
      refine ⟨q, by rw [← gd_pk_eq hT G e.1 e.2.1 he]; exact h1, ?_⟩
      by_cases c2 : R.length < 200
      · rw [if_pos c2] at h2 ⊢
        rw [← gd_sp_eq hT _ _ _ he]
        refine gd_res_eq hT G k _ _ _ _ (fun x hx => ?_) h2
        rcases List.mem_append.mp hx with z | z
        · have := gd_sp_le _ _ _ x z
          omega
        · exact hp x (List.mem_cons_of_mem _ z)
      · rw [if_neg c2] at h2 ⊢
        exact h2
    · rw [if_neg c] at h ⊢
      exact gd_res_eq hT G k _ _ _ _ (fun x hx => hp x (List.mem_cons_of_mem _ hx)) h
end GDC
/-- class and reference draw the same tree -/
theorem an_dr_one {G : gg_R} {x y : Int32} {a : Int64} {j n m j' n' m' : Nat} {T T' : Nat → Nat → Nat} {k k' : Nat} {o o' : Option (List Nat × List Nat)} (hG : gg_ok G) (h : an_dr G x y a j n m T) (h' : an_dr G x y a j' n' m' T') (hr : gd_res T G k [(j, n, m)] [] [] o) (hr' : gd_res T' G k' [(j', n', m')] [] [] o') : o = o' := by
  obtain ⟨h1, h2, h3, h4, h5, h6, ⟨D, od, N, h7, h8, h9, h10⟩, h11, h12⟩ := h
  obtain ⟨g1, g2, g3, g4, g5, g6, ⟨D', od', N', g7, g8, g9, g10⟩, g11, g12⟩ := h'
  have e1 : j = j' := (nI_eq (by omega) (by omega)).mp (h1.symm.trans g1)
  have e2 : n = n' := (nI_eq (by omega) (by omega)).mp (h3.symm.trans g3)
  have e3 : m = m' := (pk_lEQ h6 g6).mp (h5.symm.trans g5)
  subst e1
  subst e2
  subst e3
  have hT : ∀ x p, x < 8 → p ≤ n → T x p = T' x p := fun x p hx hp => gc_two hG h7 g7 h8 h9 g9 p (by omega) (by omega) x hx
  have := gd_res_eq hT G k _ _ _ _ (fun e he => by
    rcases List.mem_cons.mp he with z | z
    · rw [z]
      exact Nat.le_refl n
    · exact absurd z List.not_mem_nil) hr
  exact gd_res_one k k' _ _ _ _ _ this hr'
/-- where there is no such tree for one table, there is none for another -/
theorem an_dr_no {G : gg_R} {x y : Int32} {a : Int64} {D : Nat → Option Nat} {o : Nat → Nat} {T : Nat → Nat → Nat} {N j n : Nat} (hG : gg_ok G) (hx : x = nI j) (hj : j < 8) (hy : y = nI n) (hn : n ≤ 16) (hD : gm_L G D) (ho : gg_ord (gg_to G D) o 8) (hok : gc_okk (fun y => D y = some 0) G (fun _ => true) T N) (hnN : n < N) (hb : T j n ≤ 1000000000000000001) (hno : ¬ (¬ a < 0 ∧ a < (if T j n ≤ 1000000000000000000 then lN (T j n) else -2))) : ∀ j' n' m' T', ¬ an_dr G x y a j' n' m' T' := by
  rintro j' n' m' T' ⟨g1, g2, g3, g4, g5, g6, ⟨D', od', N', g7, g8, g9, g10⟩, g11, g12⟩
  have e1 : j = j' := (nI_eq (by omega) (by omega)).mp (hx.symm.trans g1)
  have e2 : n = n' := (nI_eq (by omega) (by omega)).mp (hy.symm.trans g3)
  subst e1
  subst e2
  have eT := gc_two hG hD g7 ho hok g9 n hnN g10 j hj
  rw [← eT] at g11 g12
  refine hno ⟨?_, ?_⟩
  · rw [g5]
    intro z
    have := (pk_lLT (a := m') (b := 0) g6 (by decide)).mp z
    omega
  · rw [if_pos g11, g5]
    exact (pk_lLT g6 (by omega)).mpr g12
section M2I
variable {G : gg_R} {σ : gs_St} {t : List Nat} {l : List Int32} {d v : List Nat}
theorem s_draw {x y : Int32} {a : Int64} {K : Int32 → (gs_St × Bool) → Prop} (h : cl_at t G l d v σ)
    (k0 : ∀ τ, cl_at t G l d v τ → ((a < 0 ∨ (∀ j, j < 8 → x ≠ nI j) ∨ (∀ n, n ≤ 16 → y ≠ nI n) ∨ an_circ G True) ∨ ∀ j n m T, ¬ an_dr G x y a j n m T) → K (-1) (τ, false))
    (k1 : ∀ j n m T k τ, an_dr G x y a j n m T → gd_res T G k [(j, n, m)] [] [] none → cl_at t G l d v τ → K (-2) (τ, false))
    (k2 : ∀ j n m T k R L τ, an_dr G x y a j n m T → gd_res T G k [(j, n, m)] [] [] (some (R, L)) → cl_at t G l R L τ → K (nI R.length) (τ, true)) : C_Gl_draw x y a σ K := by
  refine ⟨fun ha => k0 σ h (Or.inl (Or.inl ha)), fun ha => ?_⟩
  have neg1 : ¬ a < (-1 : Int64) := fun z => ha (by
    rw [Int64.lt_iff_toInt_lt] at z ⊢
    rw [show (-1 : Int64).toInt = -1 by decide] at z
    rw [show (0 : Int64).toInt = 0 by decide]
    omega)
  refine s_trees h (fun τ hτ hno => br_f neg1 (k0 τ hτ (Or.inl (Or.inr hno)))) (fun j hj ex n hn ey D O o T T' N N' τ hτ hw hnN => ?_)
  obtain ⟨h1, h2, h3, h4, h5, h6, h7, h8, h9, h10, h11, h12, h13, h14, h15, h16, h17⟩ := id hw
  have hcl : cl_at t G l d v τ := hτ.cl ⟨D, O, o, 8, T, T', N, N', hw⟩
  have hb := h14.1 j n
  refine ⟨fun hlt => ?_, fun hlt => k0 τ hcl (Or.inr (an_dr_no hτ.2.1.1 ex hj ey hn h3 h7 h14.2.2.1 hnN hb (fun z => hlt z.2)))⟩
  by_cases q : T j n ≤ 1000000000000000000
  · rw [if_pos q] at hlt
    obtain ⟨m, hm, rfl⟩ := pk_lOf ha
    have hmT : m < T j n := (pk_lLT hm (by omega)).mp hlt
    subst ex
    subst ey
    have hdr : an_dr G (nI j) (nI n) (lN m) j n m T := ⟨rfl, hj, rfl, hn, rfl, hm, ⟨D, o, N, h3, h7, h14.2.2.1, hnN⟩, q, hmT⟩
    refine s_weave (T := T) (N := N) hτ.2.1 hj hnN h13 h14.2.1 h14.1 (fun r hr => h14.2.2.2 r hr rfl) h14.2.2.1.1 hmT q (fun k τ2 hres f2 => k1 j n m T k τ2 hdr hres ?_) (fun k R L τ2 hres f2 hR hL i12 i13 aR aL => k2 j n m T k R L (gs_sS τ2) hdr hres ?_)
    · have fI := fun k a b c e => f2.1 k a b c e
      have fA := fun k a b c e => f2.2.1 k a b c e
      refine ⟨hτ.1.of (fI 0 (by decide) (by decide) (by decide) (by decide)) (fA 0 (by decide) (by decide) (by decide) (by decide)), f2.gr hτ.2.1, hτ.2.2.1.of (fI 14 (by decide) (by decide) (by decide) (by decide)) (fA 14 (by decide) (by decide) (by decide) (by decide)), hτ.2.2.2.1.of (fI 10 (by decide) (by decide) (by decide) (by decide)) (fI 11 (by decide) (by decide) (by decide) (by decide)) (fA 10 (by decide) (by decide) (by decide) (by decide)) (fA 11 (by decide) (by decide) (by decide) (by decide)), (fI 4 (by decide) (by decide) (by decide) (by decide)).trans hτ.2.2.2.2.1, Or.inr ⟨(fI 1 (by decide) (by decide) (by decide) (by decide)).trans hτ.2.2.2.2.2, ?_⟩⟩
      exact st_at.of ⟨D, O, o, 8, T, T', N, N', hw⟩ (fA 4 (by decide) (by decide) (by decide) (by decide)) (fA 5 (by decide) (by decide) (by decide) (by decide)) (fA 7 (by decide) (by decide) (by decide) (by decide)) (fI 3 (by decide) (by decide) (by decide) (by decide)) (fI 5 (by decide) (by decide) (by decide) (by decide)) (fI 6 (by decide) (by decide) (by decide) (by decide)) (fI 7 (by decide) (by decide) (by decide) (by decide)) (f2.2.2 0 (by decide)) (f2.2.2 1 (by decide)) (f2.2.2 2 (by decide)) (f2.2.2 3 (by decide))
    · have fI := fun k a b c e => f2.1 k a b c e
      have fA := fun k a b c e => f2.2.1 k a b c e
      refine ⟨hτ.1.of (fI 0 (by decide) (by decide) (by decide) (by decide)) (fA 0 (by decide) (by decide) (by decide) (by decide)), (f2.gr hτ.2.1).of rfl rfl rfl rfl, hτ.2.2.1.of (fI 14 (by decide) (by decide) (by decide) (by decide)) (fA 14 (by decide) (by decide) (by decide) (by decide)), ⟨hR, hL, i12, i13, aR, aL⟩, (fI 4 (by decide) (by decide) (by decide) (by decide)).trans hτ.2.2.2.2.1, Or.inr ⟨(fI 1 (by decide) (by decide) (by decide) (by decide)).trans hτ.2.2.2.2.2, ?_⟩⟩
      exact st_at.of ⟨D, O, o, 8, T, T', N, N', hw⟩ (fA 4 (by decide) (by decide) (by decide) (by decide)) (fA 5 (by decide) (by decide) (by decide) (by decide)) (fA 7 (by decide) (by decide) (by decide) (by decide)) (fI 3 (by decide) (by decide) (by decide) (by decide)) (fI 5 (by decide) (by decide) (by decide) (by decide)) (fI 6 (by decide) (by decide) (by decide) (by decide)) (fI 7 (by decide) (by decide) (by decide) (by decide)) (f2.2.2 0 (by decide)) (f2.2.2 1 (by decide)) (f2.2.2 2 (by decide)) (f2.2.2 3 (by decide))
  · rw [if_neg q] at hlt
    exact absurd (show a < 0 by
      rw [Int64.lt_iff_toInt_lt] at hlt ⊢
      rw [show (-2 : Int64).toInt = -2 by decide] at hlt
      rw [show (0 : Int64).toInt = 0 by decide]
      omega) ha
theorem n_draw {x y : Int32} {a : Int64} {K : Int32 → gs_St → Prop} (h : ml_at t G l d v σ)
    (k0 : ∀ τ, ml_at t G l d v τ → ((a < 0 ∨ (∀ j, j < 8 → x ≠ nI j) ∨ (∀ n, n ≤ 16 → y ≠ nI n) ∨ an_circM G true) ∨ ∀ j n m T, ¬ an_dr G x y a j n m T) → K (-1) τ)
    (k1 : ∀ j n m T k τ, an_dr G x y a j n m T → gd_res T G k [(j, n, m)] [] [] none → ml_at t G l d v τ → K (-2) τ)
    (k2 : ∀ j n m T k R L τ, an_dr G x y a j n m T → gd_res T G k [(j, n, m)] [] [] (some (R, L)) → ml_at t G l R L τ → K (nI R.length) τ) : C_Mo_draw x y a σ K := by
  intro X48 X162 X194 h48 h162 h194
  refine n_trees h (fun τ hτ hno => br_t (by decide) (k0 τ hτ (Or.inl (Or.inr hno)))) (fun j hj ex n hn ey hc D o T τ hτ hD ho hb hok hm => ?_)
  have hG := hτ.2.1.1.1
  by_cases q : T j n ≤ 1000000000000000000
  · rw [if_pos q]
    have hn0 : ¬ lN (T j n) < (0 : Int64) := fun z => by
      have := (pk_lLT (a := T j n) (b := 0) (by omega) (by decide)).mp z
      omega
    refine br_f hn0 ⟨fun ha => k0 τ hτ (Or.inl (Or.inl ha)), fun ha => ⟨fun hlt => ?_, fun hlt => k0 τ hτ (Or.inr (an_dr_no hτ.2.1.1 ex hj ey hn hD ho hok (by omega) (hb j n) (fun z => hlt (by have := z.2; rw [if_pos q] at this; exact this))))⟩⟩
    obtain ⟨m, hm63, rfl⟩ := pk_lOf ha
    have hmT : m < T j n := (pk_lLT hm63 (by omega)).mp hlt
    subst ex
    subst ey
    have hdr : an_dr G (nI j) (nI n) (lN m) j n m T := ⟨rfl, hj, rfl, hn, rfl, hm63, ⟨D, o, 17, hD, ho, hok, by omega⟩, q, hmT⟩
    have hgok : gd_ok G T 17 := hok.1
    -- copies
    have cpL : ∀ (R L : List Nat) (ρ : gs_St), (∀ f, ml_at t G l R L (gs_A ρ 6 f) ∨ True) → R.length ≤ 200 → L.length ≤ 16 → ρ.1 3 = nI R.length → ρ.1 4 = nI L.length → (∀ i, i < L.length → ρ.2.1 12 i = nI (L.getD i 0)) → (∀ f : Nat → Int32, (∀ i, i < L.length → f i = nI (L.getD i 0)) → K (nI R.length) (gs_A ρ 6 f)) → ∀ (c i : Nat) (f : Nat → Int32), i + c = L.length → (∀ k, k < i → f k = nI (L.getD k 0)) → X194 (nI i) (gs_A ρ 6 f) := by
      intro R L ρ _ hR hL h3 h4 h12 hK c
      induction c with
      | zero =>
        intro i f hi hf
        have hi : i = L.length := hi
        apply h194
        have e3 : (gs_A ρ 6 f).1 3 = nI R.length := h3
        rw [e3]
        exact pk_le L.length i (fun _ => hK f (fun k hk => hf k (by omega))) (fun z => absurd z (by omega)) h4
      | succ c ih =>
        intro i f hi hf
        apply h194
        refine pk_le L.length i (fun z => absurd z (by omega)) (fun _ => ⟨vp_in_nI (by omega) (by decide), vp_in_nI (by omega) (by decide), ?_⟩) h4
        have e12 : (gs_A ρ 6 f).2.1 12 i = nI (L.getD i 0) := h12 i (by omega)
        rw [nI_clamp (by omega), e12]
        intro τ2 hτ2
        have e : τ2 = gs_A ρ 6 (upd f i (nI (L.getD i 0))) := by
          rw [hτ2, gs_AA]
          rfl
        rw [e]
        refine nm_r (nI_1 i) (ih (i + 1) _ (by omega) (fun k hk => ?_))
        show (if k = i then nI (L.getD i 0) else f k) = _
        by_cases z : k = i
        · rw [if_pos z, z]
        · rw [if_neg z]
          exact hf k (by omega)
    have cpR : ∀ (R L : List Nat) (ρ : gs_St), R.length ≤ 200 → L.length ≤ 16 → ρ.1 3 = nI R.length → ρ.1 4 = nI L.length → (∀ i, i < R.length → ρ.2.1 11 i = nI (R.getD i 0)) → (∀ i, i < L.length → ρ.2.1 12 i = nI (L.getD i 0)) → (∀ e f : Nat → Int32, (∀ i, i < R.length → e i = nI (R.getD i 0)) → (∀ i, i < L.length → f i = nI (L.getD i 0)) → K (nI R.length) (gs_A (gs_A ρ 5 e) 6 f)) → ∀ (c i : Nat) (e : Nat → Int32), i + c = R.length → (∀ k, k < i → e k = nI (R.getD k 0)) → X162 (nI i) (gs_A ρ 5 e) := by
      intro R L ρ hR hL h3 h4 h11 h12 hK c
      induction c with
      | zero =>
        intro i e hi he
        have hi : i = R.length := hi
        apply h162
        refine pk_le R.length i (fun _ => ?_) (fun z => absurd z (by omega)) h3
        have := cpL R L (gs_A ρ 5 e) (fun _ => Or.inr trivial) hR hL h3 h4 h12 (fun f hf => hK e f (fun k hk => he k (by omega)) hf) L.length 0 ((gs_A ρ 5 e).2.1 6) (by omega) (fun k hk => absurd hk (Nat.not_lt_zero _))
        rw [gs_Aid] at this
        exact this
      | succ c ih =>
        intro i e hi he
        apply h162
        refine pk_le R.length i (fun z => absurd z (by omega)) (fun _ => ⟨vp_in_nI (by omega) (by decide), vp_in_nI (by omega) (by decide), ?_⟩) h3
        have e11 : (gs_A ρ 5 e).2.1 11 i = nI (R.getD i 0) := h11 i (by omega)
        rw [nI_clamp (by omega), e11]
        intro τ2 hτ2
        have e2 : τ2 = gs_A ρ 5 (upd e i (nI (R.getD i 0))) := by
          rw [hτ2, gs_AA]
          rfl
        rw [e2]
        refine nm_r (nI_1 i) (ih (i + 1) _ (by omega) (fun k hk => ?_))
        show (if k = i then nI (R.getD i 0) else e k) = _
        by_cases z : k = i
        · rw [if_pos z, z]
        · rw [if_neg z]
          exact he k (by omega)
    -- what lasts
    have lasts : ∀ ρ : gs_St, (∀ k, k ≠ 7 → ρ.1 k = τ.1 k) → (∀ k, k ≠ 9 → k ≠ 10 → k ≠ 11 → k ≠ 12 → k ≠ 13 → ρ.2.1 k = τ.2.1 k) → (∀ k, k ≠ 3 → k ≠ 4 → k ≠ 5 → ρ.2.2 k = τ.2.2 k) → ml_at t G l d v ρ := fun ρ hI hA hL => ⟨hτ.1.of (hI 1 (by decide)) (hA 3 (by decide) (by decide) (by decide) (by decide) (by decide)), hτ.2.1.of (hI 0 (by decide)) (hA 0 (by decide) (by decide) (by decide) (by decide) (by decide)) (hA 1 (by decide) (by decide) (by decide) (by decide) (by decide)) (hA 2 (by decide) (by decide) (by decide) (by decide) (by decide)), hτ.2.2.1.of (hI 2 (by decide)) (hA 4 (by decide) (by decide) (by decide) (by decide) (by decide)), hτ.2.2.2.1.of (hI 3 (by decide)) (hI 4 (by decide)) (hA 5 (by decide) (by decide) (by decide) (by decide) (by decide)) (hA 6 (by decide) (by decide) (by decide) (by decide) (by decide)), hτ.2.2.2.2.elim (fun z => Or.inl ((hI 5 (by decide)).trans z)) (fun z => Or.inr ⟨(hI 5 (by decide)).trans z.1, z.2.of (hI 6 (by decide)) (hL 2 (by decide) (by decide) (by decide))⟩)⟩
    have key : ∀ (c step : Nat) (p : List (Nat × Nat × Nat)) (R L : List Nat) (ρ : gs_St), step + c = 216 → (∀ k, k ≠ 7 → ρ.1 k = τ.1 k) → (∀ k, k ≠ 9 → k ≠ 10 → k ≠ 11 → k ≠ 12 → k ≠ 13 → ρ.2.1 k = τ.2.1 k) → (∀ k, k ≠ 3 → k ≠ 4 → k ≠ 5 → ρ.2.2 k = τ.2.2 k) → ρ.1 7 = nI p.length → (∀ i, i < R.length → ρ.2.1 11 i = nI (R.getD i 0)) → (∀ i, i < L.length → ρ.2.1 12 i = nI (L.getD i 0)) → qi_at p ρ → (∀ e, e ∈ p → gd_v T e ∧ e.1 < 24) → gd_ln p + L.length = n → R.length ≤ 200 → p.length ≤ 1 + 6 * R.length → R.length + L.length = step → (∀ k o, gd_res T G k p R L o → ∃ k', gd_res T G k' [(j, n, m)] [] [] o) → X48 (nI R.length) (nI L.length) ρ := by
      intro c
      induction c with
      | zero =>
        intro step p R L ρ hs hI hA hL h7 hRa hLa hp hv hln hR hpl hst hch
        have hs : step = 216 := hs
        have h200 : R.length = 200 := by omega
        have hl0 : gd_ln p = 0 := by omega
        apply h48
        cases p with
        | nil =>
          obtain ⟨k', hk'⟩ := hch 1 (some (R, L)) rfl
          rw [h7]
          refine br_t (by decide) ?_
          intro σ5 e5 σ6 e6
          have hcp := cpR R L σ6 hR (by omega) (by rw [e6, e5]; rfl) (by rw [e6]; rfl) (fun i hi => by rw [e6, e5]; exact hRa i hi) (fun i hi => by rw [e6, e5]; exact hLa i hi) (fun e f he hf => k2 j n m T k' R L _ hdr hk' ?_) R.length 0 (σ6.2.1 5) (by omega) (fun k hk => absurd hk (Nat.not_lt_zero _))
          · rw [gs_Aid] at hcp
            exact hcp
          · have hml := lasts ρ hI hA hL
            rw [e6, e5]
            exact ⟨hml.1.of rfl rfl, hml.2.1.of rfl rfl rfl rfl, hml.2.2.1.of rfl rfl, ⟨hR, by omega, rfl, rfl, he, hf⟩, hml.2.2.2.2.elim Or.inl (fun z => Or.inr ⟨z.1, z.2.of rfl rfl⟩)⟩
        | cons e p =>
          have hlen : (e :: p).length = p.length + 1 := rfl
          obtain ⟨hve, he24⟩ := hv e List.mem_cons_self
          have hlc : gd_ln (e :: p) = e.2.1 + gd_ln p := rfl
          have he8 : e.1 < 8 := Classical.byContradiction (fun z => by have := hve.2 (by omega); omega)
          rw [h7]
          refine br_f (nI_nle (by omega) (by omega)) ?_
          rw [hlen, nI_pred]
          intro σ7 e7
          have g7 : σ7.1 7 = nI p.length := by rw [e7]; rfl
          rw [g7]
          refine ⟨vp_in_nI (by omega) (by decide), ?_⟩
          have top : σ7.2.1 9 p.length = nI e.1 := by
            have := (hp 0 e rfl).1
            rw [hlen, show p.length + 1 - 1 - 0 = p.length by omega] at this
            rw [e7]
            exact this
          rw [nI_clamp (by omega), top]
          refine nm_e (n_isNtN (by omega) (fun _ => br_t (by decide) ?_) (fun z => absurd he8 (by omega)))
          rw [h200]
          refine br_f (fun z => z rfl) ?_
          obtain ⟨r, m', z, -⟩ := gd_pick hgok he8 (by omega) hve
          obtain ⟨k', hk'⟩ := hch 1 none (gd_res_full he8 z (by omega))
          refine k1 j n m T k' σ7 hdr hk' (lasts σ7 (fun k hk => ?_) (fun k a1 a2 a3 a4 a5 => ?_) (fun k a1 a2 a3 => ?_))
          · rw [e7]
            show (if k = 7 then _ else ρ.1 k) = _
            rw [if_neg hk]
            exact hI k hk
          · rw [e7]; exact hA k a1 a2 a3 a4 a5
          · rw [e7]; exact hL k a1 a2 a3
      | succ c ih =>
        intro step p R L ρ hs hI hA hL h7 hRa hLa hp hv hln hR hpl hst hch
        apply h48
        cases p with
        | nil =>
          obtain ⟨k', hk'⟩ := hch 1 (some (R, L)) rfl
          rw [h7]
          refine br_t (by decide) ?_
          intro σ5 e5 σ6 e6
          have hcp := cpR R L σ6 hR (by omega) (by rw [e6, e5]; rfl) (by rw [e6]; rfl) (fun i hi => by rw [e6, e5]; exact hRa i hi) (fun i hi => by rw [e6, e5]; exact hLa i hi) (fun e f he hf => k2 j n m T k' R L _ hdr hk' ?_) R.length 0 (σ6.2.1 5) (by omega) (fun k hk => absurd hk (Nat.not_lt_zero _))
          · rw [gs_Aid] at hcp
            exact hcp
          · have hml := lasts ρ hI hA hL
            rw [e6, e5]
            exact ⟨hml.1.of rfl rfl, hml.2.1.of rfl rfl rfl rfl, hml.2.2.1.of rfl rfl, ⟨hR, by omega, rfl, rfl, he, hf⟩, hml.2.2.2.2.elim Or.inl (fun z => Or.inr ⟨z.1, z.2.of rfl rfl⟩)⟩
        | cons e p =>
          have hlen : (e :: p).length = p.length + 1 := rfl
          obtain ⟨hve, he24⟩ := hv e List.mem_cons_self
          have hlc : gd_ln (e :: p) = e.2.1 + gd_ln p := rfl
          have hvp : ∀ x, x ∈ p → gd_v T x ∧ x.1 < 24 := fun x hx => hv x (List.mem_cons_of_mem _ hx)
          rw [h7]
          refine br_f (nI_nle (by omega) (by omega)) ?_
          rw [hlen, nI_pred]
          intro σ7 e7
          have g7 : σ7.1 7 = nI p.length := by rw [e7]; rfl
          have hI7 : ∀ k, k ≠ 7 → σ7.1 k = τ.1 k := fun k hk => by
            rw [e7]
            show (if k = 7 then _ else ρ.1 k) = _
            rw [if_neg hk]
            exact hI k hk
          have gA : σ7.2.1 = ρ.2.1 := by rw [e7]; rfl
          have gL : σ7.2.2 = ρ.2.2 := by rw [e7]; rfl
          have top : qc_at σ7 p.length e := by
            have := hp 0 e rfl
            rw [hlen, show p.length + 1 - 1 - 0 = p.length by omega] at this
            unfold qc_at
            rw [gA, gL]
            exact this
          have rest : qi_at p σ7 := fun k x hk => by
            have := hp (k + 1) x hk
            rw [hlen, show p.length + 1 - 1 - (k + 1) = p.length - 1 - k by omega] at this
            unfold qc_at
            rw [gA, gL]
            exact this
          have vpl : vp_in (nI p.length) 1300 := vp_in_nI (by omega) (by decide)
          rw [g7]
          refine ⟨vpl, ?_⟩
          rw [nI_clamp (by omega), top.1]
          refine nm_e (n_isNtN (by omega) (fun he8 => br_t (by decide) ?_) (fun he8 => br_f (fun z => z rfl) ?_))
          · obtain ⟨hv1, hv2⟩ := hve.1 he8
            refine ek_if (not_congr (nI_eq (a := R.length) (b := 200) (by omega) (by decide))) (fun h200 => ?_) (fun h200 => ?_)
            · rw [g7]
              refine ⟨vpl, vpl, ?_⟩
              rw [nI_clamp (by omega), top.2.1, top.2.2]
              have mr7 : mr_at G σ7 := hτ.2.1.of (hI7 0 (by decide)) (by rw [gA]; exact hA 0 (by decide) (by decide) (by decide) (by decide) (by decide)) (by rw [gA]; exact hA 1 (by decide) (by decide) (by decide) (by decide) (by decide)) (by rw [gA]; exact hA 2 (by decide) (by decide) (by decide) (by decide) (by decide))
              have mt7 : mt_at T 17 σ7 := fun B hB p' hp' => by
                rw [gL, hL 2 (by decide) (by decide) (by decide)]
                exact hm B hB p' hp'
              refine n_split (T := T) (p := p) mr7 he8 (by omega) mt7 hb hgok hv1 hv2 g7 (by omega) rest (fun r m' τ2 hpk hr hm' hmb f2 t7 tq => ⟨vp_in_nI (by omega) (by decide), ?_⟩)
              obtain ⟨s1, s2, s3⟩ := gd_sp_ok _ _ _ hm' hmb
              have hspl : (gd_sp T (gg_y G r) e.2.1 m').length = (gg_y G r).length := by rw [← List.length_map (f := fun e : Nat × Nat × Nat => e.1), s3]
              have hz := (hτ.2.1.1.2 r hr).2.1
              rw [nI_clamp (by omega)]
              intro σ13 e13
              have eR : nI R.length + 1 = nI (R ++ [r]).length := by
                rw [nI_1, List.length_append]
                rfl
              refine nm_r eR (ih (step + 1) (gd_sp T (gg_y G r) e.2.1 m' ++ p) (R ++ [r]) L σ13 (by omega) (fun k hk => ?_) (fun k a1 a2 a3 a4 a5 => ?_) (fun k a1 a2 a3 => ?_) (by rw [e13]; exact t7) (fun i hi => ?_) (fun i hi => ?_) (fun k x hk => by rw [e13]; exact tq k x hk) (fun x hx => ?_) (by rw [gd_ln_app, s2]; omega) (by rw [List.length_append]; show R.length + 1 ≤ 200; omega) (by rw [List.length_append, List.length_append, hspl]; show _ ≤ 1 + 6 * (R.length + 1); omega) (by rw [List.length_append]; show R.length + 1 + L.length = step + 1; omega) (fun k o hk => hch (k + 1) o (gd_res_nt he8 hpk (by omega) hk)))
              · rw [e13]; exact (f2.1 k hk).trans (hI7 k hk)
              · rw [e13]
                show (if k = 11 then _ else τ2.2.1 k) = _
                rw [if_neg a3, f2.2.1 k a1 a2 a5, gA]
                exact hA k a1 a2 a3 a4 a5
              · rw [e13]
                show τ2.2.2 k = _
                rw [f2.2.2 k a1 a2 a3, gL]
                exact hL k a1 a2 a3
              · rw [List.length_append] at hi
                have hi : i < R.length + 1 := hi
                rw [e13]
                show (if i = R.length then nI r else τ2.2.1 11 i) = _
                by_cases ei : i = R.length
                · rw [if_pos ei, ei, getD_append_e]
                · rw [if_neg ei, getD_append_l (by omega), f2.2.1 11 (by decide) (by decide) (by decide), gA]
                  exact hRa i (by omega)
              · rw [e13]
                show τ2.2.1 12 i = _
                rw [f2.2.1 12 (by decide) (by decide) (by decide), gA]
                exact hLa i hi
              · rcases List.mem_append.mp hx with z | z
                · refine ⟨s1 x z, ?_⟩
                  have hxm : x.1 ∈ gg_y G r := by
                    rw [← s3]
                    exact List.mem_map_of_mem z
                  obtain ⟨i, hi, ei⟩ := List.getElem_of_mem hxm
                  have := (hτ.2.1.1.2 r hr).2.2 i hi
                  rw [gg_getD hi, ei] at this
                  exact this
                · exact hvp x z
            · have h200 : R.length = 200 := Classical.byContradiction h200
              obtain ⟨r, m', z, -⟩ := gd_pick hgok he8 (by omega) hve
              obtain ⟨k', hk'⟩ := hch 1 none (gd_res_full he8 z (by omega))
              exact k1 j n m T k' σ7 hdr hk' (lasts σ7 hI7 (fun k a1 a2 a3 a4 a5 => by rw [gA]; exact hA k a1 a2 a3 a4 a5) (fun k a1 a2 a3 => by rw [gL]; exact hL k a1 a2 a3))
          · have hel := hve.2 he8
            refine ⟨vp_in_nI (by omega) (by decide), ?_⟩
            rw [nI_clamp (by omega)]
            intro σ15 e15
            have eL : nI L.length + 1 = nI (L ++ [e.1]).length := by
              rw [nI_1, List.length_append]
              rfl
            refine nm_r eL (ih (step + 1) p R (L ++ [e.1]) σ15 (by omega) (fun k hk => by rw [e15]; exact hI7 k hk) (fun k a1 a2 a3 a4 a5 => ?_) (fun k a1 a2 a3 => by rw [e15]; show σ7.2.2 k = _; rw [gL]; exact hL k a1 a2 a3) (by rw [e15]; exact g7) (fun i hi => ?_) (fun i hi => ?_) (fun k x hk => by rw [e15]; exact rest k x hk) hvp (by rw [List.length_append]; show gd_ln p + (L.length + 1) = n; omega) hR (by omega) (by rw [List.length_append]; show R.length + (L.length + 1) = step + 1; omega) (fun k o hk => hch (k + 1) o (gd_res_t (by omega) hk)))
            · rw [e15]
              show (if k = 12 then _ else σ7.2.1 k) = _
              rw [if_neg a4, gA]
              exact hA k a1 a2 a3 a4 a5
            · rw [e15]
              show σ7.2.1 11 i = _
              rw [gA]
              exact hRa i hi
            · rw [List.length_append] at hi
              have hi : i < L.length + 1 := hi
              rw [e15]
              show (if i = L.length then nI e.1 else σ7.2.1 12 i) = _
              by_cases ei : i = L.length
              · rw [if_pos ei, ei, getD_append_e]
              · rw [if_neg ei, getD_append_l (by omega), gA]
                exact hLa i (by omega)
    intro σ3 e3
    refine n_put (σ := σ3) (c := 0) (s := j) (a := n) (b := m) (by rw [e3]; rfl) (by decide) (fun τ2 f2 t7 tq _ _ _ _ => ?_)
    refine key 216 0 [(j, n, m)] [] [] τ2 rfl (fun k hk => ?_) (fun k a1 a2 a3 a4 a5 => ?_) (fun k a1 a2 a3 => ?_) t7 (fun i hi => absurd hi (Nat.not_lt_zero _)) (fun i hi => absurd hi (Nat.not_lt_zero _)) (fun k e hk => ?_) (fun e he => ?_) ?_ (by decide) (Nat.le_refl 1) rfl (fun k o hk => ⟨k, hk⟩)
    · rw [f2.1 k hk, e3]
      show (if k = 7 then _ else τ.1 k) = τ.1 k
      rw [if_neg hk]
    · rw [f2.2.1 k a1 a2 a5, e3]; rfl
    · rw [f2.2.2 k a1 a2 a3, e3]; rfl
    · cases k with
      | zero =>
        injection hk with hk
        rw [← hk]
        exact tq
      | succ k => cases hk
    · rcases List.mem_cons.mp he with z | z
      · rw [z]
        exact ⟨⟨fun _ => ⟨hmT, q⟩, fun z => absurd z (by show ¬ 8 ≤ j; omega)⟩, by show j < 24; omega⟩
      · exact absurd z List.not_mem_nil
    · show n + 0 + 0 = n
      omega
  · rw [if_neg q]
    refine br_t (by decide) (k0 τ hτ (Or.inr (an_dr_no hτ.2.1.1 ex hj ey hn hD ho hok (by omega) (hb j n) (fun z => ?_))))
    obtain ⟨z1, z2⟩ := z
    rw [if_neg q] at z2
    refine z1 ?_
    rw [Int64.lt_iff_toInt_lt] at z2 ⊢
    rw [show (-2 : Int64).toInt = -2 by decide] at z2
    rw [show (0 : Int64).toInt = 0 by decide]
    omega
end M2I
end
section
/-! Layer 2: the number of a tree, as a function. -/
/-- the symbols of a right side take their trees from the pile, its top first: (length, number) of each, and the rest -/
def nt_tk : List Nat → List (Nat × Nat × Nat) → Option (List (Nat × Nat) × List (Nat × Nat × Nat))
  | [], P => some ([], P)
  | s :: ys, P => if s < 8 then
      (match P with
      | [] => none
      | e :: P' => if e.1 = s then
          (match nt_tk ys P' with
          | none => none
          | some q => some ((e.2.1, e.2.2) :: q.1, q.2))
        else none)
    else
      (match nt_tk ys P with
      | none => none
      | some q => some ((1, 0) :: q.1, q.2))
def nt_ln : List (Nat × Nat) → Nat
  | [] => 0
  | q :: ps => q.1 + nt_ln ps
def nt_nb (T : Nat → Nat → Nat) : List Nat → List (Nat × Nat) → Nat → Nat
  | s :: ys, q :: ps, n => gc_sum (fun p => gd_w T s ys n p) q.1 + q.2 * gc_E T ys (n - q.1) + nt_nb T ys ps (n - q.1)
  | _, _, _ => 0
def nt_fd (T : Nat → Nat → Nat) (G : gg_R) (r : Nat) (P : List (Nat × Nat × Nat)) : Option (List (Nat × Nat × Nat)) :=
  match nt_tk (gg_y G r) P with
  | none => none
  | some q => some ((gg_l G r, nt_ln q.1, gc_pt T G (fun _ => true) (gg_l G r) (nt_ln q.1) r + nt_nb T (gg_y G r) q.1 (nt_ln q.1)) :: q.2)
def nt_nf (T : Nat → Nat → Nat) (G : gg_R) : List Nat → Option (List (Nat × Nat × Nat))
  | [] => some []
  | r :: rs =>
    match nt_nf T G rs with
    | none => none
    | some P => nt_fd T G r P
/-- terminals of a row of symbols, of the rules of a list -/
def nt_tm : List Nat → Nat
  | [] => 0
  | s :: ys => (if s < 8 then 0 else 1) + nt_tm ys
def nt_tt (G : gg_R) : List Nat → Nat
  | [] => 0
  | r :: rs => nt_tm (gg_y G r) + nt_tt G rs
theorem nt_tm_eq : ∀ ys : List Nat, nt_tm ys + gg_ntn ys = ys.length
  | [] => rfl
  | s :: ys => by
    have := nt_tm_eq ys
    show ((if s < 8 then 0 else 1) + nt_tm ys) + ((if s < 8 then 1 else 0) + gg_ntn ys) = ys.length + 1
    split <;> omega
theorem nt_tk_nt {s : Nat} {ys : List Nat} {e : Nat × Nat × Nat} {P : List (Nat × Nat × Nat)} (hs : s < 8) (he : e.1 = s) : nt_tk (s :: ys) (e :: P) = match nt_tk ys P with | none => none | some q => some ((e.2.1, e.2.2) :: q.1, q.2) := by
  show (if s < 8 then (if e.1 = s then (match nt_tk ys P with | none => none | some q => some ((e.2.1, e.2.2) :: q.1, q.2)) else none) else _) = _
  rw [if_pos hs, if_pos he]
theorem nt_tk_ne {s : Nat} {ys : List Nat} {e : Nat × Nat × Nat} {P : List (Nat × Nat × Nat)} (hs : s < 8) (he : e.1 ≠ s) : nt_tk (s :: ys) (e :: P) = none := by
  show (if s < 8 then (if e.1 = s then _ else none) else _) = _
  rw [if_pos hs, if_neg he]
theorem nt_tk_no {s : Nat} {ys : List Nat} (hs : s < 8) : nt_tk (s :: ys) [] = none := by
  show (if s < 8 then none else _) = _
  rw [if_pos hs]
theorem nt_tk_t {s : Nat} {ys : List Nat} {P : List (Nat × Nat × Nat)} (hs : ¬ s < 8) : nt_tk (s :: ys) P = match nt_tk ys P with | none => none | some q => some ((1, 0) :: q.1, q.2) := by
  cases P with
  | nil =>
    show (if s < 8 then none else _) = _
    rw [if_neg hs]
  | cons e P =>
    show (if s < 8 then _ else _) = _
    rw [if_neg hs]
/-- what a taking shows -/
theorem nt_tk_ok {T : Nat → Nat → Nat} : ∀ (ys : List Nat) (P : List (Nat × Nat × Nat)) (ps : List (Nat × Nat)) (R : List (Nat × Nat × Nat)), nt_tk ys P = some (ps, R) →
    ps.length = ys.length ∧ nt_ln ps + gd_ln R = gd_ln P + nt_tm ys ∧ P.length = R.length + gg_ntn ys ∧ (∀ e, e ∈ R → e ∈ P)
  | [], P, ps, R, h => by
    injection h with h
    injection h with h1 h2
    subst h1
    subst h2
    exact ⟨rfl, by show 0 + gd_ln P = gd_ln P + 0; omega, rfl, fun e he => he⟩
  | s :: ys, P, ps, R, h => by
    by_cases hs : s < 8
    · cases P with
      | nil => rw [nt_tk_no hs] at h; cases h
      | cons e P =>
        by_cases he : e.1 = s
        · rw [nt_tk_nt hs he] at h
          cases hq : nt_tk ys P with
          | none => rw [hq] at h; cases h
          | some q =>
            rw [hq] at h
            injection h with h
            injection h with h1 h2
            obtain ⟨a1, a2, a3, a4⟩ := nt_tk_ok (T := T) ys P q.1 q.2 hq
            subst h1
            subst h2
            refine ⟨congrArg (· + 1) a1, ?_, ?_, fun x hx => List.mem_cons_of_mem _ (a4 x hx)⟩
            · show (e.2.1 + nt_ln q.1) + gd_ln q.2 = (e.2.1 + gd_ln P) + ((if s < 8 then 0 else 1) + nt_tm ys)
              rw [if_pos hs]
              omega
            · show P.length + 1 = q.2.length + ((if s < 8 then 1 else 0) + gg_ntn ys)
              rw [if_pos hs]
              omega
        · rw [nt_tk_ne hs he] at h
          cases h
    · rw [nt_tk_t hs] at h
      cases hq : nt_tk ys P with
      | none => rw [hq] at h; cases h
      | some q =>
        rw [hq] at h
        injection h with h
        injection h with h1 h2
        obtain ⟨a1, a2, a3, a4⟩ := nt_tk_ok (T := T) ys P q.1 q.2 hq
        subst h1
        subst h2
        refine ⟨congrArg (· + 1) a1, ?_, ?_, a4⟩
        · show (1 + nt_ln q.1) + gd_ln q.2 = gd_ln P + ((if s < 8 then 0 else 1) + nt_tm ys)
          rw [if_neg hs]
          omega
        · show P.length = q.2.length + ((if s < 8 then 1 else 0) + gg_ntn ys)
          rw [if_neg hs]
          omega
/-- an entry that is a tree's, if there aren't too many -/
def nt_v (T : Nat → Nat → Nat) (e : Nat × Nat × Nat) : Prop := e.1 < 8 ∧ 1 ≤ T e.1 e.2.1 ∧ (T e.1 e.2.1 ≤ 1000000000000000000 → e.2.2 < T e.1 e.2.1)
def nt_pv (T : Nat → Nat → Nat) : List Nat → List (Nat × Nat) → Prop
  | s :: ys, q :: ps => 1 ≤ gd_F T s q.1 ∧ (gd_F T s q.1 ≤ 1000000000000000000 → q.2 < gd_F T s q.1) ∧ nt_pv T ys ps
  | _, _ => True
theorem nt_tk_pv {T : Nat → Nat → Nat} : ∀ (ys : List Nat) (P : List (Nat × Nat × Nat)) (ps : List (Nat × Nat)) (R : List (Nat × Nat × Nat)), nt_tk ys P = some (ps, R) → (∀ e, e ∈ P → nt_v T e) → nt_pv T ys ps
  | [], P, ps, R, h, _ => by
    injection h with h
    injection h with h1 h2
    subst h1
    trivial
  | s :: ys, P, ps, R, h, hv => by
    by_cases hs : s < 8
    · cases P with
      | nil => rw [nt_tk_no hs] at h; cases h
      | cons e P =>
        by_cases he : e.1 = s
        · rw [nt_tk_nt hs he] at h
          cases hq : nt_tk ys P with
          | none => rw [hq] at h; cases h
          | some q =>
            rw [hq] at h
            injection h with h
            injection h with h1 h2
            subst h1
            obtain ⟨v1, v2, v3⟩ := hv e List.mem_cons_self
            have hF : gd_F T s e.2.1 = T e.1 e.2.1 := by unfold gd_F; rw [if_pos hs, he]
            refine ⟨?_, fun z => ?_, nt_tk_pv ys P q.1 q.2 hq (fun x hx => hv x (List.mem_cons_of_mem _ hx))⟩
            · show 1 ≤ gd_F T s e.2.1
              rw [hF]
              exact v2
            · show e.2.2 < gd_F T s e.2.1
              rw [hF]
              have z : gd_F T s e.2.1 ≤ 1000000000000000000 := z
              rw [hF] at z
              exact v3 z
        · rw [nt_tk_ne hs he] at h
          cases h
    · rw [nt_tk_t hs] at h
      cases hq : nt_tk ys P with
      | none => rw [hq] at h; cases h
      | some q =>
        rw [hq] at h
        injection h with h
        injection h with h1 h2
        subst h1
        have hF : gd_F T s 1 = 1 := by unfold gd_F; rw [if_neg hs, if_pos rfl]
        refine ⟨?_, fun _ => ?_, nt_tk_pv ys P q.1 q.2 hq hv⟩
        · show 1 ≤ gd_F T s 1
          rw [hF]
          exact Nat.le_refl 1
        · show 0 < gd_F T s 1
          rw [hF]
          exact Nat.zero_lt_one
theorem gc_cap_pos {a : Nat} (h : 1 ≤ a) : 1 ≤ gc_cap a := by
  unfold gc_cap
  split <;> omega
/-- there is a way, and the number of this one is below their count -/
theorem nt_nb_lt {T : Nat → Nat → Nat} : ∀ (ys : List Nat) (ps : List (Nat × Nat)) (n : Nat), ps.length = ys.length → nt_ln ps = n → nt_pv T ys ps → 1 ≤ gc_E T ys n ∧ (gc_E T ys n ≤ 1000000000000000000 → nt_nb T ys ps n < gc_E T ys n)
  | [], [], n, _, hn, _ => by
    have hn : 0 = n := hn
    subst hn
    exact ⟨Nat.le_refl 1, fun _ => Nat.zero_lt_one⟩
  | s :: ys, q :: ps, n, hl, hn, hv => by
    have hl : ps.length + 1 = ys.length + 1 := hl
    have hn : q.1 + nt_ln ps = n := hn
    obtain ⟨v1, v2, v3⟩ := hv
    obtain ⟨i1, i2⟩ := nt_nb_lt ys ps (n - q.1) (by omega) (by omega) v3
    have hmono := gc_sum_mono (fun p => gd_F T s p * gc_E T ys (n - p)) (q.1 + 1) (n + 1) (by omega)
    have hs1 : gc_sum (fun p => gd_F T s p * gc_E T ys (n - p)) (q.1 + 1) = gc_sum (fun p => gd_F T s p * gc_E T ys (n - p)) q.1 + gd_F T s q.1 * gc_E T ys (n - q.1) := rfl
    have hprod : 1 ≤ gd_F T s q.1 * gc_E T ys (n - q.1) := Nat.mul_pos v1 i1
    rw [gc_E_sum]
    refine ⟨gc_cap_pos (by omega), fun hb => ?_⟩
    obtain ⟨c1, c2⟩ := gc_cap_small hb
    rw [c1]
    have hF2 : gd_F T s q.1 ≤ gd_F T s q.1 * gc_E T ys (n - q.1) := Nat.le_mul_of_pos_right _ i1
    have hE2 : gc_E T ys (n - q.1) ≤ gd_F T s q.1 * gc_E T ys (n - q.1) := Nat.le_mul_of_pos_left _ v1
    have hm := v2 (by omega)
    have hnb := i2 (by omega)
    have hw : gc_sum (fun p => gd_w T s ys n p) q.1 = gc_sum (fun p => gd_F T s p * gc_E T ys (n - p)) q.1 := gc_sum_congr _ (fun p hp => by
      have a := gc_sum_mono (fun p => gd_F T s p * gc_E T ys (n - p)) (p + 1) (n + 1) (by omega)
      have b : gc_sum (fun p => gd_F T s p * gc_E T ys (n - p)) (p + 1) = gc_sum (fun p => gd_F T s p * gc_E T ys (n - p)) p + gd_F T s p * gc_E T ys (n - p) := rfl
      unfold gd_w gc_cap
      rw [if_pos (by omega)])
    show gc_sum (fun p => gd_w T s ys n p) q.1 + q.2 * gc_E T ys (n - q.1) + nt_nb T ys ps (n - q.1) < _
    rw [hw]
    have hmul : (q.2 + 1) * gc_E T ys (n - q.1) ≤ gd_F T s q.1 * gc_E T ys (n - q.1) := Nat.mul_le_mul_right _ hm
    rw [Nat.add_mul, Nat.one_mul] at hmul
    omega
/-- a step keeps what holds -/
theorem nt_fd_ok {T : Nat → Nat → Nat} {G : gg_R} {r N : Nat} {P P' : List (Nat × Nat × Nat)} (hG : gg_ok G) (hr : r < G.length) (hok : gd_ok G T N) (h : nt_fd T G r P = some P') (hv : ∀ e, e ∈ P → nt_v T e) (hN : gd_ln P + nt_tm (gg_y G r) < N) : (∀ e, e ∈ P' → nt_v T e) ∧ gd_ln P' = gd_ln P + nt_tm (gg_y G r) ∧ P'.length ≤ P.length + 1 ∧ 1 ≤ P'.length := by
  unfold nt_fd at h
  cases hq : nt_tk (gg_y G r) P with
  | none => rw [hq] at h; cases h
  | some q =>
    rw [hq] at h
    injection h with h
    obtain ⟨a1, a2, a3, a4⟩ := nt_tk_ok (T := T) _ _ _ _ hq
    have hpv := nt_tk_pv _ _ _ _ hq hv
    obtain ⟨b1, b2⟩ := nt_nb_lt _ _ (nt_ln q.1) a1 rfl hpv
    have hl8 := (hG.2 r hr).1
    have hTe := hok (gg_l G r) (nt_ln q.1) hl8 (by omega)
    have hnx : gc_pt T G (fun _ => true) (gg_l G r) (nt_ln q.1) (r + 1) = gc_pt T G (fun _ => true) (gg_l G r) (nt_ln q.1) r + (if true = true ∧ gg_l G r = gg_l G r then gc_E T (gg_y G r) (nt_ln q.1) else 0) := rfl
    rw [if_pos ⟨rfl, rfl⟩] at hnx
    have hle := gc_pt_true_mono T G (gg_l G r) (nt_ln q.1) (r + 1) G.length (by omega)
    subst h
    refine ⟨fun e he => ?_, ?_, ?_, Nat.le_add_left 1 _⟩
    · rcases List.mem_cons.mp he with z | z
      · subst z
        refine ⟨hl8, ?_, fun hb => ?_⟩
        · show 1 ≤ T (gg_l G r) (nt_ln q.1)
          rw [hTe]
          exact gc_cap_pos (by omega)
        · show _ < T (gg_l G r) (nt_ln q.1)
          have hb : T (gg_l G r) (nt_ln q.1) ≤ 1000000000000000000 := hb
          rw [hTe] at hb ⊢
          obtain ⟨c1, c2⟩ := gc_cap_small hb
          rw [c1]
          have := b2 (by omega)
          show gc_pt T G (fun _ => true) (gg_l G r) (nt_ln q.1) r + nt_nb T (gg_y G r) q.1 (nt_ln q.1) < _
          omega
      · exact hv e (a4 e z)
    · show nt_ln q.1 + gd_ln q.2 = _
      omega
    · show q.2.length + 1 ≤ P.length + 1
      omega
theorem nt_nf_ok {T : Nat → Nat → Nat} {G : gg_R} {N : Nat} (hG : gg_ok G) (hok : gd_ok G T N) : ∀ (rs : List Nat) (P : List (Nat × Nat × Nat)), (∀ r, r ∈ rs → r < G.length) → nt_nf T G rs = some P → nt_tt G rs < N → (∀ e, e ∈ P → nt_v T e) ∧ gd_ln P = nt_tt G rs ∧ P.length ≤ rs.length
  | [], P, _, h, _ => by
    injection h with h
    subst h
    exact ⟨fun e he => absurd he List.not_mem_nil, rfl, Nat.le_refl 0⟩
  | r :: rs, P, hr, h, hN => by
    have h : (match nt_nf T G rs with | none => none | some P => nt_fd T G r P) = some P := h
    have hN : nt_tm (gg_y G r) + nt_tt G rs < N := hN
    cases hq : nt_nf T G rs with
    | none => rw [hq] at h; cases h
    | some Q =>
      rw [hq] at h
      obtain ⟨a1, a2, a3⟩ := nt_nf_ok hG hok rs Q (fun x hx => hr x (List.mem_cons_of_mem _ hx)) hq (by omega)
      obtain ⟨b1, b2, b3, -⟩ := nt_fd_ok hG (hr r List.mem_cons_self) hok h a1 (by omega)
      refine ⟨b1, ?_, ?_⟩
      · show _ = nt_tm (gg_y G r) + nt_tt G rs
        omega
      · show _ ≤ rs.length + 1
        omega
theorem nt_nf_none {T : Nat → Nat → Nat} {G : gg_R} : ∀ (i : Nat) (rs : List Nat), nt_nf T G (rs.drop i) = none → nt_nf T G rs = none
  | 0, _, h => h
  | i + 1, [], h => h
  | i + 1, r :: rs, h => by
    have := nt_nf_none i rs h
    show (match nt_nf T G rs with | none => none | some P => nt_fd T G r P) = none
    rw [this]
theorem nt_tt_drop {G : gg_R} : ∀ (i : Nat) (rs : List Nat), nt_tt G (rs.drop i) ≤ nt_tt G rs
  | 0, _ => Nat.le_refl _
  | i + 1, [] => Nat.le_refl _
  | i + 1, r :: rs => by
    have := nt_tt_drop (G := G) i rs
    show nt_tt G (rs.drop i) ≤ nt_tm (gg_y G r) + nt_tt G rs
    omega
section NTC
variable {T T' : Nat → Nat → Nat} {M : Nat}
theorem nt_nb_eq (hT : ∀ x p, x < 8 → p ≤ M → T x p = T' x p) : ∀ (ys : List Nat) (ps : List (Nat × Nat)) (n : Nat), nt_ln ps = n → n ≤ M → nt_nb T ys ps n = nt_nb T' ys ps n
  | [], _, _, _, _ => rfl
  | _ :: _, [], _, _, _ => rfl
  | s :: ys, q :: ps, n, hn, h => by
    have hn : q.1 + nt_ln ps = n := hn
    show gc_sum (fun p => gd_w T s ys n p) q.1 + q.2 * gc_E T ys (n - q.1) + nt_nb T ys ps (n - q.1) = gc_sum (fun p => gd_w T' s ys n p) q.1 + q.2 * gc_E T' ys (n - q.1) + nt_nb T' ys ps (n - q.1)
    rw [gc_sum_congr q.1 (fun p hp => gd_w_eq hT s ys n p h (by omega)), gc_E_upto ys (n - q.1) (fun x p hx hp => hT x p hx (by omega)), nt_nb_eq hT ys ps (n - q.1) (by omega) (by omega)]
theorem nt_fd_eq (hT : ∀ x p, x < 8 → p ≤ M → T x p = T' x p) {G : gg_R} {r : Nat} {P : List (Nat × Nat × Nat)} (h : gd_ln P + nt_tm (gg_y G r) ≤ M) : nt_fd T G r P = nt_fd T' G r P := by
  unfold nt_fd
  cases hq : nt_tk (gg_y G r) P with
  | none => rfl
  | some q =>
    obtain ⟨a1, a2, a3, a4⟩ := nt_tk_ok (T := T) _ _ _ _ hq
    show some ((gg_l G r, nt_ln q.1, gc_pt T G (fun _ => true) (gg_l G r) (nt_ln q.1) r + nt_nb T (gg_y G r) q.1 (nt_ln q.1)) :: q.2) = some ((gg_l G r, nt_ln q.1, gc_pt T' G (fun _ => true) (gg_l G r) (nt_ln q.1) r + nt_nb T' (gg_y G r) q.1 (nt_ln q.1)) :: q.2)
    rw [gc_pt_upto (T := T) (T' := T') (fun x p hx hp => hT x p hx (by omega)), nt_nb_eq hT _ _ (nt_ln q.1) rfl (by omega)]
theorem nt_nf_eq (hT : ∀ x p, x < 8 → p ≤ M → T x p = T' x p) {G : gg_R} {N : Nat} (hG : gg_ok G) (hok : gd_ok G T N) (hMN : M < N) : ∀ rs : List Nat, (∀ r, r ∈ rs → r < G.length) → nt_tt G rs ≤ M → nt_nf T G rs = nt_nf T' G rs
  | [], _, _ => rfl
  | r :: rs, hr, h => by
    have h : nt_tm (gg_y G r) + nt_tt G rs ≤ M := h
    have ih := nt_nf_eq hT hG hok hMN rs (fun x hx => hr x (List.mem_cons_of_mem _ hx)) (by omega)
    show (match nt_nf T G rs with | none => none | some P => nt_fd T G r P) = (match nt_nf T' G rs with | none => none | some P => nt_fd T' G r P)
    rw [← ih]
    cases hq : nt_nf T G rs with
    | none => rfl
    | some P =>
      obtain ⟨a1, a2, a3⟩ := nt_nf_ok hG hok rs P (fun x hx => hr x (List.mem_cons_of_mem _ hx)) hq (by omega)
      exact nt_fd_eq hT (by omega)
end NTC
/-- the list is rules, short enough, and the row of the tree with the number m among those of A -/
def an_nr (G : gg_R) (A : Nat) (l : List Int32) (m : Nat) : Prop := ∃ rs T D o N, l = rs.map nI ∧ (∀ r, r ∈ rs → r < G.length) ∧ nt_tt G rs ≤ 16 ∧ gm_L G D ∧ gg_ord (gg_to G D) o 8 ∧ gc_okk (fun y => D y = some 0) G (fun _ => true) T N ∧ nt_tt G rs < N ∧ T A (nt_tt G rs) ≤ 1000000000000000000 ∧ nt_nf T G rs = some [(A, nt_tt G rs, m)]
theorem nI_map_inj {G : gg_R} (hG : G.length ≤ 24) : ∀ (a b : List Nat), (∀ r, r ∈ a → r < G.length) → (∀ r, r ∈ b → r < G.length) → a.map nI = b.map nI → a = b
  | [], [], _, _, _ => rfl
  | [], _ :: _, _, _, h => by cases h
  | _ :: _, [], _, _, h => by cases h
  | x :: a, y :: b, ha, hb, h => by
    injection h with h1 h2
    have hx := ha x List.mem_cons_self
    have hy := hb y List.mem_cons_self
    rw [(nI_eq (by omega) (by omega)).mp h1, nI_map_inj hG a b (fun r hr => ha r (List.mem_cons_of_mem _ hr)) (fun r hr => hb r (List.mem_cons_of_mem _ hr)) h2]
theorem an_nr_one {G : gg_R} {A m m' : Nat} {l : List Int32} (hG : gg_ok G) (h : an_nr G A l m) (h' : an_nr G A l m') : m = m' := by
  obtain ⟨rs, T, D, o, N, h1, h2, h3, h4, h5, h6, h7, h8, h9⟩ := h
  obtain ⟨rs', T', D', o', N', g1, g2, g3, g4, g5, g6, g7, g8, g9⟩ := h'
  have e : rs = rs' := nI_map_inj hG.1 rs rs' h2 g2 (h1.symm.trans g1)
  subst e
  have hT : ∀ x p, x < 8 → p ≤ nt_tt G rs → T x p = T' x p := fun x p hx hp => gc_two hG h4 g4 h5 h6 g6 p (by omega) (by omega) x hx
  rw [nt_nf_eq hT hG h6.1 h7 rs h2 (Nat.le_refl _), g9] at h9
  injection h9 with h9
  injection h9 with h9 _
  injection h9 with _ h9
  injection h9 with _ h9
  exact h9.symm
end
section
/-! Layer 2: the class's number. -/
theorem nt_tt_app {G : gg_R} : ∀ (a b : List Nat), nt_tt G (a ++ b) = nt_tt G a + nt_tt G b
  | [], b => by show nt_tt G b = 0 + nt_tt G b; omega
  | r :: a, b => by
    have := nt_tt_app (G := G) a b
    show nt_tm (gg_y G r) + nt_tt G (a ++ b) = (nt_tm (gg_y G r) + nt_tt G a) + nt_tt G b
    omega
theorem map_getD {l : List Int32} {rs : List Nat} {i : Nat} (h : l = rs.map nI) (hi : i < rs.length) : l.getD i 0 = nI (rs.getD i 0) := by
  rw [h, List.getD_eq_getElem?_getD, List.getElem?_map, List.getElem?_eq_getElem hi, gg_getD hi]
  rfl
section M2K
variable {G : gg_R} {σ : gs_St} {T : Nat → Nat → Nat} {N : Nat} {l : List Int32}
theorem s_terminals {K : Int32 → gs_St → Prop} (h : gr_at G σ) (hl : li_at l σ) (k0 : (∀ rs : List Nat, l = rs.map nI → ¬ ∀ r, r ∈ rs → r < G.length) → K (-1) σ) (k1 : ∀ rs : List Nat, l = rs.map nI → (∀ r, r ∈ rs → r < G.length) → nt_tt G rs ≤ 1200 → K (nI (nt_tt G rs)) σ) : C_Li_terminals σ K := by
  intro X4 h4
  have hG := h.1.1
  obtain ⟨l1, l2, l3⟩ := hl
  have key : ∀ (n i : Nat) (rs : List Nat), i + n = l.length → rs.length = i → l.take i = rs.map nI → (∀ r, r ∈ rs → r < G.length) → nt_tt G rs ≤ 6 * i → X4 (nI (nt_tt G rs)) (nI i) σ := by
    intro n
    induction n with
    | zero =>
      intro i rs hi hrl hrs hv hb
      have hi : i = l.length := hi
      apply h4
      refine pk_le l.length i (fun _ => ?_) (fun q => absurd q (by omega)) l2
      refine k1 rs ?_ hv (by omega)
      rw [← hrs, hi, List.take_length]
    | succ n ih =>
      intro i rs hi hrl hrs hv hb
      have hi' : i < l.length := by omega
      have vi : vp_in (nI i) 200 := vp_in_nI (by omega) (by decide)
      apply h4
      refine pk_le l.length i (fun q => absurd q (by omega)) (fun _ => ⟨vi, ?_⟩) l2
      rw [nI_clamp (by omega), l3 i hi']
      refine s_has h (fun r hr er => br_t (by decide) ⟨vi, ?_⟩) (fun hno => br_f (fun z => z rfl) (k0 (fun rs2 e2 hv2 => ?_)))
      · obtain ⟨hl8, hz, h24⟩ := h.1.2 r hr
        have htm := nt_tm_eq (gg_y G r)
        rw [l3 i hi', er]
        refine s_sizeOf h hr ⟨vi, ?_⟩
        rw [l3 i hi', er]
        refine s_ntIn h hr ?_
        have etm : (gg_y G r).length - gg_ntn (gg_y G r) = nt_tm (gg_y G r) := by omega
        rw [pk_sub (by omega), etm, nI_add]
        have ett : nt_tt G rs + nt_tm (gg_y G r) = nt_tt G (rs ++ [r]) := by
          rw [nt_tt_app]
          rfl
        rw [ett]
        refine nm_e (nm_r (nI_1 i) (ih (i + 1) (rs ++ [r]) (by omega) (by rw [List.length_append, hrl]; rfl) ?_ (fun q hq => ?_) (by rw [← ett]; omega)))
        · rw [List.take_succ, hrs, List.map_append, List.getElem?_eq_getElem hi']
          congr 1
          have : l.getD i 0 = l[i] := gg_getD hi'
          rw [er] at this
          rw [← this]
          rfl
        · rcases List.mem_append.mp hq with z | z
          · exact hv q z
          · rw [List.mem_singleton.mp z]
            exact hr
      · have hlen : rs2.length = l.length := by rw [e2, List.length_map]
        have e := map_getD e2 (show i < rs2.length by omega)
        refine hno (rs2.getD i 0) (hv2 _ ?_) e
        rw [gg_getD (show i < rs2.length by omega)]
        exact List.getElem_mem _
  exact key l.length 0 [] (by omega) rfl rfl (fun r hr => absurd hr List.not_mem_nil) (Nat.le_refl 0)
theorem s_treesBefore {r n : Nat} {K : Int64 → gs_St → Prop} (h : gr_at G σ) (hr : r < G.length) (hn : n < N) (hN : N ≤ 17) (hE : ∀ q, q < G.length → gE_at T q N (gg_y G q) σ) (k : K (lN (gc_pt T G (fun _ => true) (gg_l G r) n r)) σ) : C_Li_treesBefore (nI r) (nI n) σ K := by
  intro X5 h5
  have hG := h.1.1
  have hl8 := (h.1.2 r hr).1
  have key : ∀ (c q : Nat), q + c = r → X5 (nI r) (nI n) (lN (gc_pt T G (fun _ => true) (gg_l G r) n q)) (nI q) σ := by
    intro c
    induction c with
    | zero =>
      intro q hq
      have hq : q = r := hq
      subst hq
      apply h5
      exact pk_le q q (fun _ => k) (fun z => absurd z (by omega))
    | succ c ih =>
      intro q hq
      have hq' : q < G.length := by omega
      have hl8q := (h.1.2 q hq').1
      have hnx : gc_pt T G (fun _ => true) (gg_l G r) n (q + 1) = gc_pt T G (fun _ => true) (gg_l G r) n q + (if true = true ∧ gg_l G q = gg_l G r then gc_E T (gg_y G q) n else 0) := rfl
      apply h5
      refine pk_le r q (fun z => absurd z (by omega)) (fun _ => ?_)
      refine s_leftOf h hq' (s_leftOf h hr ?_)
      refine ek_if (not_congr (nI_eq (by omega) (by omega))) (fun z => ?_) (fun z => ?_)
      · have e : gc_pt T G (fun _ => true) (gg_l G r) n (q + 1) = gc_pt T G (fun _ => true) (gg_l G r) n q := hnx.trans (by rw [if_neg (fun y => z y.2)]; rfl)
        rw [← e]
        exact nm_r (nI_1 q) (ih (q + 1) (by omega))
      · have z : gg_l G q = gg_l G r := Classical.byContradiction z
        rw [if_pos ⟨rfl, z⟩] at hnx
        refine s_endingsOf (i := 0) (by omega) (by decide) (by omega) ?_
        have hv : σ.2.2 1 (ge_at q 0 n) = lN (gc_E T (gg_y G q) n) := hE q hq' 0 (Nat.zero_le _) n hn
        rw [hv, lN_add, ← hnx]
        exact nm_e (nm_r (nI_1 q) (ih (q + 1) (by omega)))
  exact key r 0 (by omega)
theorem s_numberInRule {r n : Nat} {P R : List (Nat × Nat × Nat)} {ps : List (Nat × Nat)} {K : Int64 → gs_St → Prop} (h : gr_at G σ) (hr : r < G.length) (hN : N ≤ 17) (hT : gt_at T N σ) (hTb : ∀ A p, T A p ≤ 1000000000000000001) (hE : gE_at T r N (gg_y G r) σ) (h8 : σ.1 8 = nI P.length) (hP : P.length ≤ 200) (hpi : pi_at P σ) (htk : nt_tk (gg_y G r) P = some (ps, R)) (hln : nt_ln ps = n) (hn : n < N)
    (k : K (lN (nt_nb T (gg_y G r) ps n)) σ) : C_Li_numberInRule (nI r) (nI n) σ K := by
  intro X17 X82 h17 h82
  have hG := h.1.1
  obtain ⟨hl8, hz, h24⟩ := h.1.2 r hr
  have key : ∀ (zs : List Nat) (i left sum : Nat) (Q : List (Nat × Nat × Nat)) (qs : List (Nat × Nat)), (gg_y G r).drop i = zs → i + zs.length = (gg_y G r).length → nt_tk zs Q = some (qs, R) → nt_ln qs = left → left ≤ n → Q.length ≤ 200 → pi_at Q σ → sum + nt_nb T zs qs left = nt_nb T (gg_y G r) ps n → X17 (nI r) (lN sum) (nI left) (nI Q.length) (nI i) σ := by
    intro zs
    induction zs with
    | nil =>
      intro i left sum Q qs hd hi htk hl hle hQ hpi hs
      have hi : i = (gg_y G r).length := hi
      apply h17
      refine s_sizeOf h hr (pk_le (gg_y G r).length i (fun _ => ?_) (fun z => absurd z (by omega)))
      have hs : sum + 0 = nt_nb T (gg_y G r) ps n := hs
      rw [← hs] at k
      exact k
    | cons s zs ih =>
      intro i left sum Q qs hd hi htk hl hle hQ hpi hs
      obtain ⟨h1, h2, h3⟩ := gg_cons hd
      have hi : i + (zs.length + 1) = (gg_y G r).length := hi
      have hs24 := h24 i h1
      rw [h2] at hs24
      -- behind the symbol's part and number
      have part : ∀ (p m : Nat) (Q' : List (Nat × Nat × Nat)) (qs' : List (Nat × Nat)), nt_tk zs Q' = some (qs', R) → p + nt_ln qs' = left → Q'.length ≤ 200 → pi_at Q' σ → sum + (gc_sum (fun q => gd_w T s zs left q) p + m * gc_E T zs (left - p) + nt_nb T zs qs' (left - p)) = nt_nb T (gg_y G r) ps n → X82 (nI r) (lN sum) (nI left) (nI Q'.length) (nI i) (nI p) (lN m) 0 σ := by
        intro p m Q' qs' htk' hp hQ' hpi' hs'
        have inner : ∀ (c q : Nat), q + c = p → X82 (nI r) (lN (sum + gc_sum (fun q => gd_w T s zs left q) q)) (nI left) (nI Q'.length) (nI i) (nI p) (lN m) (nI q) σ := by
          intro c
          induction c with
          | zero =>
            intro q hq
            have hq : q = p := hq
            subst hq
            apply h82
            refine pk_le q q (fun _ => nm_r (pk_sub (by omega)) ?_) (fun z => absurd z (by omega))
            rw [nI_1]
            refine s_endingsOf (by omega) (by omega) (by omega) ?_
            rw [hE (i + 1) (by omega) (left - q) (by omega), h3, lN_mul, lN_add]
            exact nm_e (nm_e (ih (i + 1) (left - q) _ Q' qs' h3 (by omega) htk' (by omega) (by omega) hQ' hpi' (by omega)))
          | succ c ihc =>
            intro q hq
            apply h82
            refine pk_le p q (fun z => absurd z (by omega)) (fun _ => ?_)
            refine s_endingsWith (T := T) (N := N) h hr h1 (by omega) (by omega) hN hT hTb hE ?_
            rw [h2, h3, lN_add]
            have e : sum + gc_sum (fun q => gd_w T s zs left q) q + gd_w T s zs left q = sum + gc_sum (fun q => gd_w T s zs left q) (q + 1) := by
              show _ = sum + (gc_sum (fun q => gd_w T s zs left q) q + gd_w T s zs left q)
              omega
            rw [e]
            exact nm_e (nm_r (nI_1 q) (ihc (q + 1) (by omega)))
        exact inner p 0 (by omega)
      apply h17
      refine s_sizeOf h hr (pk_le (gg_y G r).length i (fun z => absurd z (by omega)) (fun _ => ?_))
      refine s_symbolAt h hr h1 ?_
      rw [h2]
      by_cases hs8 : s < 8
      · refine s_isNtN (by omega) (fun _ => br_f (by decide) ?_) (fun z => absurd hs8 (by omega))
        cases Q with
        | nil => rw [nt_tk_no hs8] at htk; cases htk
        | cons e Q' =>
          by_cases he : e.1 = s
          · rw [nt_tk_nt hs8 he] at htk
            cases hq : nt_tk zs Q' with
            | none => rw [hq] at htk; cases htk
            | some q =>
              rw [hq] at htk
              injection htk with htk
              injection htk with t1 t2
              subst t1
              have hlenQ : (e :: Q').length = Q'.length + 1 := rfl
              have top := hpi 0 e rfl
              rw [hlenQ, show Q'.length + 1 - 1 - 0 = Q'.length by omega] at top
              have rest : pi_at Q' σ := fun k x hk => by
                have := hpi (k + 1) x hk
                rw [hlenQ, show Q'.length + 1 - 1 - (k + 1) = Q'.length - 1 - k by omega] at this
                exact this
              rw [hlenQ]
              have vq : vp_in (nI Q'.length) 216 := vp_in_nI (by omega) (by decide)
              refine nm_r (pk_m1 _) ⟨vq, ?_⟩
              rw [nI_clamp (by omega), top.2.1, top.2.2]
              have hl' : e.2.1 + nt_ln q.1 = left := hl
              refine nm_e ⟨vq, nm_e (part e.2.1 e.2.2 Q' q.1 (by rw [hq, ← t2]) hl' (by omega) rest ?_)⟩
              exact hs
          · rw [nt_tk_ne hs8 he] at htk
            cases htk
      · refine s_isNtN (by omega) (fun z => absurd z hs8) (fun _ => br_t rfl ?_)
        rw [nt_tk_t hs8] at htk
        cases hq : nt_tk zs Q with
        | none => rw [hq] at htk; cases htk
        | some q =>
          rw [hq] at htk
          injection htk with htk
          injection htk with t1 t2
          subst t1
          have hl' : 1 + nt_ln q.1 = left := hl
          exact part 1 0 Q q.1 (by rw [hq, ← t2]) hl' hQ hpi hs
  refine nm_r h8 ?_
  exact key (gg_y G r) 0 n 0 P ps rfl (by omega) htk hln (Nat.le_refl _) hP hpi (Nat.zero_add _)
theorem s_fold {r : Nat} {P : List (Nat × Nat × Nat)} {K : Int32 → gs_St → Prop} (h : gr_at G σ) (hr : r < G.length) (hN : N ≤ 17) (hT : gt_at T N σ) (hTb : ∀ A p, T A p ≤ 1000000000000000001) (hE : ∀ q, q < G.length → gE_at T q N (gg_y G q) σ) (h8 : σ.1 8 = nI P.length) (hP : P.length ≤ 200) (hpi : pi_at P σ) (hs24 : ∀ e, e ∈ P → e.1 < 24) (hn : gd_ln P + nt_tm (gg_y G r) < N)
    (k0 : nt_fd T G r P = none → K 0 σ) (k1 : ∀ P' τ, nt_fd T G r P = some P' → fr_w σ τ → τ.1 8 = nI P'.length → pi_at P' τ → K 1 τ) : C_Li_fold (nI r) σ K := by
  intro X13 h13
  have hG := h.1.1
  obtain ⟨hl8, hz, h24⟩ := h.1.2 r hr
  have key : ∀ (zs : List Nat) (i : Nat) (Q : List (Nat × Nat × Nat)) (pre : List (Nat × Nat)), (gg_y G r).drop i = zs → i + zs.length = (gg_y G r).length → Q.length ≤ 200 → pi_at Q σ → (∀ e, e ∈ Q → e.1 < 24) → (nt_tk zs Q = none → nt_tk (gg_y G r) P = none) → (∀ qs R, nt_tk zs Q = some (qs, R) → nt_tk (gg_y G r) P = some (pre ++ qs, R)) → X13 (nI r) (nI (nt_ln pre)) (nI Q.length) (nI i) σ := by
    intro zs
    induction zs with
    | nil =>
      intro i Q pre hd hi hQ hpiQ hs24 hno hyes
      have hi : i = (gg_y G r).length := hi
      have htk := hyes [] Q rfl
      rw [List.append_nil] at htk
      obtain ⟨a1, a2, a3, a4⟩ := nt_tk_ok (T := T) _ _ _ _ htk
      apply h13
      refine s_sizeOf h hr (pk_le (gg_y G r).length i (fun _ => ?_) (fun z => absurd z (by omega)))
      refine s_treesBefore (T := T) (N := N) h hr (by omega) hN hE ?_
      refine s_numberInRule (T := T) (N := N) h hr hN hT hTb (hE r hr) h8 hP hpi htk rfl (by omega) ?_
      refine nm_r (lN_add _ _) (s_leftOf h hr ?_)
      refine s_put (j := Q.length) (by omega) (fun τ f2 g1 _ _ hpc hold => ?_)
      intro σ12 e12
      have hfd : nt_fd T G r P = some ((gg_l G r, nt_ln pre, gc_pt T G (fun _ => true) (gg_l G r) (nt_ln pre) r + nt_nb T (gg_y G r) pre (nt_ln pre)) :: Q) := by
        unfold nt_fd
        rw [htk]
      refine k1 _ σ12 hfd (by rw [e12]; exact f2.tr (fr_w.I (Or.inl rfl))) ?_ (fun k e hk => ?_)
      · rw [e12]
        show nI Q.length + 1 = _
        rw [nI_1]
        rfl
      · rw [e12]
        show pc_at τ (Q.length + 1 - 1 - k) e
        cases k with
        | zero =>
          injection hk with hk
          rw [← hk, show Q.length + 1 - 1 - 0 = Q.length by omega]
          exact hpc
        | succ k =>
          have hk : Q[k]? = some e := hk
          have hkl : k < Q.length := (List.getElem?_eq_some_iff.mp hk).1
          rw [show Q.length + 1 - 1 - (k + 1) = Q.length - 1 - k by omega]
          exact hold _ e (by omega) (hpiQ k e hk)
    | cons s zs ih =>
      intro i Q pre hd hi hQ hpiQ hs24 hno hyes
      obtain ⟨h1, h2, h3⟩ := gg_cons hd
      have hi : i + (zs.length + 1) = (gg_y G r).length := hi
      have hs24' := h24 i h1
      rw [h2] at hs24'
      have stop : nt_tk (s :: zs) Q = none → K 0 σ := fun z => k0 (by unfold nt_fd; rw [hno z])
      have lna : ∀ a : Nat × Nat, nt_ln (pre ++ [a]) = nt_ln pre + a.1 := fun a => by
        have gen : ∀ x : List (Nat × Nat), nt_ln (x ++ [a]) = nt_ln x + a.1 := by
          intro x
          induction x with
          | nil => show a.1 + 0 = 0 + a.1; omega
          | cons y x ihx => show y.1 + nt_ln (x ++ [a]) = (y.1 + nt_ln x) + a.1; omega
        exact gen pre
      apply h13
      refine s_sizeOf h hr (pk_le (gg_y G r).length i (fun z => absurd z (by omega)) (fun _ => ?_))
      refine s_symbolAt h hr h1 ?_
      rw [h2]
      by_cases hs8 : s < 8
      · refine s_isNtN (by omega) (fun _ => br_t (by decide) ?_) (fun z => absurd hs8 (by omega))
        cases Q with
        | nil => exact nm_e (br_t (by decide) (stop (nt_tk_no hs8)))
        | cons e Q' =>
          have hlenQ : (e :: Q').length = Q'.length + 1 := rfl
          have top := hpiQ 0 e rfl
          rw [hlenQ, show Q'.length + 1 - 1 - 0 = Q'.length by omega] at top
          have rest : pi_at Q' σ := fun k x hk => by
            have := hpiQ (k + 1) x hk
            rw [hlenQ, show Q'.length + 1 - 1 - (k + 1) = Q'.length - 1 - k by omega] at this
            exact this
          have he24 := hs24 e List.mem_cons_self
          have vq : vp_in (nI Q'.length) 216 := vp_in_nI (by omega) (by decide)
          rw [hlenQ]
          refine nm_r (pk_m1 _) (br_f (nI_pos (by omega)) ⟨vq, ?_⟩)
          rw [nI_clamp (by omega), top.1, top.2.1]
          refine ek_if (nI_eq (by omega) (by omega)) (fun he => ⟨vq, ?_⟩) (fun he => stop (nt_tk_ne hs8 he))
          refine nm_r (nI_add _ _) (nm_r (nI_1 i) ?_)
          rw [← lna (e.2.1, e.2.2)]
          refine ih (i + 1) Q' (pre ++ [(e.2.1, e.2.2)]) h3 (by omega) (by omega) rest (fun x hx => hs24 x (List.mem_cons_of_mem _ hx)) (fun z => hno (by rw [nt_tk_nt hs8 he, z])) (fun qs R z => ?_)
          rw [hyes ((e.2.1, e.2.2) :: qs) R (by rw [nt_tk_nt hs8 he, z]), List.append_assoc]
          rfl
      · refine s_isNtN (by omega) (fun z => absurd z hs8) (fun _ => br_f (fun z => z rfl) ?_)
        refine nm_r (nI_1 _) (nm_r (nI_1 i) ?_)
        have e1 : nt_ln pre + 1 = nt_ln (pre ++ [(1, 0)]) := (lna (1, 0)).symm
        rw [e1]
        refine ih (i + 1) Q (pre ++ [(1, 0)]) h3 (by omega) hQ hpiQ hs24 (fun z => hno (by rw [nt_tk_t hs8, z])) (fun qs R z => ?_)
        rw [hyes ((1, 0) :: qs) R (by rw [nt_tk_t hs8, z]), List.append_assoc]
        rfl
  refine nm_r h8 ?_
  exact key (gg_y G r) 0 P [] rfl (by omega) hP hpi hs24 (fun z => z) (fun qs R z => z)
end M2K
section M2K2
variable {G : gg_R} {σ : gs_St} {t : List Nat} {l : List Int32} {d v : List Nat} {D O : Nat → Option Nat} {o : Nat → Nat} {T T' : Nat → Nat → Nat} {N N' : Nat}
theorem cl_fr {τ : gs_St} (hτ : cl_r t G l d v σ) (hw : st_w G D O o 8 T T' N N' σ) (f2 : fr_w σ τ) : cl_at t G l d v τ := by
  have fI := fun k a b c e => f2.1 k a b c e
  have fA := fun k a b c e => f2.2.1 k a b c e
  refine ⟨hτ.1.of (fI 0 (by decide) (by decide) (by decide) (by decide)) (fA 0 (by decide) (by decide) (by decide) (by decide)), f2.gr hτ.2.1, hτ.2.2.1.of (fI 14 (by decide) (by decide) (by decide) (by decide)) (fA 14 (by decide) (by decide) (by decide) (by decide)), hτ.2.2.2.1.of (fI 10 (by decide) (by decide) (by decide) (by decide)) (fI 11 (by decide) (by decide) (by decide) (by decide)) (fA 10 (by decide) (by decide) (by decide) (by decide)) (fA 11 (by decide) (by decide) (by decide) (by decide)), (fI 4 (by decide) (by decide) (by decide) (by decide)).trans hτ.2.2.2.2.1, Or.inr ⟨(fI 1 (by decide) (by decide) (by decide) (by decide)).trans hτ.2.2.2.2.2, ?_⟩⟩
  exact st_at.of ⟨D, O, o, 8, T, T', N, N', hw⟩ (fA 4 (by decide) (by decide) (by decide) (by decide)) (fA 5 (by decide) (by decide) (by decide) (by decide)) (fA 7 (by decide) (by decide) (by decide) (by decide)) (fI 3 (by decide) (by decide) (by decide) (by decide)) (fI 5 (by decide) (by decide) (by decide) (by decide)) (fI 6 (by decide) (by decide) (by decide) (by decide)) (fI 7 (by decide) (by decide) (by decide) (by decide)) (f2.2.2 0 (by decide)) (f2.2.2 1 (by decide)) (f2.2.2 2 (by decide)) (f2.2.2 3 (by decide))
/-- where the walk doesn't end in one tree of A, there is no such number -/
theorem an_nr_no {A : Nat} {rs : List Nat} (hG : gg_ok G) (hA : A < 8) (hl : l = rs.map nI) (hv : ∀ r, r ∈ rs → r < G.length) (hD : gm_L G D) (ho : gg_ord (gg_to G D) o 8) (hok : gc_okk (fun y => D y = some 0) G (fun _ => true) T N) (hN : nt_tt G rs < N) (hno : ¬ (T A (nt_tt G rs) ≤ 1000000000000000000 ∧ ∃ m, nt_nf T G rs = some [(A, nt_tt G rs, m)])) : ∀ m, ¬ an_nr G A l m := by
  rintro m ⟨rs', T2, D2, o2, N2, g1, g2, g3, g4, g5, g6, g7, g8, g9⟩
  have e : rs = rs' := nI_map_inj hG.1 rs rs' hv g2 (hl.symm.trans g1)
  subst e
  have hT : ∀ x p, x < 8 → p ≤ nt_tt G rs → T2 x p = T x p := fun x p hx hp => gc_two hG g4 hD g5 g6 hok p (by omega) (by omega) x hx
  refine hno ⟨?_, m, ?_⟩
  · rw [← hT A (nt_tt G rs) hA (Nat.le_refl _)]
    exact g8
  · rw [← nt_nf_eq hT hG g6.1 g7 rs hv (Nat.le_refl _)]
    exact g9
theorem s_numberOf {A : Nat} {K : Int64 → gs_St → Prop} (h : cl_r t G l d v σ) (hw : st_w G D O o 8 T T' N N' σ) (hA : A < 8)
    (k0 : ∀ τ, cl_at t G l d v τ → (∀ m, ¬ an_nr G A l m) → K (-1) τ) (k1 : ∀ m τ, cl_at t G l d v τ → an_nr G A l m → K (lN m) τ) : C_Li_numberOf (nI A) σ K := by
  intro X51 h51
  refine s_terminals h.2.1 h.2.2.1 (fun hno => br_t rfl (k0 σ (h.cl ⟨D, O, o, 8, T, T', N, N', hw⟩) (fun m hm => ?_))) (fun rs hrs hv htt => ?_)
  · obtain ⟨rs, T2, D2, o2, N2, g1, g2, -⟩ := hm
    exact hno rs g1 g2
  · have hG24 := h.2.1.1.1
    refine br_f (fun z => ?_) ?_
    · have := nI_pos (n := nt_tt G rs) (by omega)
      rw [z] at this
      exact this (by decide)
    refine pk_lt 16 (nt_tt G rs) (fun q => k0 σ (h.cl ⟨D, O, o, 8, T, T', N, N', hw⟩) (fun m hm => ?_)) (fun q => ?_)
    · obtain ⟨rs2, T2, D2, o2, N2, g1, g2, g3, -⟩ := hm
      have e : rs = rs2 := nI_map_inj hG24 rs rs2 hv g2 (hrs.symm.trans g1)
      subst e
      omega
    · refine s_treesAll h hw hA q (fun T2 N2 τ hτ hw2 hn2 => ?_)
      obtain ⟨h1, h2, h3, h4, h5, h6, h7, h8, h9, h10, h11, h12, h13, h14, h15, h16, h17⟩ := id hw2
      have hb := h14.1 A (nt_tt G rs)
      rw [gl_18]
      refine ek_if (pk_lLE (by omega) (by decide)) (fun qT => ?_) (fun qT => k0 τ (hτ.cl ⟨D, O, o, 8, T2, T', N2, N', hw2⟩) (an_nr_no hτ.2.1.1 hA hrs hv h3 h7 h14.2.2.1 hn2 (fun z => qT z.1)))
      intro σ5 e5
      have hlen : rs.length = l.length := by rw [hrs, List.length_map]
      have hl200 := hτ.2.2.1.1
      have f5 : fr_w τ σ5 := by rw [e5]; exact fr_w.I (Or.inl rfl)
      have nov : (¬ ∃ m, nt_nf T2 G rs = some [(A, nt_tt G rs, m)]) → ∀ ρ, fr_w τ ρ → K (-1) ρ := fun hno ρ fρ => k0 ρ (cl_fr hτ hw2 fρ) (an_nr_no hτ.2.1.1 hA hrs hv h3 h7 h14.2.2.1 hn2 (fun z => hno z.2))
      have key : ∀ (c : Nat) (P : List (Nat × Nat × Nat)) (ρ : gs_St), c ≤ rs.length → fr_w τ ρ → nt_nf T2 G (rs.drop c) = some P → ρ.1 8 = nI P.length → pi_at P ρ → X51 (nI A) (nI c - 1) ρ := by
        intro c
        induction c with
        | zero =>
          intro P ρ hc fρ hnf h8' hpi
          have hnf : nt_nf T2 G rs = some P := hnf
          obtain ⟨a1, a2, a3⟩ := nt_nf_ok hτ.2.1.1 h14.2.2.1.1 rs P hv hnf hn2
          have v0 : vp_in (0 : Int32) 216 := vp_in_nI (n := 0) (by decide) (by decide)
          have c0 : (0 : Int32).toNatClampNeg = 0 := by decide
          apply h51
          refine br_t (by decide) ?_
          rw [h8', c0]
          refine ek_if (not_congr (nI_eq (a := P.length) (b := 1) (by omega) (by decide))) (fun z => nov (fun ⟨m, hm⟩ => z (by rw [hnf] at hm; injection hm with hm; rw [hm]; rfl)) ρ fρ) (fun z => ⟨v0, ?_⟩)
          have z : P.length = 1 := Classical.byContradiction z
          match P, z with
          | [e], _ =>
            have top := hpi 0 e rfl
            have top : pc_at ρ 0 e := top
            obtain ⟨v1, v2, v3⟩ := a1 e List.mem_cons_self
            have eln : e.2.1 = nt_tt G rs := by
              have : e.2.1 + 0 = nt_tt G rs := a2
              omega
            rw [top.1, top.2.2]
            refine ek_if (not_congr (nI_eq (by omega) (by omega))) (fun y => nov (fun ⟨m, hm⟩ => y (by rw [hnf] at hm; injection hm with hm; injection hm with hm _; rw [hm])) ρ fρ) (fun y => ⟨v0, ?_⟩)
            have y : e.1 = A := Classical.byContradiction y
            refine k1 e.2.2 ρ (cl_fr hτ hw2 fρ) ⟨rs, T2, D, o, N2, hrs, hv, q, h3, h7, h14.2.2.1, hn2, qT, ?_⟩
            rw [hnf, ← eln, ← y]
        | succ c ih =>
          intro P ρ hc fρ hnf h8' hpi
          have hc' : c < rs.length := by omega
          have edrop : rs.drop c = rs.getD c 0 :: rs.drop (c + 1) := gg_drop hc'
          have hvd : ∀ r, r ∈ rs.drop (c + 1) → r < G.length := fun r hr => hv r (List.mem_of_mem_drop hr)
          have hrc : rs.getD c 0 < G.length := hv _ (by rw [gg_getD hc']; exact List.getElem_mem _)
          have htd := nt_tt_drop (G := G) (c + 1) rs
          have htd0 := nt_tt_drop (G := G) c rs
          rw [edrop] at htd0
          have htd0 : nt_tm (gg_y G (rs.getD c 0)) + nt_tt G (rs.drop (c + 1)) ≤ nt_tt G rs := htd0
          obtain ⟨a1, a2, a3⟩ := nt_nf_ok hτ.2.1.1 h14.2.2.1.1 (rs.drop (c + 1)) P hvd hnf (by omega)
          have hPl : P.length ≤ 200 := by
            rw [List.length_drop] at a3
            omega
          rw [nI_pred]
          apply h51
          refine br_f (nI_pos (by omega)) ⟨vp_in_nI (by omega) (by decide), ?_⟩
          have el : ρ.2.1 14 c = nI (rs.getD c 0) := by
            rw [fρ.2.1 14 (by decide) (by decide) (by decide) (by decide), hτ.2.2.1.2.2 c (by omega)]
            exact map_getD hrs hc'
          rw [nI_clamp (by omega), el]
          refine s_fold (T := T2) (N := N2) (fρ.gr hτ.2.1) hrc h13 (fρ.gt h14.2.1) h14.1 (fun r hr => fρ.gE (h14.2.2.2 r hr rfl)) h8' hPl hpi (fun e he => by have := (a1 e he).1; omega) (by omega) (fun z => br_f (fun y => y rfl) (nov (fun ⟨m, hm⟩ => ?_) ρ fρ)) (fun P' ρ2 z f2 g8 gp => br_t (by decide) ?_)
          · have : nt_nf T2 G (rs.drop c) = none := by
              rw [edrop]
              show (match nt_nf T2 G (rs.drop (c + 1)) with | none => none | some P => nt_fd T2 G (rs.getD c 0) P) = none
              rw [hnf]
              exact z
            rw [nt_nf_none c rs this] at hm
            cases hm
          · rw [gv_m1]
            refine nm_e (ih P' ρ2 (by omega) (fρ.tr f2) ?_ g8 gp)
            rw [edrop]
            show (match nt_nf T2 G (rs.drop (c + 1)) with | none => none | some P => nt_fd T2 G (rs.getD c 0) P) = some P'
            rw [hnf]
            exact z
      have e14 : σ5.1 14 - (1 : Int32) = nI rs.length - 1 := by
        rw [e5]
        show τ.1 14 - 1 = _
        rw [hτ.2.2.1.2.1, hlen]
      refine nm_r e14 (key rs.length [] σ5 (Nat.le_refl _) f5 ?_ (by rw [e5]; rfl) (fun k e hk => by cases hk))
      rw [List.drop_eq_nil_iff.mpr (Nat.le_refl _)]
      rfl
theorem s_number {x : Int32} {K : Int64 → gs_St → Prop} (h : cl_at t G l d v σ)
    (k0 : ∀ τ, cl_at t G [] d v τ → ((∀ j, j < 8 → x ≠ nI j) ∨ an_circ G True ∨ ∀ j, j < 8 → x = nI j → ∀ m, ¬ an_nr G j l m) → K (-1) τ)
    (k1 : ∀ j, j < 8 → x = nI j → an_circ G False → ∀ m τ, cl_at t G [] d v τ → an_nr G j l m → K (lN m) τ) : C_Gl_number x σ K := by
  have clr : ∀ τ ρ : gs_St, ρ = gs_I τ 14 0 → cl_at t G l d v τ → cl_at t G [] d v ρ := fun τ ρ e hc => by
    rw [e]
    exact ⟨hc.1.of rfl rfl, hc.2.1.of rfl rfl rfl rfl, ⟨by decide, rfl, fun i hi => absurd hi (Nat.not_lt_zero _)⟩, hc.2.2.2.1.of rfl rfl rfl rfl, hc.2.2.2.2.1, hc.2.2.2.2.2.elim Or.inl (fun z => Or.inr ⟨z.1, z.2.of rfl rfl rfl rfl rfl rfl rfl rfl rfl rfl rfl⟩)⟩
  refine s_isNt (fun j hj e => ?_) (fun hno => br_t rfl (fun ρ eρ => k0 ρ (clr σ ρ eρ h) (Or.inl hno)))
  subst e
  refine br_f (by decide) (s_circle h (fun τ hτ _ _ _ hc => br_t (by decide) (fun ρ eρ => k0 ρ (clr τ ρ eρ hτ) (Or.inr (Or.inl hc)))) (fun τ hτ hs h1 h3 hc => br_f (fun z => z rfl) ?_))
  obtain ⟨D, O, o, c, T, T', N, N', hw⟩ := hs
  have hc8 : c = 8 := by
    have e := hw.2.2.2.2.2.2.2.2.2.1
    rw [h3] at e
    have hle := hw.2.2.2.2.2.2.2.2.2.2.1
    exact ((nI_eq (by decide) (by omega)).mp e).symm
  subst hc8
  refine s_numberOf (hτ.r h1) hw hj (fun τ2 hτ2 hno => fun ρ eρ => k0 ρ (clr τ2 ρ eρ hτ2) (Or.inr (Or.inr (fun j' hj' ej m hm => ?_)))) (fun m τ2 hτ2 hm => fun ρ eρ => k1 j hj rfl hc m ρ (clr τ2 ρ eρ hτ2) hm)
  have : j = j' := (nI_eq (by omega) (by omega)).mp ej
  subst this
  exact hno m hm
end M2K2
end
section
/-! Layer 2: the reference's number. -/
theorem gc_cap_mul (a b : Nat) : gc_cap (gc_cap a * b) = gc_cap (a * b) := by
  by_cases h : a ≤ 1000000000000000000
  · have e : gc_cap a = a := by unfold gc_cap; rw [if_pos h]
    rw [e]
  · have e : gc_cap a = 1000000000000000001 := by unfold gc_cap; rw [if_neg h]
    rw [e]
    by_cases hb : b = 0
    · rw [hb, Nat.mul_zero, Nat.mul_zero]
    · have h1 : 1000000000000000001 ≤ 1000000000000000001 * b := Nat.le_mul_of_pos_right _ (by omega)
      have h2 : a ≤ a * b := Nat.le_mul_of_pos_right _ (by omega)
      unfold gc_cap
      rw [if_neg (by omega), if_neg (by omega)]
theorem nt_nf_ln {T : Nat → Nat → Nat} {G : gg_R} (hG : gg_ok G) : ∀ (rs : List Nat) (P : List (Nat × Nat × Nat)), (∀ r, r ∈ rs → r < G.length) → nt_nf T G rs = some P → gd_ln P = nt_tt G rs ∧ P.length ≤ rs.length ∧ ∀ e, e ∈ P → e.1 < 8
  | [], P, _, h => by
    injection h with h
    subst h
    exact ⟨rfl, Nat.le_refl 0, fun e he => absurd he List.not_mem_nil⟩
  | r :: rs, P, hr, h => by
    have h : (match nt_nf T G rs with | none => none | some P => nt_fd T G r P) = some P := h
    cases hq : nt_nf T G rs with
    | none => rw [hq] at h; cases h
    | some Q =>
      rw [hq] at h
      obtain ⟨a1, a2, a3⟩ := nt_nf_ln hG rs Q (fun x hx => hr x (List.mem_cons_of_mem _ hx)) hq
      have h : nt_fd T G r Q = some P := h
      unfold nt_fd at h
      cases hk : nt_tk (gg_y G r) Q with
      | none => rw [hk] at h; cases h
      | some q =>
        rw [hk] at h
        injection h with h
        obtain ⟨b1, b2, b3, b4⟩ := nt_tk_ok (T := T) _ _ _ _ hk
        subst h
        refine ⟨?_, ?_, fun e he => ?_⟩
        · show nt_ln q.1 + gd_ln q.2 = nt_tm (gg_y G r) + nt_tt G rs
          omega
        · show q.2.length + 1 ≤ rs.length + 1
          omega
        · rcases List.mem_cons.mp he with z | z
          · subst z
            exact (hG.2 r (hr r List.mem_cons_self)).1
          · exact a3 e (b4 e z)
theorem nt_ln_app (a b : List (Nat × Nat)) : nt_ln (a ++ b) = nt_ln a + nt_ln b := by
  induction a with
  | nil => show nt_ln b = 0 + nt_ln b; omega
  | cons y a ih => show y.1 + nt_ln (a ++ b) = (y.1 + nt_ln a) + nt_ln b; omega
/-- the pile, its numbers held at the limit -/
def qd_at (P : List (Nat × Nat × Nat)) (τ : gs_St) : Prop := ∀ k e, P[k]? = some e → qc_at τ (P.length - 1 - k) (e.1, e.2.1, gc_cap e.2.2)
section M2L
variable {G : gg_R} {σ : gs_St} {T : Nat → Nat → Nat}
theorem n_join {r : Nat} {P : List (Nat × Nat × Nat)} {K : Int32 → gs_St → Prop} (h : mr_at G σ) (hr : r < G.length) (hT : mt_at T 17 σ) (hTb : ∀ A p, T A p ≤ 1000000000000000001) (h7 : σ.1 7 = nI P.length) (hP : P.length ≤ 200) (hpi : qd_at P σ) (h8 : ∀ e, e ∈ P → e.1 < 8 ∧ e.2.1 ≤ 16)
    (k0 : ∀ τ, fr_m σ τ → (nt_fd T G r P = none ∨ ∃ P' e, nt_fd T G r P = some (e :: P') ∧ 16 < e.2.1) → K 0 τ)
    (k1 : ∀ P' e τ, fr_m σ τ → nt_fd T G r P = some (e :: P') → e.2.1 ≤ 16 → τ.1 7 = nI (e :: P').length → qd_at (e :: P') τ → K 1 τ) : C_Mo_join (nI r) σ K := by
  intro X10 X130 X190 X204 h10 h130 h190 h204
  have hG := h.1.1
  obtain ⟨hl8, hz, h24⟩ := h.1.2 r hr
  have vr : vp_in (nI r) 24 := vp_in_nI (by omega) (by decide)
  -- the sum
  have summ : ∀ (ps : List (Nat × Nat)) (Q : List (Nat × Nat × Nat)), nt_tk (gg_y G r) P = some (ps, Q) → nt_ln ps ≤ 16 → ∀ τ : gs_St, fr_m σ τ → qd_at Q τ → (∀ i q, ps[i]? = some q → τ.2.1 13 i = nI q.1 ∧ τ.2.2 5 i = lN (gc_cap q.2)) → X130 (nI r) (nI (nt_ln ps)) (nI Q.length) 0 0 τ := by
    intro ps Q htk hn τ hfr hqd hpt
    obtain ⟨a1, a2, a3, a4⟩ := nt_tk_ok (T := T) _ _ _ _ htk
    have hfd : nt_fd T G r P = some ((gg_l G r, nt_ln ps, gc_pt T G (fun _ => true) (gg_l G r) (nt_ln ps) r + nt_nb T (gg_y G r) ps (nt_ln ps)) :: Q) := by
      unfold nt_fd
      rw [htk]
    -- within the rule
    have within : ∀ (zs : List Nat) (i left sum : Nat) (qs : List (Nat × Nat)) (ρ : gs_St), (gg_y G r).drop i = zs → i + zs.length = (gg_y G r).length → ps.drop i = qs → nt_ln qs = left → left ≤ nt_ln ps → sum + nt_nb T zs qs left = gc_pt T G (fun _ => true) (gg_l G r) (nt_ln ps) r + nt_nb T (gg_y G r) ps (nt_ln ps) → fr_m σ ρ → qd_at Q ρ → (∀ i q, ps[i]? = some q → ρ.2.1 13 i = nI q.1 ∧ ρ.2.2 5 i = lN (gc_cap q.2)) → mb_at T (gg_y G r) (nt_ln ps) ρ → X190 (nI r) (nI (nt_ln ps)) (nI Q.length) (lN (gc_cap sum)) (nI left) (nI i) ρ := by
      intro zs
      induction zs with
      | nil =>
        intro i left sum qs ρ hd hi hqs hl hle hs hfr hqd hpt hmb
        have hi : i = (gg_y G r).length := hi
        have es : ρ.2.1 1 r = nI (gg_y G r).length := ((hfr.mr h).2.2 r hr).2.1
        apply h190
        refine ⟨vr, ?_⟩
        rw [nI_clamp (by omega), es]
        refine pk_le (gg_y G r).length i (fun _ => ?_) (fun z => absurd z (by omega))
        intro σ21 e21
        have el : σ21.2.1 0 r = nI (gg_l G r) := by rw [e21]; exact ((hfr.mr h).2.2 r hr).1
        refine ⟨vr, ?_⟩
        rw [el]
        have hs : sum + 0 = gc_pt T G (fun _ => true) (gg_l G r) (nt_ln ps) r + nt_nb T (gg_y G r) ps (nt_ln ps) := hs
        refine n_put (σ := σ21) (c := Q.length) (by rw [e21]; rfl) (by omega) (fun τ2 f2 t7 tq to _ _ _ => ?_)
        refine k1 Q _ τ2 ((hfr.tr (by rw [e21]; exact fr_m.I)).tr f2) hfd hn (by rw [t7]; rfl) (fun k e hk => ?_)
        show qc_at τ2 (Q.length + 1 - 1 - k) _
        cases k with
        | zero =>
          injection hk with hk
          rw [← hk, show Q.length + 1 - 1 - 0 = Q.length by omega, ← hs]
          exact tq
        | succ k =>
          have hk : Q[k]? = some e := hk
          have hkl : k < Q.length := (List.getElem?_eq_some_iff.mp hk).1
          rw [show Q.length + 1 - 1 - (k + 1) = Q.length - 1 - k by omega]
          refine to _ _ (by omega) ?_
          rw [e21]
          exact hqd k e hk
      | cons s zs ih =>
        intro i left sum qs ρ hd hi hqs hl hle hs hfr hqd hpt hmb
        obtain ⟨h1, h2, h3⟩ := gg_cons hd
        have hi : i + (zs.length + 1) = (gg_y G r).length := hi
        have hs24 := h24 i h1
        rw [h2] at hs24
        have es : ρ.2.1 1 r = nI (gg_y G r).length := ((hfr.mr h).2.2 r hr).2.1
        have hips : i < ps.length := by omega
        have edr : ps.drop i = ps[i] :: ps.drop (i + 1) := List.drop_eq_getElem_cons hips
        obtain ⟨p13, p5⟩ := hpt i _ (List.getElem?_eq_getElem hips)
        rw [edr] at hqs
        subst hqs
        have hl : ps[i].1 + nt_ln (ps.drop (i + 1)) = left := hl
        have hs : sum + (gc_sum (fun p => gd_w T s zs left p) ps[i].1 + ps[i].2 * gc_E T zs (left - ps[i].1) + nt_nb T zs (ps.drop (i + 1)) (left - ps[i].1)) = gc_pt T G (fun _ => true) (gg_l G r) (nt_ln ps) r + nt_nb T (gg_y G r) ps (nt_ln ps) := hs
        have v6 : vp_in (nI i) 6 := vp_in_nI (by omega) (by decide)
        have hbeh : ∀ q, q ≤ left → ρ.2.2 3 ((i + 1) * 17 + (left - q)) = lN (gc_E T zs (left - q)) := fun q hq => by
          rw [hmb (i + 1) (by omega) (left - q) (by omega), h3]
        have inner : ∀ (c q : Nat), q + c = ps[i].1 → X204 (nI r) (nI (nt_ln ps)) (nI Q.length) (lN (gc_cap (sum + gc_sum (fun p => gd_w T s zs left p) q))) (nI left) (nI i) (nI q) ρ := by
          intro c
          induction c with
          | zero =>
            intro q hq
            have hq : q = ps[i].1 := hq
            apply h204
            refine ⟨v6, ?_⟩
            rw [nI_clamp (by omega), p13, p5]
            refine pk_le ps[i].1 q (fun _ => ⟨v6, nm_r (pk_sub (by omega)) ⟨v6, ?_⟩⟩) (fun z => absurd z (by omega))
            have ei : (17 : Int32) * nI i + (17 : Int32) + nI (left - ps[i].1) = nI ((i + 1) * 17 + (left - ps[i].1)) := by
              rw [show (17 : Int32) = nI 17 from rfl, pk_mul, nI_add, nI_add]
              congr 1
              omega
            rw [ei]
            refine ⟨vp_in_nI (by omega) (by decide), ?_⟩
            rw [nI_clamp (by omega), hbeh ps[i].1 (by omega)]
            refine n_product (gc_cap_le _) (gc_E_le _ _ _) (n_sum (gc_cap_le _) (gc_cap_le _) ?_)
            rw [gc_cap_mul, gc_cap_add2, hq]
            exact nm_r (nI_1 i) (ih (i + 1) (left - ps[i].1) _ (ps.drop (i + 1)) ρ h3 (by omega) rfl (by omega) (by omega) (by omega) hfr hqd hpt hmb)
          | succ c ihc =>
            intro q hq
            apply h204
            refine ⟨v6, ?_⟩
            rw [nI_clamp (by omega), p13]
            refine pk_le ps[i].1 q (fun z => absurd z (by omega)) (fun _ => ?_)
            refine n_at (hfr.mr h) hr h1 ?_
            rw [h2]
            refine n_of (T := T) (N := 17) hs24 (by decide) (by omega) (hfr.mt hT) ?_
            have ei : (17 : Int32) * nI i + (17 : Int32) + nI left - nI q = nI ((i + 1) * 17 + (left - q)) := by
              rw [show (17 : Int32) = nI 17 from rfl, pk_mul, nI_add, nI_add, pk_sub (by omega)]
              congr 1
              omega
            rw [ei]
            refine ⟨vp_in_nI (by omega) (by decide), ?_⟩
            rw [nI_clamp (by omega), hbeh q (by omega)]
            refine n_product (gd_F_le hTb _ _) (gc_E_le _ _ _) (n_sum (gc_cap_le _) (gc_cap_le _) ?_)
            have e : gc_cap (gc_cap (sum + gc_sum (fun p => gd_w T s zs left p) q) + gc_cap (gd_F T s q * gc_E T zs (left - q))) = gc_cap (sum + gc_sum (fun p => gd_w T s zs left p) (q + 1)) := by
              rw [gc_cap_add]
              congr 1
              show _ = sum + (gc_sum (fun p => gd_w T s zs left p) q + gd_w T s zs left q)
              unfold gd_w
              omega
            rw [e]
            exact nm_r (nI_1 q) (ihc (q + 1) (by omega))
        apply h190
        refine ⟨vr, ?_⟩
        rw [nI_clamp (by omega), es]
        exact pk_le (gg_y G r).length i (fun z => absurd z (by omega)) (fun _ => inner ps[i].1 0 (by omega))
    -- the rules before
    have before : ∀ (c q : Nat) (f : Nat → Int64), q + c = r → X130 (nI r) (nI (nt_ln ps)) (nI Q.length) (lN (gc_cap (gc_pt T G (fun _ => true) (gg_l G r) (nt_ln ps) q))) (nI q) (gs_L τ 3 f) := by
      intro c
      induction c with
      | zero =>
        intro q f hq
        have hq : q = r := hq
        subst hq
        apply h130
        refine pk_le q q (fun _ => ?_) (fun z => absurd z (by omega))
        refine n_fill (T := T) (N := 17) ((hfr.mr h).of rfl rfl rfl rfl) hr (by omega) (by decide) (hfr.mt hT) hTb (fun f2 hf2 => ?_)
        rw [gs_LL]
        exact within (gg_y G q) 0 (nt_ln ps) _ ps (gs_L τ 3 f2) rfl (by omega) rfl rfl (Nat.le_refl _) rfl (hfr.tr (fr_m.L (Or.inl rfl))) hqd hpt hf2
      | succ c ihc =>
        intro q f hq
        have hq' : q < G.length := by omega
        have hl8q := (h.1.2 q hq').1
        have hnx : gc_pt T G (fun _ => true) (gg_l G r) (nt_ln ps) (q + 1) = gc_pt T G (fun _ => true) (gg_l G r) (nt_ln ps) q + (if true = true ∧ gg_l G q = gg_l G r then gc_E T (gg_y G q) (nt_ln ps) else 0) := rfl
        have elq : (gs_L τ 3 f).2.1 0 q = nI (gg_l G q) := ((hfr.mr h).2.2 q hq').1
        have elr : (gs_L τ 3 f).2.1 0 r = nI (gg_l G r) := ((hfr.mr h).2.2 r hr).1
        apply h130
        refine pk_le r q (fun z => absurd z (by omega)) (fun _ => ⟨vp_in_nI (by omega) (by decide), vr, ?_⟩)
        rw [nI_clamp (by omega), nI_clamp (by omega), elq, elr]
        refine ek_if (not_congr (nI_eq (by omega) (by omega))) (fun z => ?_) (fun z => ?_)
        · have e : gc_pt T G (fun _ => true) (gg_l G r) (nt_ln ps) (q + 1) = gc_pt T G (fun _ => true) (gg_l G r) (nt_ln ps) q := hnx.trans (by rw [if_neg (fun y => z y.2)]; rfl)
          rw [← e]
          exact nm_r (nI_1 q) (ihc (q + 1) f (by omega))
        · have z : gg_l G q = gg_l G r := Classical.byContradiction z
          rw [if_pos ⟨rfl, z⟩] at hnx
          refine n_fill (T := T) (N := 17) ((hfr.mr h).of rfl rfl rfl rfl) hq' (by omega) (by decide) (hfr.mt hT) hTb (fun f2 hf2 => ⟨vp_in_nI (by omega) (by decide), ?_⟩)
          rw [gs_LL]
          have e0 : (gs_L τ 3 f2).2.2 3 (nt_ln ps) = lN (gc_E T (gg_y G q) (nt_ln ps)) := by
            have := hf2 0 (Nat.zero_le _) (nt_ln ps) (Nat.le_refl _)
            rw [Nat.zero_mul, Nat.zero_add] at this
            exact this
          rw [nI_clamp (by omega), e0]
          refine n_sum (gc_cap_le _) (gc_E_le _ _ _) ?_
          rw [gc_cap_add, ← hnx]
          exact nm_r (nI_1 q) (ihc (q + 1) f2 (by omega))
    have := before r 0 (τ.2.2 3) (by omega)
    rw [gs_Lid] at this
    exact this
  -- the symbols take their trees
  have tkk : ∀ (zs : List Nat) (i : Nat) (Q : List (Nat × Nat × Nat)) (pre : List (Nat × Nat)) (τ : gs_St), (gg_y G r).drop i = zs → i + zs.length = (gg_y G r).length → pre.length = i → nt_ln pre ≤ 16 * i → Q.length ≤ 200 → fr_m σ τ → qd_at Q τ → (∀ e, e ∈ Q → e.1 < 8 ∧ e.2.1 ≤ 16) → (∀ j q, pre[j]? = some q → τ.2.1 13 j = nI q.1 ∧ τ.2.2 5 j = lN (gc_cap q.2)) → (nt_tk zs Q = none → nt_tk (gg_y G r) P = none) → (∀ qs R, nt_tk zs Q = some (qs, R) → nt_tk (gg_y G r) P = some (pre ++ qs, R)) → X10 (nI r) (nI (nt_ln pre)) (nI Q.length) (nI i) τ := by
    intro zs
    induction zs with
    | nil =>
      intro i Q pre τ hd hi hpl hpb hQ hfr hqd hq8 hpt hno hyes
      have hi : i = (gg_y G r).length := hi
      have htk := hyes [] Q rfl
      rw [List.append_nil] at htk
      have es : τ.2.1 1 r = nI (gg_y G r).length := ((hfr.mr h).2.2 r hr).2.1
      apply h10
      refine ⟨vr, ?_⟩
      rw [nI_clamp (by omega), es]
      refine pk_le (gg_y G r).length i (fun _ => ?_) (fun z => absurd z (by omega))
      refine pk_lt (nt_ln pre) 17 (fun z => summ pre Q htk (by omega) τ hfr hqd hpt) (fun z => k0 τ hfr (Or.inr ⟨Q, (gg_l G r, nt_ln pre, gc_pt T G (fun _ => true) (gg_l G r) (nt_ln pre) r + nt_nb T (gg_y G r) pre (nt_ln pre)), ?_, ?_⟩))
      · unfold nt_fd
        rw [htk]
      · show 16 < nt_ln pre
        omega
    | cons s zs ih =>
      intro i Q pre τ hd hi hpl hpb hQ hfr hqd hq8 hpt hno hyes
      obtain ⟨h1, h2, h3⟩ := gg_cons hd
      have hi : i + (zs.length + 1) = (gg_y G r).length := hi
      have hs24 := h24 i h1
      rw [h2] at hs24
      have es : τ.2.1 1 r = nI (gg_y G r).length := ((hfr.mr h).2.2 r hr).2.1
      have v6 : vp_in (nI i) 6 := vp_in_nI (by omega) (by decide)
      have stop : ∀ ρ, fr_m σ ρ → nt_tk (s :: zs) Q = none → K 0 ρ := fun ρ fρ z => k0 ρ fρ (Or.inl (by unfold nt_fd; rw [hno z]))
      apply h10
      refine ⟨vr, ?_⟩
      rw [nI_clamp (by omega), es]
      refine pk_le (gg_y G r).length i (fun z => absurd z (by omega)) (fun _ => ?_)
      refine n_at (hfr.mr h) hr h1 ⟨v6, ?_⟩
      rw [nI_clamp (by omega), h2]
      intro σ4 e4
      refine ⟨v6, ?_⟩
      intro σ5 e5
      have fr5 : fr_m σ σ5 := by
        rw [e5, e4]
        exact (hfr.tr (fr_m.A (Or.inr (Or.inr rfl)))).tr (fr_m.L (Or.inr (Or.inr rfl)))
      have g13 : σ5.2.1 13 = upd (τ.2.1 13) i 1 := by rw [e5, e4]; rfl
      have g5 : σ5.2.2 5 = vp_updL (τ.2.2 5) i 0 := by rw [e5, e4]; rfl
      have gq : ∀ j e, qc_at τ j e → qc_at σ5 j e := fun j e he => by rw [e5, e4]; exact he
      have app : ∀ (ρ : gs_St) (a b : Nat), ρ.2.1 13 i = nI a → ρ.2.2 5 i = lN (gc_cap b) → (∀ j, j ≠ i → ρ.2.1 13 j = τ.2.1 13 j) → (∀ j, j ≠ i → ρ.2.2 5 j = τ.2.2 5 j) → ∀ j q, (pre ++ [(a, b)])[j]? = some q → ρ.2.1 13 j = nI q.1 ∧ ρ.2.2 5 j = lN (gc_cap q.2) := by
        intro ρ a b ha hb hA hL j q hj
        rcases Nat.lt_or_ge j pre.length with z | z
        · rw [List.getElem?_append_left z] at hj
          rw [hA j (by omega), hL j (by omega)]
          exact hpt j q hj
        · have hj1 : j < (pre ++ [(a, b)]).length := (List.getElem?_eq_some_iff.mp hj).1
          rw [List.length_append] at hj1
          have hj1 : j < pre.length + 1 := hj1
          have hjc : j = pre.length := by omega
          rw [hjc, List.getElem?_append_right (Nat.le_refl _), Nat.sub_self] at hj
          injection hj with hj
          rw [← hj, hjc, hpl]
          exact ⟨ha, hb⟩
      by_cases hs8 : s < 8
      · refine n_isNtN (by omega) (fun _ => br_f (by decide) ?_) (fun z => absurd hs8 (by omega))
        cases Q with
        | nil => exact nm_e (br_t (by decide) (stop σ5 fr5 (nt_tk_no hs8)))
        | cons e Q' =>
          have hlenQ : (e :: Q').length = Q'.length + 1 := rfl
          obtain ⟨he8, he16⟩ := hq8 e List.mem_cons_self
          have top := gq _ _ (hqd 0 e rfl)
          rw [hlenQ, show Q'.length + 1 - 1 - 0 = Q'.length by omega] at top
          have vq : vp_in (nI Q'.length) 1300 := vp_in_nI (by omega) (by decide)
          rw [hlenQ]
          refine nm_r (pk_m1 _) (br_f (nI_pos (by omega)) ⟨vq, ?_⟩)
          have tp1 : σ5.2.1 9 Q'.length = nI e.1 := top.1
          have tp2 : σ5.2.1 10 Q'.length = nI e.2.1 := top.2.1
          have tp3 : σ5.2.2 4 Q'.length = lN (gc_cap e.2.2) := top.2.2
          rw [nI_clamp (by omega), tp1, tp2]
          refine ek_if (nI_eq (by omega) (by omega)) (fun he => ⟨vq, v6, ?_⟩) (fun he => stop σ5 fr5 (nt_tk_ne hs8 he))
          intro σ11 e11
          have q4 : σ11.2.2 4 Q'.length = lN (gc_cap e.2.2) := by rw [e11]; exact tp3
          rw [q4]
          refine ⟨vq, v6, ?_⟩
          intro σ12 e12
          have fr12 : fr_m σ σ12 := by
            rw [e12, e11]
            exact (fr5.tr (fr_m.A (Or.inr (Or.inr rfl)))).tr (fr_m.L (Or.inr (Or.inr rfl)))
          have k13 : σ12.2.1 13 = upd (σ5.2.1 13) i (nI e.2.1) := by rw [e12, e11]; rfl
          have k5 : σ12.2.2 5 = vp_updL (σ5.2.2 5) i (lN (gc_cap e.2.2)) := by rw [e12, e11]; rfl
          refine ⟨v6, ?_⟩
          have k13i : σ12.2.1 13 i = nI e.2.1 := by rw [k13]; exact pk_us
          rw [k13i]
          have eln : nt_ln pre + e.2.1 = nt_ln (pre ++ [(e.2.1, e.2.2)]) := (nt_ln_app pre [(e.2.1, e.2.2)]).symm
          refine nm_r (nI_add _ _) (nm_r (nI_1 i) ?_)
          rw [eln]
          refine ih (i + 1) Q' (pre ++ [(e.2.1, e.2.2)]) σ12 h3 (by omega) (by rw [List.length_append]; show pre.length + 1 = i + 1; omega) (by rw [← eln]; omega) (by omega) fr12 (fun k x hk => ?_) (fun x hx => hq8 x (List.mem_cons_of_mem _ hx)) (app σ12 e.2.1 e.2.2 k13i (by rw [k5]; exact pk_uLs) (fun j hj => by rw [k13, pk_un hj, g13, pk_un hj]) (fun j hj => by rw [k5, pk_uLn hj, g5, pk_uLn hj])) (fun z => hno (by rw [nt_tk_nt hs8 he, z])) (fun qs R z => ?_)
          · have := gq _ _ (hqd (k + 1) x hk)
            rw [hlenQ, show Q'.length + 1 - 1 - (k + 1) = Q'.length - 1 - k by omega] at this
            rw [e12, e11]
            exact this
          · rw [hyes ((e.2.1, e.2.2) :: qs) R (by rw [nt_tk_nt hs8 he, z]), List.append_assoc]
            rfl
      · refine n_isNtN (by omega) (fun z => absurd z hs8) (fun _ => br_t rfl ⟨v6, ?_⟩)
        have k13i : σ5.2.1 13 i = nI 1 := by rw [g13]; exact pk_us
        have eln : nt_ln pre + 1 = nt_ln (pre ++ [(1, 0)]) := (nt_ln_app pre [(1, 0)]).symm
        rw [k13i]
        refine nm_r (nI_add _ _) (nm_r (nI_1 i) ?_)
        rw [eln]
        refine ih (i + 1) Q (pre ++ [(1, 0)]) σ5 h3 (by omega) (by rw [List.length_append]; show pre.length + 1 = i + 1; omega) (by rw [← eln]; omega) hQ fr5 (fun k x hk => gq _ _ (hqd k x hk)) hq8 (app σ5 1 0 k13i (by rw [g5]; exact pk_uLs) (fun j hj => by rw [g13, pk_un hj]) (fun j hj => by rw [g5, pk_uLn hj])) (fun z => hno (by rw [nt_tk_t hs8, z])) (fun qs R z => ?_)
        rw [hyes ((1, 0) :: qs) R (by rw [nt_tk_t hs8, z]), List.append_assoc]
        rfl
  refine nm_r h7 ?_
  exact tkk (gg_y G r) 0 P [] σ rfl (by omega) rfl (Nat.le_refl 0) hP fr_m.rf hpi h8 (fun j q hj => by cases hj) (fun z => z) (fun qs R z => z)
variable {t : List Nat} {l : List Int32} {d v : List Nat}
theorem n_number {x : Int32} {K : Int64 → gs_St → Prop} (h : ml_at t G l d v σ)
    (k0 : ∀ τ, ml_at t G [] d v τ → ((∀ j, j < 8 → x ≠ nI j) ∨ an_circM G true ∨ ∀ j, j < 8 → x = nI j → ∀ m, ¬ an_nr G j l m) → K (-1) τ)
    (k1 : ∀ j, j < 8 → x = nI j → an_circM G false → ∀ m τ, ml_at t G [] d v τ → an_nr G j l m → K (lN m) τ) : C_Mo_number x σ K := by
  intro X42 h42
  obtain ⟨ht, hg, ⟨l1, l2, l3⟩, hd, hst⟩ := h
  have hG := hg.1.1
  refine nm_r l2 ?_
  intro σ2 e2
  have hml2 : ml_at t G [] d v σ2 := by
    rw [e2]
    exact ⟨ht.of rfl rfl, hg.of rfl rfl rfl rfl, ⟨by decide, rfl, fun i hi => absurd hi (Nat.not_lt_zero _)⟩, hd.of rfl rfl rfl rfl, hst.elim Or.inl (fun z => Or.inr ⟨z.1, z.2.of rfl rfl⟩)⟩
  have a2 : σ2.2.1 4 = σ.2.1 4 := by rw [e2]; rfl
  refine n_isNt (fun A hA ex => ?_) (fun hno => br_t rfl (k0 σ2 hml2 (Or.inl hno)))
  subst ex
  refine br_f (by decide) ?_
  -- circle leaves the list
  refine n_circle hml2.2.1 (fun b e f hb => ?_)
  have hml3 : ml_at t G [] d v (gs_A (gs_A σ2 7 e) 8 f) := ⟨hml2.1.of rfl rfl, hml2.2.1.of rfl rfl rfl rfl, hml2.2.2.1.of rfl rfl, hml2.2.2.2.1.of rfl rfl rfl rfl, hml2.2.2.2.2.elim Or.inl (fun z => Or.inr ⟨z.1, z.2.of rfl rfl⟩)⟩
  cases b with
  | true => exact br_f (by decide) (k0 _ hml3 (Or.inr (Or.inl hb)))
  | false =>
    refine br_t rfl ?_
    obtain ⟨D, hD⟩ := gm_L_ex G
    obtain ⟨o, c, ho, hso⟩ := gg_ord_ex (gg_to G D)
    have hc8 : ¬ c < 8 := fun z => absurd ((hb D o c hD ho hso).mpr z) Bool.false_ne_true
    have hle := gg_ord_le ho
    have e8 : c = 8 := by omega
    subst e8
    obtain ⟨rk, hrk, hr8⟩ := gg_rank8 ho
    refine n_reckon hml3.2.1 hml3.2.2.2.2 hD hrk hr8 (fun T τ hTb hok0 hm h5 h6 hI hAr hLr => ?_)
    have hok : gc_okk (fun y => D y = some 0) G (fun _ => true) T 17 := gc_okk_kp (kp_m1 hg.1) hok0
    have hgok : gd_ok G T 17 := hok.1
    intro σ8 e8
    have f8 : fr_m τ σ8 := by rw [e8]; exact fr_m.I
    have lst : ∀ ρ, fr_m τ ρ → ∀ i, i < l.length → ρ.2.1 4 i = l.getD i 0 := fun ρ fρ i hi => by
      rw [fρ.2.1 4 (by decide) (by decide) (by decide), hAr]
      show σ2.2.1 4 i = _
      rw [a2]
      exact l3 i hi
    have mrτ : mr_at G τ := hml3.2.1.of (hI 0 (by decide) (by decide)) (by rw [hAr]) (by rw [hAr]) (by rw [hAr])
    have lasts : ∀ ρ, fr_m τ ρ → ml_at t G [] d v ρ := fun ρ fρ => ⟨hml3.1.of ((fρ.1 1 (by decide)).trans (hI 1 (by decide) (by decide))) (by rw [fρ.2.1 3 (by decide) (by decide) (by decide), hAr]), fρ.mr mrτ, hml3.2.2.1.of ((fρ.1 2 (by decide)).trans (hI 2 (by decide) (by decide))) (by rw [fρ.2.1 4 (by decide) (by decide) (by decide), hAr]), hml3.2.2.2.1.of ((fρ.1 3 (by decide)).trans (hI 3 (by decide) (by decide))) ((fρ.1 4 (by decide)).trans (hI 4 (by decide) (by decide))) (by rw [fρ.2.1 5 (by decide) (by decide) (by decide), hAr]) (by rw [fρ.2.1 6 (by decide) (by decide) (by decide), hAr]), Or.inr ⟨(fρ.1 5 (by decide)).trans h5, D, T, hD, hTb, by rw [fρ.1 6 (by decide), h6]; exact hok0, fρ.mt hm⟩⟩
    -- no number
    have nov : ∀ ρ, fr_m τ ρ → (∀ m, ¬ an_nr G A l m) → K (-1) ρ := fun ρ fρ hno => k0 ρ (lasts ρ fρ) (Or.inr (Or.inr (fun j hj ej m hm2 => by
      have : A = j := (nI_eq (by omega) (by omega)).mp ej
      subst this
      exact hno m hm2)))
    -- what a number would show of our table
    have shows : ∀ m, an_nr G A l m → ∃ rs : List Nat, l = rs.map nI ∧ (∀ r, r ∈ rs → r < G.length) ∧ nt_tt G rs ≤ 16 ∧ T A (nt_tt G rs) ≤ 1000000000000000000 ∧ nt_nf T G rs = some [(A, nt_tt G rs, m)] := by
      rintro m ⟨rs, T2, D2, o2, N2, g1, g2, g3, g4, g5, g6, g7, g8, g9⟩
      have hT : ∀ x p, x < 8 → p ≤ nt_tt G rs → T2 x p = T x p := fun x p hx hp => gc_two hg.1 g4 hD g5 g6 hok p (by omega) (by omega) x hx
      refine ⟨rs, g1, g2, g3, ?_, ?_⟩
      · rw [← hT A _ hA (Nat.le_refl _)]
        exact g8
      · rw [← nt_nf_eq hT hg.1 g6.1 g7 rs g2 (Nat.le_refl _)]
        exact g9
    have key : ∀ (c : Nat) (rs : List Nat) (P : List (Nat × Nat × Nat)) (ρ : gs_St), c + rs.length = l.length → l.drop c = rs.map nI → (∀ r, r ∈ rs → r < G.length) → nt_nf T G rs = some P → (∀ e, e ∈ P → e.1 < 8 ∧ e.2.1 ≤ 16) → fr_m τ ρ → ρ.1 7 = nI P.length → qd_at P ρ → X42 (nI A) (nI c - 1) ρ := by
      intro c
      induction c with
      | zero =>
        intro rs P ρ hc hrs hv hnf h16 fρ h7 hqd
        have hrs : l = rs.map nI := hrs
        obtain ⟨b1, b2, b3⟩ := nt_nf_ln hg.1 rs P hv hnf
        have v0 : vp_in (0 : Int32) 1300 := vp_in_nI (n := 0) (by decide) (by decide)
        have c0 : (0 : Int32).toNatClampNeg = 0 := by decide
        have uniq : ∀ m, an_nr G A l m → T A (nt_tt G rs) ≤ 1000000000000000000 ∧ P = [(A, nt_tt G rs, m)] := fun m hm2 => by
          obtain ⟨rs', s1, s2, s3, s4, s5⟩ := shows m hm2
          have e : rs = rs' := nI_map_inj hG rs rs' hv s2 (hrs.symm.trans s1)
          subst e
          rw [hnf] at s5
          injection s5 with s5
          exact ⟨s4, s5⟩
        apply h42
        refine br_t (by decide) ?_
        rw [h7, c0]
        refine ek_if (not_congr (nI_eq (a := P.length) (b := 1) (by omega) (by decide))) (fun z => nov ρ fρ (fun m hm2 => z (by rw [(uniq m hm2).2]; rfl))) (fun z => ⟨v0, ?_⟩)
        have z : P.length = 1 := Classical.byContradiction z
        match P, z with
        | [e], _ =>
          have top : qc_at ρ 0 (e.1, e.2.1, gc_cap e.2.2) := hqd 0 e rfl
          obtain ⟨he8, he16⟩ := h16 e List.mem_cons_self
          have eln : e.2.1 = nt_tt G rs := by
            have : e.2.1 + 0 = nt_tt G rs := b1
            omega
          have tp1 : ρ.2.1 9 0 = nI e.1 := top.1
          have tp2 : ρ.2.1 10 0 = nI e.2.1 := top.2.1
          have tp3 : ρ.2.2 4 0 = lN (gc_cap e.2.2) := top.2.2
          rw [tp1, tp2]
          refine ek_if (not_congr (nI_eq (by omega) (by omega))) (fun y => nov ρ fρ (fun m hm2 => y (by have := (uniq m hm2).2; injection this with this _; rw [this]))) (fun y => ⟨v0, ?_⟩)
          have y : e.1 = A := Classical.byContradiction y
          refine n_of (T := T) (N := 17) (by omega) (by decide) (by omega) (fρ.mt hm) ?_
          have hF : gd_F T A e.2.1 = T A e.2.1 := by unfold gd_F; rw [if_pos hA]
          have hTA := hTb A e.2.1
          rw [hF, gl_18, tp3]
          refine ek_if (pk_lLE (by omega) (by decide)) (fun w => ⟨v0, ?_⟩) (fun w => nov ρ fρ (fun m hm2 => w (by rw [eln]; exact (uniq m hm2).1)))
          obtain ⟨a1, a2', a3⟩ := nt_nf_ok hg.1 hgok rs [e] hv hnf (by omega)
          obtain ⟨v1, v2, v3⟩ := a1 e List.mem_cons_self
          have hlt := v3 (by rw [y]; exact w)
          rw [y] at hlt
          have ecap : gc_cap e.2.2 = e.2.2 := by unfold gc_cap; rw [if_pos (by omega)]
          rw [ecap]
          refine k1 A hA rfl hb e.2.2 ρ (lasts ρ fρ) ⟨rs, T, D, o, 17, hrs, hv, by omega, hD, ho, hok, by omega, ?_, ?_⟩
          · rw [← eln]
            exact w
          · rw [hnf, ← eln, ← y]
      | succ c ih =>
        intro rs P ρ hc hrs hv hnf h16 fρ h7 hqd
        have hc' : c < l.length := by omega
        obtain ⟨b1, b2, b3⟩ := nt_nf_ln hg.1 rs P hv hnf
        have vi : vp_in (nI c) 200 := vp_in_nI (by omega) (by decide)
        have edrop : l.drop c = l.getD c 0 :: l.drop (c + 1) := by rw [List.drop_eq_getElem_cons hc', gg_getD hc']
        rw [nI_pred]
        apply h42
        refine br_f (nI_pos (by omega)) ⟨vi, ?_⟩
        rw [nI_clamp (by omega), lst ρ fρ c hc']
        refine n_isRule (fρ.mr mrτ) (fun r hr er => br_f (by decide) ⟨vi, ?_⟩) (fun hno => br_t rfl (nov ρ fρ (fun m hm2 => ?_)))
        · -- a number's own list
          have own : ∀ m, an_nr G A l m → ∃ rs0, nt_nf T G ((r :: rs)) = nt_nf T G (rs0.drop c) ∧ nt_tt G (r :: rs) ≤ 16 ∧ nt_nf T G rs0 = some [(A, nt_tt G rs0, m)] := fun m hm2 => by
            obtain ⟨rs', s1, s2, s3, s4, s5⟩ := shows m hm2
            have e1 : (rs'.drop c).map nI = (r :: rs).map nI := by
              rw [List.map_drop, ← s1, edrop, hrs, er]
              rfl
            have e2 : rs'.drop c = r :: rs := nI_map_inj hG _ _ (fun q hq => s2 q (List.mem_of_mem_drop hq)) (fun q hq => by
              rcases List.mem_cons.mp hq with z | z
              · rw [z]; exact hr
              · exact hv q z) e1
            refine ⟨rs', by rw [e2], ?_, s5⟩
            rw [← e2]
            have := nt_tt_drop (G := G) c rs'
            omega
          rw [lst ρ fρ c hc', er]
          refine n_join (T := T) (P := P) (fρ.mr mrτ) hr (fρ.mt hm) hTb h7 (by omega) hqd h16 (fun ρ2 f2 hz => br_f (fun z => z rfl) (nov ρ2 (fρ.tr f2) (fun m hm2 => ?_))) (fun P' e2' ρ2 f2 hz he g7 gq => br_t (by decide) ?_)
          · obtain ⟨rs0, s1, s2, s3⟩ := own m hm2
            have enf : nt_nf T G (r :: rs) = nt_fd T G r P := by
              show (match nt_nf T G rs with | none => none | some P => nt_fd T G r P) = _
              rw [hnf]
            rcases hz with z | ⟨P', e', z1, z2⟩
            · rw [enf, z] at s1
              rw [nt_nf_none c rs0 s1.symm] at s3
              cases s3
            · rw [z1] at enf
              obtain ⟨q1, q2, q3⟩ := nt_nf_ln hg.1 (r :: rs) (e' :: P') (fun q hq => by
                rcases List.mem_cons.mp hq with w | w
                · rw [w]; exact hr
                · exact hv q w) enf
              have : e'.2.1 + gd_ln P' = nt_tt G (r :: rs) := q1
              omega
          · rw [gv_m1]
            have enf : nt_nf T G (r :: rs) = some (e2' :: P') := by
              show (match nt_nf T G rs with | none => none | some P => nt_fd T G r P) = _
              rw [hnf]
              exact hz
            refine nm_e (ih (r :: rs) (e2' :: P') ρ2 (by show c + (rs.length + 1) = l.length; omega) (by rw [edrop, hrs, er]; rfl) (fun q hq => ?_) enf (fun q hq => ?_) (fρ.tr f2) g7 gq)
            · rcases List.mem_cons.mp hq with w | w
              · rw [w]; exact hr
              · exact hv q w
            · rcases List.mem_cons.mp hq with w | w
              · rw [w]
                refine ⟨?_, he⟩
                obtain ⟨q1, q2, q3⟩ := nt_nf_ln hg.1 (r :: rs) (e2' :: P') (fun q hq => by
                  rcases List.mem_cons.mp hq with w | w
                  · rw [w]; exact hr
                  · exact hv q w) enf
                exact q3 e2' List.mem_cons_self
              · have hz2 := hz
                unfold nt_fd at hz2
                cases hk : nt_tk (gg_y G r) P with
                | none => rw [hk] at hz2; cases hz2
                | some q2 =>
                  rw [hk] at hz2
                  injection hz2 with hz2
                  injection hz2 with _ hz2
                  obtain ⟨-, -, -, b4⟩ := nt_tk_ok (T := T) _ _ _ _ hk
                  exact h16 q (b4 q (by rw [hz2]; exact w))
        · obtain ⟨rs', s1, s2, -⟩ := shows m hm2
          have hlen : rs'.length = l.length := by rw [s1, List.length_map]
          refine hno (rs'.getD c 0) (s2 _ ?_) (map_getD s1 (by omega))
          rw [gg_getD (show c < rs'.length by omega)]
          exact List.getElem_mem _
    refine nm_e (key l.length [] [] σ8 (by show l.length + 0 = l.length; omega) (List.drop_eq_nil_iff.mpr (Nat.le_refl _)) (fun r hr => absurd hr List.not_mem_nil) rfl (fun e he => absurd he List.not_mem_nil) f8 (by rw [e8]; rfl) (fun k e hk => by cases hk))
end M2L
end
section
/-! Layer 2: class and reference side by side. -/
def lw_inv (σ μ : gs_St) : Prop := ∃ t G l d v, cl_at t G l d v σ ∧ ml_at t G l d v μ
theorem circM_no {G : gg_R} {D : Nat → Option Nat} {o : Nat → Nat} (h : an_circM G true) (hD : gm_L G D) (ho : gg_ord (gg_to G D) o 8) : False :=
  absurd ((h D o 8 hD ho (Or.inl (Nat.le_refl 8))).mp rfl) (by omega)
theorem circ_no {G : gg_R} {D : Nat → Option Nat} {o : Nat → Nat} (h : an_circ G True) (hD : gm_L G D) (ho : gg_ord (gg_to G D) o 8) : False := by
  obtain ⟨D', o', c', h1, h2, h3, h4⟩ := h
  have hc : c' < 8 := h4.mp trivial
  have hst : gg_stk (gg_to G D') o' c' := h3.resolve_left (by omega)
  obtain ⟨rk, hrk, -⟩ := gg_rank8 ho
  have hT := gg_to_congr (G := G) (gm_L_eq h1 hD)
  obtain ⟨A, a1, a2⟩ := gg_ord_miss (T := gg_to G D) (o := o') hc
  obtain ⟨n, ⟨B, b1, b2, b3⟩, hmin⟩ := pk_least (fun n => ∃ B, B < 8 ∧ (∀ j, j < c' → o' j ≠ B) ∧ rk B = n) ⟨rk A, A, a1, a2, rfl⟩
  obtain ⟨x, x1, x2, x3⟩ := hst B b1 b2
  have := hrk B x b1 x1 ((hT B x).mp x2)
  exact hmin (rk x) (by omega) ⟨x, x1, x3, rfl⟩
section M2M
variable {σ μ : gs_St}
theorem ag_symbol {x : Int32} (h : lw_inv σ μ) : C_Gl_symbol x σ (fun r σ' => C_Mo_symbol x μ (fun r' μ' => r = r' ∧ lw_inv σ' μ')) := by
  obtain ⟨t, G, l, d, v, hc, hm⟩ := h
  refine s_symbol hc (fun c0 => n_symbol hm (fun _ => ⟨rfl, t, G, l, d, v, hc, hm⟩) (fun s hs e ht τ hτ => ?_)) (fun s hs e ht τ hτ => n_symbol hm (fun c0 => ?_) (fun s' hs' e' ht' τ' hτ' => ?_))
  · exact c0.elim (fun z => absurd e (z s hs)) (fun z => absurd z (by omega))
  · exact c0.elim (fun z => absurd e (z s hs)) (fun z => absurd z (by omega))
  · have : s = s' := (nI_eq (by omega) (by omega)).mp (e.symm.trans e')
    subst this
    exact ⟨rfl, _, _, _, _, _, hτ, hτ'⟩
theorem ag_rule {x : Int32} (h : lw_inv σ μ) : C_Gl_rule x σ (fun r σ' => C_Mo_rule x μ (fun r' μ' => r = r' ∧ lw_inv σ' μ')) := by
  obtain ⟨t, G, l, d, v, hc, hm⟩ := h
  refine s_rule hc (fun c0 τ hτ => n_rule hm (fun _ τ' hτ' => ⟨rfl, _, _, _, _, _, hτ, hτ'⟩) (fun s hs e ht τ' hτ' => ?_)) (fun s hs e ht τ hτ => n_rule hm (fun c0 τ' hτ' => ?_) (fun s' hs' e' ht' τ' hτ' => ?_))
  · exact c0.elim (fun z => absurd e (z s hs)) (fun z => absurd z (by omega))
  · exact c0.elim (fun z => absurd e (z s hs)) (fun z => absurd z (by omega))
  · have : s = s' := (nI_eq (by omega) (by omega)).mp (e.symm.trans e')
    subst this
    exact ⟨rfl, _, _, _, _, _, hτ, hτ'⟩
theorem ag_drop {x : Int32} (h : lw_inv σ μ) : C_Gl_drop x σ (fun r σ' => C_Mo_drop x μ (fun r' μ' => r = r' ∧ lw_inv σ' μ')) := by
  obtain ⟨t, G, l, d, v, hc, hm⟩ := h
  have hG := hc.2.1.1.1
  refine s_drop hc (fun c0 => n_drop hm (fun _ => ⟨rfl, t, G, l, d, v, hc, hm⟩) (fun s hs e τ' hτ' => absurd e (c0 s hs))) (fun s hs e τ hτ => n_drop hm (fun c0 => absurd e (c0 s hs)) (fun s' hs' e' τ' hτ' => ?_))
  have : s = s' := (nI_eq (by omega) (by omega)).mp (e.symm.trans e')
  subst this
  exact ⟨rfl, _, _, _, _, _, hτ, hτ'⟩
theorem ag_count {x : Int32} (h : lw_inv σ μ) : C_Gl_count x σ (fun r σ' => C_Mo_count x μ (fun r' μ' => r = r' ∧ lw_inv σ' μ')) := by
  obtain ⟨t, G, l, d, v, hc, hm⟩ := h
  refine s_count hc (fun e => n_count hm (fun _ => ⟨rfl, t, G, l, d, v, hc, hm⟩) (fun e' => absurd (e.symm.trans e') (by decide)) (fun e' => absurd (e.symm.trans e') (by decide)) (fun a _ _ => absurd e a)) (fun e => n_count hm (fun e' => absurd (e.symm.trans e') (by decide)) (fun _ => ⟨rfl, t, G, l, d, v, hc, hm⟩) (fun e' => absurd (e.symm.trans e') (by decide)) (fun _ a _ => absurd e a)) (fun e => n_count hm (fun e' => absurd (e.symm.trans e') (by decide)) (fun e' => absurd (e.symm.trans e') (by decide)) (fun _ => ⟨rfl, t, G, l, d, v, hc, hm⟩) (fun _ _ a => absurd e a)) (fun a b c => n_count hm (fun e => absurd e a) (fun e => absurd e b) (fun e => absurd e c) (fun _ _ _ => ⟨rfl, t, G, l, d, v, hc, hm⟩))
theorem ag_about {x y : Int32} (h : lw_inv σ μ) : C_Gl_about x y σ (fun r σ' => C_Mo_about x y μ (fun r' μ' => r = r' ∧ lw_inv σ' μ')) := by
  obtain ⟨t, G, l, d, v, hc, hm⟩ := h
  have hG := hc.2.1.1
  have m1 : ∀ (r j : Nat), r < G.length → j < (gg_y G r).length → (-1 : Int32) ≠ nI j := fun r j hr hj e => by
    have hz := (hG.2 r hr).2.1
    exact absurd (e ▸ (by decide : (-1 : Int32) < 0)) (nI_pos (by omega))
  have same : ∀ r r' : Nat, r < G.length → r' < G.length → x = nI r → x = nI r' → r = r' := fun r r' h1 h2 e e' => by
    have := hG.1
    exact (nI_eq (by omega) (by omega)).mp (e.symm.trans e')
  refine s_about hc (fun c0 => n_about hm (fun _ => ⟨rfl, t, G, l, d, v, hc, hm⟩) (fun r hr e _ => absurd e (c0 r hr)) (fun r hr e _ _ _ => absurd e (c0 r hr)) (fun r hr e _ _ => absurd e (c0 r hr))) (fun r hr e ei => n_about hm (fun c0 => absurd e (c0 r hr)) (fun r' hr' e' _ => ?_) (fun r' hr' e' j hj ej => absurd (ei.symm.trans ej) (m1 r' j hr' hj)) (fun r' hr' e' hne _ => absurd ei hne)) (fun r hr e j hj ej => n_about hm (fun c0 => absurd e (c0 r hr)) (fun r' hr' e' ei => absurd (ei.symm.trans ej) (m1 r j hr hj)) (fun r' hr' e' j' hj' ej' => ?_) (fun r' hr' e' _ hno => ?_)) (fun r hr e hne hno => n_about hm (fun c0 => absurd e (c0 r hr)) (fun r' hr' e' ei => absurd ei hne) (fun r' hr' e' j' hj' ej' => ?_) (fun r' hr' e' _ _ => ⟨rfl, t, G, l, d, v, hc, hm⟩))
  · have := same r r' hr hr' e e'
    subst this
    exact ⟨rfl, t, G, l, d, v, hc, hm⟩
  · have := same r r' hr hr' e e'
    subst this
    have hz := (hG.2 r hr).2.1
    have : j = j' := (nI_eq (by omega) (by omega)).mp (ej.symm.trans ej')
    subst this
    exact ⟨rfl, t, G, l, d, v, hc, hm⟩
  · have := same r r' hr hr' e e'
    subst this
    exact absurd ej (hno j hj)
  · have := same r r' hr hr' e e'
    subst this
    exact absurd ej' (hno j' hj')
theorem ag_shortest {x : Int32} (h : lw_inv σ μ) : C_Gl_shortest x σ (fun r σ' => C_Mo_shortest x μ (fun r' μ' => r = r' ∧ lw_inv σ' μ')) := by
  obtain ⟨t, G, l, d, v, hc, hm⟩ := h
  refine s_shortest hc (fun c0 => n_shortest hm (fun _ => ⟨rfl, t, G, l, d, v, hc, hm⟩) (fun s hs e r τ' hτ' _ => absurd e (c0 s hs))) (fun s hs e r τ hτ han => n_shortest hm (fun c0 => absurd e (c0 s hs)) (fun s' hs' e' r' τ' hτ' han' => ?_))
  have : s = s' := (nI_eq (by omega) (by omega)).mp (e.symm.trans e')
  subst this
  exact ⟨an_short_eq hs han han', _, _, _, _, _, hτ, hτ'⟩
theorem ag_shortestWith {x : Int32} (h : lw_inv σ μ) : C_Gl_shortestWith x σ (fun r σ' => C_Mo_shortestWith x μ (fun r' μ' => r = r' ∧ lw_inv σ' μ')) := by
  obtain ⟨t, G, l, d, v, hc, hm⟩ := h
  have hG := hc.2.1.1.1
  refine s_shortestWith hc (fun c0 => n_shortestWith hm (fun _ => ⟨rfl, t, G, l, d, v, hc, hm⟩) (fun s hs e r τ' hτ' _ => absurd e (c0 s hs))) (fun s hs e r τ hτ han => n_shortestWith hm (fun c0 => absurd e (c0 s hs)) (fun s' hs' e' r' τ' hτ' han' => ?_))
  have : s = s' := (nI_eq (by omega) (by omega)).mp (e.symm.trans e')
  subst this
  exact ⟨an_with_eq hc.2.1.1 hs han han', _, _, _, _, _, hτ, hτ'⟩
theorem ag_circle (h : lw_inv σ μ) : C_Gl_circle σ (fun r σ' => C_Mo_circle μ (fun r' μ' => r = r' ∧ lw_inv σ' μ')) := by
  obtain ⟨t, G, l, d, v, hc, hm⟩ := h
  refine s_circle hc (fun τ hτ _ _ _ han => n_circ hm (fun τ' hτ' _ => ⟨rfl, _, _, _, _, _, hτ, hτ'⟩) (fun τ' hτ' han' => absurd ((an_circ_M han han').mpr trivial) Bool.false_ne_true)) (fun τ hτ _ _ _ han => n_circ hm (fun τ' hτ' han' => ((an_circ_M han han').mp rfl).elim) (fun τ' hτ' _ => ⟨rfl, _, _, _, _, _, hτ, hτ'⟩))
theorem ag_trees {x y : Int32} (h : lw_inv σ μ) : C_Gl_trees x y σ (fun r σ' => C_Mo_trees x y μ (fun r' μ' => r = r' ∧ lw_inv σ' μ')) := by
  obtain ⟨t, G, l, d, v, hc, hm⟩ := h
  refine s_trees hc (fun τ hτ hno => n_trees hm (fun τ' hτ' _ => ⟨rfl, _, _, _, _, _, hτ, hτ'⟩) (fun j hj ex n hn ey hcf D o T τ' hτ' hD ho _ _ _ => ?_)) (fun j hj ex n hn ey D O o T T' N N' τ hτ hw hnN => n_trees hm (fun τ' hτ' hno => ?_) (fun j' hj' ex' n' hn' ey' _ D' o' T2 τ' hτ' hD' ho' _ hok' _ => ?_))
  · rcases hno with z | z | z
    · exact absurd ex (z j hj)
    · exact absurd ey (z n hn)
    · exact (circ_no z hD ho).elim
  · rcases hno with z | z | z
    · exact absurd ex (z j hj)
    · exact absurd ey (z n hn)
    · exact (circM_no z hw.2.2.1 hw.2.2.2.2.2.2.1).elim
  · have e1 : j = j' := (nI_eq (by omega) (by omega)).mp (ex.symm.trans ex')
    have e2 : n = n' := (nI_eq (by omega) (by omega)).mp (ey.symm.trans ey')
    subst e1
    subst e2
    have hcl := hτ.cl ⟨D, O, o, 8, T, T', N, N', hw⟩
    obtain ⟨h1, h2, h3, h4, h5, h6, h7, h8, h9, h10, h11, h12, h13, h14, -⟩ := hw
    have eT := gc_two hτ.2.1.1 h3 hD' h7 h14.2.2.1 hok' n hnN (by omega) j hj
    rw [eT]
    exact ⟨rfl, _, _, _, _, _, hcl, hτ'⟩
theorem ag_treesWith {x y : Int32} (h : lw_inv σ μ) : C_Gl_treesWith x y σ (fun r σ' => C_Mo_treesWith x y μ (fun r' μ' => r = r' ∧ lw_inv σ' μ')) := by
  obtain ⟨t, G, l, d, v, hc, hm⟩ := h
  have hG := hc.2.1.1
  have hG24 := hG.1
  have no : ∀ {r n a : Nat}, r < G.length → x = nI r → n ≤ 16 → y = nI n → an_tab G (fun _ => true) 0 n a → ((∀ r, r < G.length → x ≠ nI r) ∨ (∀ n, n ≤ 16 → y ≠ nI n) ∨ an_circ G True) → False := fun {r n a} hr ex hn ey tab hno => by
    obtain ⟨D, o, T, N, t1, t2, -⟩ := tab
    rcases hno with z | z | z
    · exact absurd ex (z r hr)
    · exact absurd ey (z n hn)
    · exact circ_no z t1 t2
  have noM : ∀ {r n a : Nat}, r < G.length → x = nI r → n ≤ 16 → y = nI n → an_tab G (fun _ => true) 0 n a → ((∀ r, r < G.length → x ≠ nI r) ∨ (∀ n, n ≤ 16 → y ≠ nI n) ∨ an_circM G true) → False := fun {r n a} hr ex hn ey tab hno => by
    obtain ⟨D, o, T, N, t1, t2, -⟩ := tab
    rcases hno with z | z | z
    · exact absurd ex (z r hr)
    · exact absurd ey (z n hn)
    · exact circM_no z t1 t2
  refine s_treesWith hc (fun τ hτ hno => n_treesWith hm (fun τ' hτ' _ => ⟨rfl, _, _, _, _, _, hτ, hτ'⟩) (fun r hr ex n hn ey _ τ' a hτ' tab _ => (no hr ex hn ey tab hno).elim) (fun r hr ex n hn ey _ τ' a b hτ' tab _ _ => (no hr ex hn ey tab hno).elim)) (fun r hr ex n hn ey τ a hτ tab ha => n_treesWith hm (fun τ' hτ' hno => (noM hr ex hn ey tab hno).elim) (fun r' hr' ex' n' hn' ey' _ τ' a' hτ' tab' _ => ⟨rfl, _, _, _, _, _, hτ, hτ'⟩) (fun r' hr' ex' n' hn' ey' _ τ' a' b' hτ' tab' ha' _ => ?_)) (fun r hr ex n hn ey τ a b hτ tab ha tabb => n_treesWith hm (fun τ' hτ' hno => (noM hr ex hn ey tab hno).elim) (fun r' hr' ex' n' hn' ey' _ τ' a' hτ' tab' ha' => ?_) (fun r' hr' ex' n' hn' ey' _ τ' a' b' hτ' tab' ha' tabb' => ?_))
  · have e2 : n = n' := (nI_eq (by omega) (by omega)).mp (ey.symm.trans ey')
    subst e2
    have := an_tab_one hG (by decide) tab tab'
    omega
  · have e2 : n = n' := (nI_eq (by omega) (by omega)).mp (ey.symm.trans ey')
    subst e2
    have := an_tab_one hG (by decide) tab tab'
    omega
  · have e1 : r = r' := (nI_eq (by omega) (by omega)).mp (ex.symm.trans ex')
    have e2 : n = n' := (nI_eq (by omega) (by omega)).mp (ey.symm.trans ey')
    subst e1
    subst e2
    rw [an_tab_one hG (by decide) tab tab', an_tab_one hG (by decide) tabb tabb']
    exact ⟨rfl, _, _, _, _, _, hτ, hτ'⟩
theorem ag_draw {x y : Int32} {a : Int64} (h : lw_inv σ μ) : C_Gl_draw x y a σ (fun r u => C_Mo_draw x y a μ (fun r' μ' => r = r' ∧ lw_inv u.1 μ')) := by
  obtain ⟨t, G, l, d, v, hc, hm⟩ := h
  have hG := hc.2.1.1
  have no : ∀ {j n m : Nat} {T : Nat → Nat → Nat}, an_dr G x y a j n m T → ((a < 0 ∨ (∀ j, j < 8 → x ≠ nI j) ∨ (∀ n, n ≤ 16 → y ≠ nI n) ∨ an_circ G True) ∨ ∀ j n m T, ¬ an_dr G x y a j n m T) → False := fun {j n m T} hdr hno => by
    obtain ⟨h1, h2, h3, h4, h5, h6, ⟨D, od, N, h7, h8, h9, h10⟩, h11, h12⟩ := id hdr
    rcases hno with (z | z | z | z) | z
    · rw [h5] at z
      have := (pk_lLT (a := m) (b := 0) h6 (by decide)).mp z
      omega
    · exact absurd h1 (z j h2)
    · exact absurd h3 (z n h4)
    · exact circ_no z h7 h8
    · exact z j n m T hdr
  have noM : ∀ {j n m : Nat} {T : Nat → Nat → Nat}, an_dr G x y a j n m T → ((a < 0 ∨ (∀ j, j < 8 → x ≠ nI j) ∨ (∀ n, n ≤ 16 → y ≠ nI n) ∨ an_circM G true) ∨ ∀ j n m T, ¬ an_dr G x y a j n m T) → False := fun {j n m T} hdr hno => by
    obtain ⟨h1, h2, h3, h4, h5, h6, ⟨D, od, N, h7, h8, h9, h10⟩, h11, h12⟩ := id hdr
    rcases hno with (z | z | z | z) | z
    · rw [h5] at z
      have := (pk_lLT (a := m) (b := 0) h6 (by decide)).mp z
      omega
    · exact absurd h1 (z j h2)
    · exact absurd h3 (z n h4)
    · exact circM_no z h7 h8
    · exact z j n m T hdr
  refine s_draw hc (fun τ hτ hno => n_draw hm (fun τ' hτ' _ => ⟨rfl, _, _, _, _, _, hτ, hτ'⟩) (fun j n m T k τ' hdr _ _ => (no hdr hno).elim) (fun j n m T k R L τ' hdr _ _ => (no hdr hno).elim)) (fun j n m T k τ hdr hres hτ => n_draw hm (fun τ' hτ' hno => (noM hdr hno).elim) (fun j' n' m' T' k' τ' hdr' hres' hτ' => ⟨rfl, _, _, _, _, _, hτ, hτ'⟩) (fun j' n' m' T' k' R L τ' hdr' hres' hτ' => ?_)) (fun j n m T k R L τ hdr hres hτ => n_draw hm (fun τ' hτ' hno => (noM hdr hno).elim) (fun j' n' m' T' k' τ' hdr' hres' hτ' => ?_) (fun j' n' m' T' k' R' L' τ' hdr' hres' hτ' => ?_))
  · have := an_dr_one hG hdr hdr' hres hres'
    cases this
  · have := an_dr_one hG hdr hdr' hres hres'
    cases this
  · have := an_dr_one hG hdr hdr' hres hres'
    injection this with this
    injection this with e1 e2
    subst e1
    subst e2
    exact ⟨rfl, _, _, _, _, _, hτ, hτ'⟩
theorem ag_row {x : Int32} (h : lw_inv σ μ) : C_Gl_row x σ (fun r σ' => C_Mo_row x μ (fun r' μ' => r = r' ∧ lw_inv σ' μ')) := by
  obtain ⟨t, G, l, d, v, hc, hm⟩ := h
  have hd := hc.2.2.2.1.1
  refine s_row hc (fun c0 => n_row hm (fun _ => ⟨rfl, t, G, l, d, v, hc, hm⟩) (fun s hs e => absurd e (c0 s hs))) (fun s hs e => n_row hm (fun c0 => absurd e (c0 s hs)) (fun s' hs' e' => ?_))
  have : s = s' := (nI_eq (by omega) (by omega)).mp (e.symm.trans e')
  subst this
  exact ⟨rfl, t, G, l, d, v, hc, hm⟩
theorem ag_leaf {x : Int32} (h : lw_inv σ μ) : C_Gl_leaf x σ (fun r σ' => C_Mo_leaf x μ (fun r' μ' => r = r' ∧ lw_inv σ' μ')) := by
  obtain ⟨t, G, l, d, v, hc, hm⟩ := h
  have hd := hc.2.2.2.1.2.1
  refine s_leaf hc (fun c0 => n_leaf hm (fun _ => ⟨rfl, t, G, l, d, v, hc, hm⟩) (fun s hs e => absurd e (c0 s hs))) (fun s hs e => n_leaf hm (fun c0 => absurd e (c0 s hs)) (fun s' hs' e' => ?_))
  have : s = s' := (nI_eq (by omega) (by omega)).mp (e.symm.trans e')
  subst this
  exact ⟨rfl, t, G, l, d, v, hc, hm⟩
theorem ag_list {x : Int32} (h : lw_inv σ μ) : C_Gl_list x σ (fun r σ' => C_Mo_list x μ (fun r' μ' => r = r' ∧ lw_inv σ' μ')) := by
  obtain ⟨t, G, l, d, v, hc, hm⟩ := h
  exact s_list hc (fun c0 => n_list hm (fun _ => ⟨rfl, t, G, l, d, v, hc, hm⟩) (fun z τ' hτ' => absurd z (by omega))) (fun z τ hτ => n_list hm (fun c0 => absurd z (by omega)) (fun _ τ' hτ' => ⟨rfl, _, _, _, _, _, hτ, hτ'⟩))
theorem ag_number {x : Int32} (h : lw_inv σ μ) : C_Gl_number x σ (fun r σ' => C_Mo_number x μ (fun r' μ' => r = r' ∧ lw_inv σ' μ')) := by
  obtain ⟨t, G, l, d, v, hc, hm⟩ := h
  have hG := hc.2.1.1
  refine s_number hc (fun τ hτ hno => n_number hm (fun τ' hτ' _ => ⟨rfl, _, _, _, _, _, hτ, hτ'⟩) (fun j hj ex _ m τ' hτ' han => ?_)) (fun j hj ex _ m τ hτ han => n_number hm (fun τ' hτ' hno => ?_) (fun j' hj' ex' _ m' τ' hτ' han' => ?_))
  · obtain ⟨rs, T, D, o, N, g1, g2, g3, g4, g5, -⟩ := id han
    rcases hno with z | z | z
    · exact absurd ex (z j hj)
    · exact (circ_no z g4 g5).elim
    · exact absurd han (z j hj ex m)
  · obtain ⟨rs, T, D, o, N, g1, g2, g3, g4, g5, -⟩ := id han
    rcases hno with z | z | z
    · exact absurd ex (z j hj)
    · exact (circM_no z g4 g5).elim
    · exact absurd han (z j hj ex m)
  · have e1 : j = j' := (nI_eq (by omega) (by omega)).mp (ex.symm.trans ex')
    subst e1
    rw [an_nr_one hG han han']
    exact ⟨rfl, _, _, _, _, _, hτ, hτ'⟩
theorem lw_inv_0 : lw_inv gs_0 gm_0 := by
  refine ⟨[], [], [], [], [], ⟨⟨by decide, fun i hi => absurd hi (Nat.not_lt_zero _), rfl, fun i hi => absurd hi (Nat.not_lt_zero _)⟩, ⟨⟨by decide, fun r hr => absurd hr (Nat.not_lt_zero _)⟩, rfl, fun r hr => absurd hr (Nat.not_lt_zero _)⟩, ⟨by decide, rfl, fun i hi => absurd hi (Nat.not_lt_zero _)⟩, ⟨by decide, by decide, rfl, rfl, fun i hi => absurd hi (Nat.not_lt_zero _), fun i hi => absurd hi (Nat.not_lt_zero _)⟩, rfl, Or.inl rfl⟩, ⟨⟨by decide, fun i hi => absurd hi (Nat.not_lt_zero _), rfl, fun i hi => absurd hi (Nat.not_lt_zero _)⟩, ⟨⟨by decide, fun r hr => absurd hr (Nat.not_lt_zero _)⟩, rfl, fun r hr => absurd hr (Nat.not_lt_zero _)⟩, ⟨by decide, rfl, fun i hi => absurd hi (Nat.not_lt_zero _)⟩, ⟨by decide, by decide, rfl, rfl, fun i hi => absurd hi (Nat.not_lt_zero _), fun i hi => absurd hi (Nat.not_lt_zero _)⟩, Or.inl rfl⟩⟩
end M2M
end
