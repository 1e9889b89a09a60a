section
/-- a state: the int fields, the int arrays, the long arrays -/
abbrev gs_St : Type := (Nat → Int32) × (Nat → Nat → Int32) × (Nat → Nat → Int64)
def gs_I (σ : gs_St) (k : Nat) (v : Int32) : gs_St := (fun j => if j = k then v else σ.1 j, σ.2)
def gs_A (σ : gs_St) (k : Nat) (f : Nat → Int32) : gs_St := (σ.1, fun j => if j = k then f else σ.2.1 j, σ.2.2)
def gs_L (σ : gs_St) (k : Nat) (f : Nat → Int64) : gs_St := (σ.1, σ.2.1, fun j => if j = k then f else σ.2.2 j)
/-- a new object -/
def gs_0 : gs_St := (fun k => if k = 4 then -1 else if k = 6 then -1 else 0, fun _ _ => 0, fun _ _ => 0)
def gs_sS (σ : gs_St) : gs_St := (fun k => if k = 10 then σ.1 12 else if k = 11 then σ.1 13 else if k = 12 then σ.1 10 else if k = 13 then σ.1 11 else σ.1 k, fun k => if k = 10 then σ.2.1 12 else if k = 11 then σ.2.1 13 else if k = 12 then σ.2.1 10 else if k = 13 then σ.2.1 11 else σ.2.1 k, σ.2.2)
def C_Gl_symbol (a0 : Int32) (σ : gs_St) (K : Int32 → gs_St → Prop) : Prop :=
  ((a0 < 0 → K (-1 : Int32) σ) ∧ (¬ (a0 < 0) → ((24 : Int32) ≤ a0 → K (-1 : Int32) σ) ∧ (¬ ((24 : Int32) ≤ a0) → ((σ.1 0) < (6 : Int32) → vp_in (σ.1 0) 6 ∧ ∀ σ1 : gs_St, σ1 = gs_A σ 0 (upd (σ.2.1 0) (σ.1 0).toNatClampNeg a0) → ∀ σ2 : gs_St, σ2 = gs_I σ1 0 ((σ1.1 0) + (1 : Int32)) → K (σ2.1 0) σ2) ∧ (¬ ((σ.1 0) < (6 : Int32)) → K (-1 : Int32) σ))))
def C_Gl_isNonterminal (a0 : Int32) (σ : gs_St) (K : Int32 → gs_St → Prop) : Prop :=
  ((a0 < 0 → K (0 : Int32) σ) ∧ (¬ (a0 < 0) → ((8 : Int32) ≤ a0 → K (0 : Int32) σ) ∧ (¬ ((8 : Int32) ≤ a0) → K (1 : Int32) σ)))
def C_Gr_add_1 (a0 : Int32) (a2 : Int32) (σ : gs_St) (K : Int32 → gs_St → Prop) : Prop :=
  (vp_in (σ.1 2) 24 ∧ ∀ σ1 : gs_St, σ1 = gs_A σ 1 (upd (σ.2.1 1) (σ.1 2).toNatClampNeg a0) → vp_in (σ1.1 2) 24 ∧ ∀ σ2 : gs_St, σ2 = gs_A σ1 2 (upd (σ1.2.1 2) (σ1.1 2).toNatClampNeg a2) → ¬ (0 : Int32) < 0 ∧ ¬ ((σ2.1 2) * (6 : Int32)) < 0 ∧ ¬ a2 < 0 ∧ (0 : Int32).toNatClampNeg + a2.toNatClampNeg ≤ 6 ∧ ((σ2.1 2) * (6 : Int32)).toNatClampNeg + a2.toNatClampNeg ≤ 144 ∧ ∀ σ3 : gs_St, σ3 = gs_A σ2 3 (va_cpy (σ2.2.1 0) (σ2.2.1 3) (0 : Int32).toNatClampNeg ((σ2.1 2) * (6 : Int32)).toNatClampNeg a2.toNatClampNeg) → ∀ σ4 : gs_St, σ4 = gs_I σ3 2 ((σ3.1 2) + (1 : Int32)) → K ((σ4.1 2) - (1 : Int32)) σ4)
def C_Gl_rule (a0 : Int32) (σ : gs_St) (K : Int32 → gs_St → Prop) : Prop :=
  (∀ v1 : Int32, v1 = σ.1 0 → ∀ σ2 : gs_St, σ2 = gs_I σ 0 (0 : Int32) → C_Gl_isNonterminal a0 σ2 (fun r4 σ3 => (r4 = 0 → K (-1 : Int32) σ3) ∧ (¬ (r4 = 0) → ((σ3.1 2) < (24 : Int32) → ∀ σ5 : gs_St, σ5 = gs_I σ3 1 (0 : Int32) → C_Gr_add_1 a0 v1 σ5 (fun r7 σ6 => K r7 σ6)) ∧ (¬ ((σ3.1 2) < (24 : Int32)) → K (-1 : Int32) σ3))))
def C_Gr_has (a0 : Int32) (σ : gs_St) (K : Int32 → gs_St → Prop) : Prop :=
  ((a0 < 0 → K (0 : Int32) σ) ∧ (¬ (a0 < 0) → ((σ.1 2) ≤ a0 → K (0 : Int32) σ) ∧ (¬ ((σ.1 2) ≤ a0) → K (1 : Int32) σ)))
def C_Gr_remove (a0 : Int32) (σ : gs_St) (K : gs_St → Prop) : Prop :=
  (∀ v1 : Int32, v1 = a0 + (1 : Int32) → ∀ v2 : Int32, v2 = (σ.1 2) - v1 → ¬ v1 < 0 ∧ ¬ a0 < 0 ∧ ¬ v2 < 0 ∧ v1.toNatClampNeg + v2.toNatClampNeg ≤ 24 ∧ a0.toNatClampNeg + v2.toNatClampNeg ≤ 24 ∧ ∀ σ3 : gs_St, σ3 = gs_A σ 1 (va_cpy (σ.2.1 1) (σ.2.1 1) v1.toNatClampNeg a0.toNatClampNeg v2.toNatClampNeg) → ¬ v1 < 0 ∧ ¬ a0 < 0 ∧ ¬ v2 < 0 ∧ v1.toNatClampNeg + v2.toNatClampNeg ≤ 24 ∧ a0.toNatClampNeg + v2.toNatClampNeg ≤ 24 ∧ ∀ σ4 : gs_St, σ4 = gs_A σ3 2 (va_cpy (σ3.2.1 2) (σ3.2.1 2) v1.toNatClampNeg a0.toNatClampNeg v2.toNatClampNeg) → ¬ (v1 * (6 : Int32)) < 0 ∧ ¬ (a0 * (6 : Int32)) < 0 ∧ ¬ (v2 * (6 : Int32)) < 0 ∧ (v1 * (6 : Int32)).toNatClampNeg + (v2 * (6 : Int32)).toNatClampNeg ≤ 144 ∧ (a0 * (6 : Int32)).toNatClampNeg + (v2 * (6 : Int32)).toNatClampNeg ≤ 144 ∧ ∀ σ5 : gs_St, σ5 = gs_A σ4 3 (va_cpy (σ4.2.1 3) (σ4.2.1 3) (v1 * (6 : Int32)).toNatClampNeg (a0 * (6 : Int32)).toNatClampNeg (v2 * (6 : Int32)).toNatClampNeg) → ∀ σ6 : gs_St, σ6 = gs_I σ5 2 ((σ5.1 2) - (1 : Int32)) → K σ6)
def C_Gl_drop (a0 : Int32) (σ : gs_St) (K : Int32 → gs_St → Prop) : Prop :=
  (C_Gr_has a0 σ (fun r2 σ1 => (¬ r2 = 0 → ∀ σ3 : gs_St, σ3 = gs_I σ1 1 (0 : Int32) → C_Gr_remove a0 σ3 (fun σ4 => K (1 : Int32) σ4)) ∧ (¬ (¬ r2 = 0) → K (0 : Int32) σ1)))
def C_Gl_count (a0 : Int32) (σ : gs_St) (K : Int32 → gs_St → Prop) : Prop :=
  ((a0 = 0 → K (σ.1 2) σ) ∧ (a0 = 1 → K (σ.1 0) σ) ∧ (a0 = 2 → K (σ.1 14) σ) ∧ (a0.toInt < 0 ∨ 2 < a0.toInt → K (-1 : Int32) σ))
def C_Gr_sizeOf (a0 : Int32) (σ : gs_St) (K : Int32 → gs_St → Prop) : Prop :=
  (vp_in a0 24 ∧ (K (σ.2.1 2 a0.toNatClampNeg) σ))
def C_Gr_symbolAt (a0 : Int32) (a1 : Int32) (σ : gs_St) (K : Int32 → gs_St → Prop) : Prop :=
  (vp_in ((a0 * (6 : Int32)) + a1) 144 ∧ (K (σ.2.1 3 ((a0 * (6 : Int32)) + a1).toNatClampNeg) σ))
def C_Gr_leftOf (a0 : Int32) (σ : gs_St) (K : Int32 → gs_St → Prop) : Prop :=
  (vp_in a0 24 ∧ (K (σ.2.1 1 a0.toNatClampNeg) σ))
def C_Gl_about (a0 : Int32) (a1 : Int32) (σ : gs_St) (K : Int32 → gs_St → Prop) : Prop :=
  (C_Gr_has a0 σ (fun r2 σ1 => (r2 = 0 → K (-1 : Int32) σ1) ∧ (¬ (r2 = 0) → (a1 < (-1 : Int32) → K (-1 : Int32) σ1) ∧ (¬ (a1 < (-1 : Int32)) → C_Gr_sizeOf a0 σ1 (fun r4 σ3 => (a1 < r4 → (¬ a1 = (-1 : Int32) → C_Gr_symbolAt a0 a1 σ3 (fun r6 σ5 => K r6 σ5)) ∧ (¬ (¬ a1 = (-1 : Int32)) → C_Gr_leftOf a0 σ3 (fun r8 σ7 => K r8 σ7))) ∧ (¬ (a1 < r4) → K (-1 : Int32) σ3))))))
def C_Ar_fill_7 (a1 : Int32) (σ : gs_St) (K : gs_St → Prop) : Prop :=
  ∀ X5 : Int32 → Int32 → Int32 → gs_St → Prop,
  (∀ (v_1 : Int32) (v_2 : Int32) (v_3 : Int32) (σ : gs_St), ((v_3 ≤ v_2 → K σ) ∧ (¬ (v_3 ≤ v_2) → vp_in v_2 8 ∧ ∀ σ1 : gs_St, σ1 = gs_A σ 4 (upd (σ.2.1 4) v_2.toNatClampNeg v_1) → ∀ v2 : Int32, v2 = v_2 + 1 → X5 v_1 v2 v_3 σ1)) → X5 v_1 v_2 v_3 σ) →
  (X5 a1 (0 : Int32) (8 : Int32) σ)
def C_Ar_fill_8 (a1 : Int32) (σ : gs_St) (K : gs_St → Prop) : Prop :=
  ∀ X5 : Int32 → Int32 → Int32 → gs_St → Prop,
  (∀ (v_1 : Int32) (v_2 : Int32) (v_3 : Int32) (σ : gs_St), ((v_3 ≤ v_2 → K σ) ∧ (¬ (v_3 ≤ v_2) → vp_in v_2 8 ∧ ∀ σ1 : gs_St, σ1 = gs_A σ 5 (upd (σ.2.1 5) v_2.toNatClampNeg v_1) → ∀ v2 : Int32, v2 = v_2 + 1 → X5 v_1 v2 v_3 σ1)) → X5 v_1 v_2 v_3 σ) →
  (X5 a1 (0 : Int32) (8 : Int32) σ)
def C_Le_leastBut (a0 : Int32) (a1 : Int32) (σ : gs_St) (K : Int32 → gs_St → Prop) : Prop :=
  ∀ X5 : Int32 → Int32 → Int32 → Int32 → gs_St → Prop,
  (∀ (v_1 : Int32) (v_2 : Int32) (v_3 : Int32) (v_4 : Int32) (σ : gs_St), (C_Gr_sizeOf v_1 σ (fun r2 σ1 => (r2 ≤ v_4 → K v_3 σ1) ∧ (¬ (r2 ≤ v_4) → (¬ v_4 = v_2 → C_Gr_symbolAt v_1 v_4 σ1 (fun r4 σ3 => C_Gl_isNonterminal r4 σ3 (fun r6 σ5 => (r6 = 0 → (¬ (1 : Int32) = (-1 : Int32) → ∀ v7 : Int32, v7 = v_3 + (1 : Int32) → ∀ v8 : Int32, v8 = v_4 + 1 → X5 v_1 v_2 v7 v8 σ5) ∧ (¬ (¬ (1 : Int32) = (-1 : Int32)) → K (-1 : Int32) σ5)) ∧ (¬ (r6 = 0) → vp_in r4 8 ∧ (∀ v9 : Int32, v9 = σ5.2.1 4 r4.toNatClampNeg → (¬ v9 = (-1 : Int32) → ∀ v10 : Int32, v10 = v_3 + v9 → ∀ v11 : Int32, v11 = v_4 + 1 → X5 v_1 v_2 v10 v11 σ5) ∧ (¬ (¬ v9 = (-1 : Int32)) → K (-1 : Int32) σ5)))))) ∧ (¬ (¬ v_4 = v_2) → ∀ v12 : Int32, v12 = v_4 + 1 → X5 v_1 v_2 v_3 v12 σ1)))) → X5 v_1 v_2 v_3 v_4 σ) →
  (X5 a0 a1 (0 : Int32) (0 : Int32) σ)
def C_Le_lower_7 (a1 : Int32) (a2 : Int32) (σ : gs_St) (K : gs_St → Prop) : Prop :=
  (vp_in a1 8 ∧ (∀ v1 : Int32, v1 = σ.2.1 4 a1.toNatClampNeg → (a2 = (-1 : Int32) → K σ) ∧ (¬ (a2 = (-1 : Int32)) → (v1 = (-1 : Int32) → vp_in a1 8 ∧ ∀ σ2 : gs_St, σ2 = gs_A σ 4 (upd (σ.2.1 4) a1.toNatClampNeg a2) → K σ2) ∧ (¬ (v1 = (-1 : Int32)) → (v1 ≤ a2 → K σ) ∧ (¬ (v1 ≤ a2) → vp_in a1 8 ∧ ∀ σ3 : gs_St, σ3 = gs_A σ 4 (upd (σ.2.1 4) a1.toNatClampNeg a2) → K σ3)))))
def C_Le_lower_8 (a1 : Int32) (a2 : Int32) (σ : gs_St) (K : gs_St → Prop) : Prop :=
  (vp_in a1 8 ∧ (∀ v1 : Int32, v1 = σ.2.1 5 a1.toNatClampNeg → (a2 = (-1 : Int32) → K σ) ∧ (¬ (a2 = (-1 : Int32)) → (v1 = (-1 : Int32) → vp_in a1 8 ∧ ∀ σ2 : gs_St, σ2 = gs_A σ 5 (upd (σ.2.1 5) a1.toNatClampNeg a2) → K σ2) ∧ (¬ (v1 = (-1 : Int32)) → (v1 ≤ a2 → K σ) ∧ (¬ (v1 ≤ a2) → vp_in a1 8 ∧ ∀ σ3 : gs_St, σ3 = gs_A σ 5 (upd (σ.2.1 5) a1.toNatClampNeg a2) → K σ3)))))
def C_Le_lowerAround (a0 : Int32) (σ : gs_St) (K : gs_St → Prop) : Prop :=
  ∀ X22 : Int32 → Int32 → Int32 → gs_St → Prop,
  (∀ (v_1 : Int32) (v_2 : Int32) (v_3 : Int32) (σ : gs_St), (C_Gr_sizeOf v_1 σ (fun r5 σ4 => (r5 ≤ v_3 → K σ4) ∧ (¬ (r5 ≤ v_3) → C_Gr_symbolAt v_1 v_3 σ4 (fun r7 σ6 => C_Le_leastBut v_1 v_3 σ6 (fun r9 σ8 => C_Gl_isNonterminal r7 σ8 (fun r11 σ10 => (r11 = 0 → ∀ v12 : Int32, v12 = v_3 + 1 → X22 v_1 v_2 v12 σ10) ∧ (¬ (r11 = 0) → (r9 = (-1 : Int32) → ∀ v13 : Int32, v13 = v_3 + 1 → X22 v_1 v_2 v13 σ10) ∧ (¬ (r9 = (-1 : Int32)) → C_Le_lower_8 r7 (v_2 + r9) σ10 (fun σ14 => ∀ v15 : Int32, v15 = v_3 + 1 → X22 v_1 v_2 v15 σ14))))))))) → X22 v_1 v_2 v_3 σ) →
  (C_Gr_leftOf a0 σ (fun r2 σ1 => vp_in r2 8 ∧ (∀ v3 : Int32, v3 = σ1.2.1 5 r2.toNatClampNeg → (¬ v3 = (-1 : Int32) → X22 a0 v3 (0 : Int32) σ1) ∧ (¬ (¬ v3 = (-1 : Int32)) → K σ1))))
def C_Le_find (σ : gs_St) (K : gs_St → Prop) : Prop :=
  ∀ X10 : Int32 → gs_St → Prop,
  ∀ X18 : Int32 → Int32 → gs_St → Prop,
  ∀ X79 : Int32 → gs_St → Prop,
  ∀ X87 : Int32 → Int32 → gs_St → Prop,
  (∀ (v_1 : Int32) (σ : gs_St), (((8 : Int32) ≤ v_1 → C_Ar_fill_8 (-1 : Int32) σ (fun σ2 => vp_in (0 : Int32) 8 ∧ ∀ σ3 : gs_St, σ3 = gs_A σ2 5 (upd (σ2.2.1 5) (0 : Int32).toNatClampNeg (0 : Int32)) → X79 (0 : Int32) σ3)) ∧ (¬ ((8 : Int32) ≤ v_1) → X18 v_1 (0 : Int32) σ)) → X10 v_1 σ) →
  (∀ (v_1 : Int32) (v_2 : Int32) (σ : gs_St), (((σ.1 2) ≤ v_2 → ∀ v4 : Int32, v4 = v_1 + 1 → X10 v4 σ) ∧ (¬ ((σ.1 2) ≤ v_2) → C_Gr_leftOf v_2 σ (fun r6 σ5 => C_Le_leastBut v_2 (-1 : Int32) σ5 (fun r8 σ7 => C_Le_lower_7 r6 r8 σ7 (fun σ9 => ∀ v10 : Int32, v10 = v_2 + 1 → X18 v_1 v10 σ9))))) → X18 v_1 v_2 σ) →
  (∀ (v_1 : Int32) (σ : gs_St), (((8 : Int32) ≤ v_1 → K σ) ∧ (¬ ((8 : Int32) ≤ v_1) → X87 v_1 (0 : Int32) σ)) → X79 v_1 σ) →
  (∀ (v_1 : Int32) (v_2 : Int32) (σ : gs_St), (((σ.1 2) ≤ v_2 → ∀ v11 : Int32, v11 = v_1 + 1 → X79 v11 σ) ∧ (¬ ((σ.1 2) ≤ v_2) → C_Le_lowerAround v_2 σ (fun σ12 => ∀ v13 : Int32, v13 = v_2 + 1 → X87 v_1 v13 σ12))) → X87 v_1 v_2 σ) →
  (C_Ar_fill_7 (-1 : Int32) σ (fun σ1 => X10 (0 : Int32) σ1))
def C_Ar_fill_10 (a1 : Int32) (σ : gs_St) (K : gs_St → Prop) : Prop :=
  ∀ X5 : Int32 → Int32 → Int32 → gs_St → Prop,
  (∀ (v_1 : Int32) (v_2 : Int32) (v_3 : Int32) (σ : gs_St), ((v_3 ≤ v_2 → K σ) ∧ (¬ (v_3 ≤ v_2) → vp_in v_2 8 ∧ ∀ σ1 : gs_St, σ1 = gs_A σ 6 (upd (σ.2.1 6) v_2.toNatClampNeg v_1) → ∀ v2 : Int32, v2 = v_2 + 1 → X5 v_1 v2 v_3 σ1)) → X5 v_1 v_2 v_3 σ) →
  (X5 a1 (0 : Int32) (8 : Int32) σ)
def C_Ld_putInOrder (σ : gs_St) (K : gs_St → Prop) : Prop :=
  ∀ X9 : Int32 → Int32 → gs_St → Prop,
  ∀ X17 : Int32 → Int32 → Int32 → gs_St → Prop,
  ∀ X36 : Int32 → Int32 → Int32 → Int32 → gs_St → Prop,
  (∀ (v_1 : Int32) (v_2 : Int32) (σ : gs_St), (((8 : Int32) ≤ v_2 → K σ) ∧ (¬ ((8 : Int32) ≤ v_2) → X17 v_1 v_2 (0 : Int32) σ)) → X9 v_1 v_2 σ) →
  (∀ (v_1 : Int32) (v_2 : Int32) (v_3 : Int32) (σ : gs_St), (((8 : Int32) ≤ v_3 → ∀ v2 : Int32, v2 = v_2 + 1 → X9 v_1 v2 σ) ∧ (¬ ((8 : Int32) ≤ v_3) → (¬ (v_1 &&& ((1 : Int32) <<< (v_3 &&& 31))) = 0 → X36 v_1 v_2 v_3 (0 : Int32) σ) ∧ (¬ (¬ (v_1 &&& ((1 : Int32) <<< (v_3 &&& 31))) = 0) → X36 v_1 v_2 v_3 (1 : Int32) σ))) → X17 v_1 v_2 v_3 σ) →
  (∀ (v_1 : Int32) (v_2 : Int32) (v_3 : Int32) (s_0 : Int32) (σ : gs_St), ((s_0 = 0 → ∀ v3 : Int32, v3 = v_3 + 1 → X17 v_1 v_2 v3 σ) ∧ (¬ (s_0 = 0) → vp_in v_3 8 ∧ ((¬ ((σ.2.1 6 v_3.toNatClampNeg) &&& (v_1 ^^^ (-1 : Int32))) = 0 → ∀ v4 : Int32, v4 = v_3 + 1 → X17 v_1 v_2 v4 σ) ∧ (¬ (¬ ((σ.2.1 6 v_3.toNatClampNeg) &&& (v_1 ^^^ (-1 : Int32))) = 0) → ∀ v5 : Int32, v5 = v_1 ||| ((1 : Int32) <<< (v_3 &&& 31)) → vp_in (σ.1 3) 8 ∧ ∀ σ6 : gs_St, σ6 = gs_A σ 7 (upd (σ.2.1 7) (σ.1 3).toNatClampNeg v_3) → ∀ σ7 : gs_St, σ7 = gs_I σ6 3 ((σ6.1 3) + (1 : Int32)) → ∀ v8 : Int32, v8 = v_3 + 1 → X17 v5 v_2 v8 σ7)))) → X36 v_1 v_2 v_3 s_0 σ) →
  (∀ σ1 : gs_St, σ1 = gs_I σ 3 (0 : Int32) → X9 (0 : Int32) (0 : Int32) σ1)
def C_Le_isEmpty (a0 : Int32) (σ : gs_St) (K : Int32 → gs_St → Prop) : Prop :=
  (C_Gl_isNonterminal a0 σ (fun r2 σ1 => (r2 = 0 → K (0 : Int32) σ1) ∧ (¬ (r2 = 0) → vp_in a0 8 ∧ ((¬ (σ1.2.1 4 a0.toNatClampNeg) = 0 → K (0 : Int32) σ1) ∧ (¬ (¬ (σ1.2.1 4 a0.toNatClampNeg) = 0) → K (1 : Int32) σ1)))))
def C_Ld_isEmptyBut (a0 : Int32) (a1 : Int32) (σ : gs_St) (K : Int32 → gs_St → Prop) : Prop :=
  ∀ X2 : Int32 → Int32 → Int32 → gs_St → Prop,
  (∀ (v_1 : Int32) (v_2 : Int32) (v_3 : Int32) (σ : gs_St), (C_Gr_sizeOf v_1 σ (fun r2 σ1 => (r2 ≤ v_3 → K (1 : Int32) σ1) ∧ (¬ (r2 ≤ v_3) → (v_3 = v_2 → ∀ v3 : Int32, v3 = v_3 + 1 → X2 v_1 v_2 v3 σ1) ∧ (¬ (v_3 = v_2) → C_Gr_symbolAt v_1 v_3 σ1 (fun r5 σ4 => C_Le_isEmpty r5 σ4 (fun r7 σ6 => (¬ r7 = 0 → ∀ v8 : Int32, v8 = v_3 + 1 → X2 v_1 v_2 v8 σ6) ∧ (¬ (¬ r7 = 0) → K (0 : Int32) σ6))))))) → X2 v_1 v_2 v_3 σ) →
  (X2 a0 a1 (0 : Int32) σ)
def C_Ld_find (σ : gs_St) (K : gs_St → Prop) : Prop :=
  ∀ X10 : Int32 → gs_St → Prop,
  ∀ X23 : Int32 → Int32 → gs_St → Prop,
  (∀ (v_1 : Int32) (σ : gs_St), (((σ.1 2) ≤ v_1 → C_Ld_putInOrder σ (fun σ2 => K σ2)) ∧ (¬ ((σ.1 2) ≤ v_1) → X23 v_1 (0 : Int32) σ)) → X10 v_1 σ) →
  (∀ (v_1 : Int32) (v_2 : Int32) (σ : gs_St), (C_Gr_sizeOf v_1 σ (fun r4 σ3 => (r4 ≤ v_2 → ∀ v5 : Int32, v5 = v_1 + 1 → X10 v5 σ3) ∧ (¬ (r4 ≤ v_2) → C_Gr_symbolAt v_1 v_2 σ3 (fun r7 σ6 => C_Gl_isNonterminal r7 σ6 (fun r9 σ8 => (r9 = 0 → ∀ v10 : Int32, v10 = v_2 + 1 → X23 v_1 v10 σ8) ∧ (¬ (r9 = 0) → C_Ld_isEmptyBut v_1 v_2 σ8 (fun r12 σ11 => (r12 = 0 → ∀ v13 : Int32, v13 = v_2 + 1 → X23 v_1 v13 σ11) ∧ (¬ (r12 = 0) → C_Gr_leftOf v_1 σ11 (fun r15 σ14 => vp_in r15 8 ∧ (vp_in r15 8 ∧ ∀ σ16 : gs_St, σ16 = gs_A σ14 6 (upd (σ14.2.1 6) r15.toNatClampNeg ((σ14.2.1 6 r15.toNatClampNeg) ||| ((1 : Int32) <<< (r7 &&& 31)))) → ∀ v17 : Int32, v17 = v_2 + 1 → X23 v_1 v17 σ16)))))))))) → X23 v_1 v_2 σ) →
  (C_Ar_fill_10 (0 : Int32) σ (fun σ1 => X10 (0 : Int32) σ1))
def C_Co_forget (σ : gs_St) (K : gs_St → Prop) : Prop :=
  (∀ σ1 : gs_St, σ1 = gs_I σ 5 (0 : Int32) → K σ1)
def C_Co_forgetw (σ : gs_St) (K : gs_St → Prop) : Prop :=
  (∀ σ1 : gs_St, σ1 = gs_I σ 7 (0 : Int32) → K σ1)
def C_Gl_study (σ : gs_St) (K : gs_St → Prop) : Prop :=
  (((σ.1 1) = 0 → ∀ σ1 : gs_St, σ1 = gs_I σ 1 (1 : Int32) → C_Le_find σ1 (fun σ2 => C_Ld_find σ2 (fun σ3 => C_Co_forget σ3 (fun σ4 => C_Co_forgetw σ4 (fun σ5 => K σ5))))) ∧ (¬ ((σ.1 1) = 0) → K σ))
def C_Le_leastOf (a0 : Int32) (σ : gs_St) (K : Int32 → gs_St → Prop) : Prop :=
  (vp_in a0 8 ∧ (K (σ.2.1 4 a0.toNatClampNeg) σ))
def C_Gl_shortest (a0 : Int32) (σ : gs_St) (K : Int32 → gs_St → Prop) : Prop :=
  (C_Gl_isNonterminal a0 σ (fun r2 σ1 => (¬ r2 = 0 → C_Gl_study σ1 (fun σ3 => C_Le_leastOf a0 σ3 (fun r5 σ4 => K r5 σ4))) ∧ (¬ (¬ r2 = 0) → K (-1 : Int32) σ1)))
def C_Le_leastWith (a0 : Int32) (σ : gs_St) (K : Int32 → gs_St → Prop) : Prop :=
  (C_Le_leastBut a0 (-1 : Int32) σ (fun r2 σ1 => C_Gr_leftOf a0 σ1 (fun r4 σ3 => vp_in r4 8 ∧ (∀ v5 : Int32, v5 = σ3.2.1 5 r4.toNatClampNeg → (r2 = (-1 : Int32) → K (-1 : Int32) σ3) ∧ (¬ (r2 = (-1 : Int32)) → (¬ v5 = (-1 : Int32) → K (r2 + v5) σ3) ∧ (¬ (¬ v5 = (-1 : Int32)) → K (-1 : Int32) σ3))))))
def C_Gl_shortestWith (a0 : Int32) (σ : gs_St) (K : Int32 → gs_St → Prop) : Prop :=
  (C_Gr_has a0 σ (fun r2 σ1 => (¬ r2 = 0 → C_Gl_study σ1 (fun σ3 => C_Le_leastWith a0 σ3 (fun r5 σ4 => K r5 σ4))) ∧ (¬ (¬ r2 = 0) → K (-1 : Int32) σ1)))
def C_Ld_isCircle (σ : gs_St) (K : Int32 → gs_St → Prop) : Prop :=
  (((8 : Int32) ≤ (σ.1 3) → K (0 : Int32) σ) ∧ (¬ ((8 : Int32) ≤ (σ.1 3)) → K (1 : Int32) σ))
def C_Gl_circle (σ : gs_St) (K : Int32 → gs_St → Prop) : Prop :=
  (C_Gl_study σ (fun σ1 => C_Ld_isCircle σ1 (fun r3 σ2 => K r3 σ2)))
def C_Gl_isCounted (a0 : Int32) (σ : gs_St) (K : Int32 → gs_St → Prop) : Prop :=
  (C_Gl_study σ (fun σ1 => (a0 < 0 → K (0 : Int32) σ1) ∧ (¬ (a0 < 0) → ((16 : Int32) < a0 → K (0 : Int32) σ1) ∧ (¬ ((16 : Int32) < a0) → C_Ld_isCircle σ1 (fun r3 σ2 => (¬ r3 = 0 → K (0 : Int32) σ2) ∧ (¬ (¬ r3 = 0) → K (1 : Int32) σ2))))))
def C_Ld_inOrder (a0 : Int32) (σ : gs_St) (K : Int32 → gs_St → Prop) : Prop :=
  (vp_in a0 8 ∧ (K (σ.2.1 7 a0.toNatClampNeg) σ))
def C_Co_endingsAt (a0 : Int32) (a1 : Int32) (σ : gs_St) (K : Int32 → gs_St → Prop) : Prop :=
  (K (((a0 * (7 : Int32)) + a1) * (17 : Int32)) σ)
def C_Co_times (a0 : Int64) (a1 : Int64) (σ : gs_St) (K : Int64 → gs_St → Prop) : Prop :=
  ((¬ a1 = (0 : Int64) → ¬ a1 = 0 ∧ ((a0 ≤ ((1000000000000000000 : Int64) / a1) → K (a0 * a1) σ) ∧ (¬ (a0 ≤ ((1000000000000000000 : Int64) / a1)) → K (1000000000000000001 : Int64) σ))) ∧ (¬ (¬ a1 = (0 : Int64)) → K (0 : Int64) σ))
def C_Co_plus (a0 : Int64) (a1 : Int64) (σ : gs_St) (K : Int64 → gs_St → Prop) : Prop :=
  (K (if (1000000000000000001 : Int64) < (a0 + a1) then (1000000000000000001 : Int64) else (a0 + a1)) σ)
def C_Co_pairs (a0 : Int32) (a1 : Int32) (a2 : Int32) (σ : gs_St) (K : Int64 → gs_St → Prop) : Prop :=
  ∀ X6 : Int32 → Int32 → Int32 → Int64 → Int32 → gs_St → Prop,
  (∀ (v_1 : Int32) (v_2 : Int32) (v_3 : Int32) (v_4 : Int64) (v_6 : Int32) (σ : gs_St), ((v_3 < v_6 → K v_4 σ) ∧ (¬ (v_3 < v_6) → vp_in (v_1 + v_6) 136 ∧ (∀ v1 : Int64, v1 = σ.2.2 0 (v_1 + v_6).toNatClampNeg → (v1 = (0 : Int64) → ∀ v2 : Int32, v2 = v_6 + 1 → X6 v_1 v_2 v_3 v_4 v2 σ) ∧ (¬ (v1 = (0 : Int64)) → vp_in (v_2 - v_6) 2856 ∧ (C_Co_times v1 (σ.2.2 1 (v_2 - v_6).toNatClampNeg) σ (fun r4 σ3 => C_Co_plus v_4 r4 σ3 (fun r6 σ5 => ∀ v7 : Int32, v7 = v_6 + 1 → X6 v_1 v_2 v_3 r6 v7 σ5))))))) → X6 v_1 v_2 v_3 v_4 v_6 σ) →
  (X6 a0 a1 a2 (0 : Int64) (0 : Int32) σ)
def C_Co_fillEndings (a0 : Int32) (a1 : Int32) (σ : gs_St) (K : gs_St → Prop) : Prop :=
  ∀ X35 : Int32 → Int32 → Int32 → gs_St → Prop,
  (∀ (v_1 : Int32) (v_2 : Int32) (v_4 : Int32) (σ : gs_St), ((v_4 < 0 → K σ) ∧ (¬ (v_4 < 0) → C_Gr_symbolAt v_1 v_4 σ (fun r10 σ9 => C_Co_endingsAt v_1 (v_4 + (1 : Int32)) σ9 (fun r12 σ11 => ∀ v13 : Int32, v13 = r12 + v_2 → C_Gl_isNonterminal r10 σ11 (fun r15 σ14 => (r15 = 0 → (v_2 ≤ 0 → C_Co_endingsAt v_1 v_4 σ14 (fun r17 σ16 => vp_in (r17 + v_2) 2856 ∧ ∀ σ18 : gs_St, σ18 = gs_L σ16 1 (vp_updL (σ16.2.2 1) (r17 + v_2).toNatClampNeg (0 : Int64)) → ∀ v19 : Int32, v19 = v_4 + (-1) → X35 v_1 v_2 v19 σ18)) ∧ (¬ (v_2 ≤ 0) → vp_in (v13 - (1 : Int32)) 2856 ∧ (∀ v20 : Int64, v20 = σ14.2.2 1 (v13 - (1 : Int32)).toNatClampNeg → C_Co_endingsAt v_1 v_4 σ14 (fun r22 σ21 => vp_in (r22 + v_2) 2856 ∧ ∀ σ23 : gs_St, σ23 = gs_L σ21 1 (vp_updL (σ21.2.2 1) (r22 + v_2).toNatClampNeg v20) → ∀ v24 : Int32, v24 = v_4 + (-1) → X35 v_1 v_2 v24 σ23)))) ∧ (¬ (r15 = 0) → C_Co_pairs (r10 * (17 : Int32)) v13 v_2 σ14 (fun r26 σ25 => C_Co_endingsAt v_1 v_4 σ25 (fun r28 σ27 => vp_in (r28 + v_2) 2856 ∧ ∀ σ29 : gs_St, σ29 = gs_L σ27 1 (vp_updL (σ27.2.2 1) (r28 + v_2).toNatClampNeg r26) → ∀ v30 : Int32, v30 = v_4 + (-1) → X35 v_1 v_2 v30 σ29)))))))) → X35 v_1 v_2 v_4 σ) →
  (C_Gr_sizeOf a0 σ (fun r2 σ1 => C_Co_endingsAt a0 r2 σ1 (fun r4 σ3 => (¬ a1 = 0 → vp_in (r4 + a1) 2856 ∧ ∀ σ5 : gs_St, σ5 = gs_L σ3 1 (vp_updL (σ3.2.2 1) (r4 + a1).toNatClampNeg (0 : Int64)) → ∀ v6 : Int32, v6 = r2 - (1 : Int32) → X35 a0 a1 v6 σ5) ∧ (¬ (¬ a1 = 0) → vp_in (r4 + a1) 2856 ∧ ∀ σ7 : gs_St, σ7 = gs_L σ3 1 (vp_updL (σ3.2.2 1) (r4 + a1).toNatClampNeg (1 : Int64)) → ∀ v8 : Int32, v8 = r2 - (1 : Int32) → X35 a0 a1 v8 σ7))))
def C_Co_endingsOf (a0 : Int32) (a1 : Int32) (a2 : Int32) (σ : gs_St) (K : Int64 → gs_St → Prop) : Prop :=
  (C_Co_endingsAt a0 a1 σ (fun r2 σ1 => vp_in (r2 + a2) 2856 ∧ (K (σ1.2.2 1 (r2 + a2).toNatClampNeg) σ1)))
def C_Co_addTrees (a0 : Int32) (a1 : Int32) (a2 : Int64) (σ : gs_St) (K : gs_St → Prop) : Prop :=
  (∀ v1 : Int32, v1 = (a0 * (17 : Int32)) + a1 → vp_in v1 136 ∧ (C_Co_plus (σ.2.2 0 v1.toNatClampNeg) a2 σ (fun r3 σ2 => vp_in v1 136 ∧ ∀ σ4 : gs_St, σ4 = gs_L σ2 0 (vp_updL (σ2.2.2 0) v1.toNatClampNeg r3) → K σ4)))
def C_Co_countLength (a0 : Int32) (σ : gs_St) (K : gs_St → Prop) : Prop :=
  ∀ X2 : Int32 → Int32 → gs_St → Prop,
  ∀ X28 : Int32 → Int32 → gs_St → Prop,
  ∀ X46 : Int32 → Int32 → Int32 → Int32 → gs_St → Prop,
  ∀ X115 : Int32 → Int32 → gs_St → Prop,
  (∀ (v_1 : Int32) (v_2 : Int32) (σ : gs_St), (((8 : Int32) ≤ v_2 → X28 v_1 (0 : Int32) σ) ∧ (¬ ((8 : Int32) ≤ v_2) → vp_in ((v_2 * (17 : Int32)) + v_1) 136 ∧ ∀ σ1 : gs_St, σ1 = gs_L σ 0 (vp_updL (σ.2.2 0) ((v_2 * (17 : Int32)) + v_1).toNatClampNeg (0 : Int64)) → ∀ v2 : Int32, v2 = v_2 + 1 → X2 v_1 v2 σ1)) → X2 v_1 v_2 σ) →
  (∀ (v_1 : Int32) (v_2 : Int32) (σ : gs_St), (((8 : Int32) ≤ v_2 → X115 v_1 (0 : Int32) σ) ∧ (¬ ((8 : Int32) ≤ v_2) → C_Ld_inOrder v_2 σ (fun r4 σ3 => X46 v_1 v_2 r4 (0 : Int32) σ3))) → X28 v_1 v_2 σ) →
  (∀ (v_1 : Int32) (v_2 : Int32) (v_3 : Int32) (v_4 : Int32) (σ : gs_St), (((σ.1 2) ≤ v_4 → ∀ v5 : Int32, v5 = v_2 + 1 → X28 v_1 v5 σ) ∧ (¬ ((σ.1 2) ≤ v_4) → (v_4 = (σ.1 4) → ∀ v6 : Int32, v6 = v_4 + 1 → X46 v_1 v_2 v_3 v6 σ) ∧ (¬ (v_4 = (σ.1 4)) → C_Gr_leftOf v_4 σ (fun r8 σ7 => (¬ r8 = v_3 → ∀ v9 : Int32, v9 = v_4 + 1 → X46 v_1 v_2 v_3 v9 σ7) ∧ (¬ (¬ r8 = v_3) → C_Co_fillEndings v_4 v_1 σ7 (fun σ10 => C_Co_endingsOf v_4 (0 : Int32) v_1 σ10 (fun r12 σ11 => C_Co_addTrees v_3 v_1 r12 σ11 (fun σ13 => ∀ v14 : Int32, v14 = v_4 + 1 → X46 v_1 v_2 v_3 v14 σ13)))))))) → X46 v_1 v_2 v_3 v_4 σ) →
  (∀ (v_1 : Int32) (v_2 : Int32) (σ : gs_St), (((σ.1 2) ≤ v_2 → K σ) ∧ (¬ ((σ.1 2) ≤ v_2) → (v_2 = (σ.1 4) → ∀ v15 : Int32, v15 = v_2 + 1 → X115 v_1 v15 σ) ∧ (¬ (v_2 = (σ.1 4)) → C_Co_fillEndings v_2 v_1 σ (fun σ16 => ∀ v17 : Int32, v17 = v_2 + 1 → X115 v_1 v17 σ16)))) → X115 v_1 v_2 σ) →
  (X2 a0 (0 : Int32) σ)
def C_Co_treesOf (a0 : Int32) (a1 : Int32) (σ : gs_St) (K : Int64 → gs_St → Prop) : Prop :=
  ∀ X5 : Int32 → Int32 → Int32 → gs_St → Prop,
  (∀ (v_1 : Int32) (v_2 : Int32) (v_3 : Int32) (σ : gs_St), ((v_2 < v_3 → vp_in ((v_1 * (17 : Int32)) + v_2) 136 ∧ (K (σ.2.2 0 ((v_1 * (17 : Int32)) + v_2).toNatClampNeg) σ)) ∧ (¬ (v_2 < v_3) → C_Co_countLength v_3 σ (fun σ2 => ∀ σ3 : gs_St, σ3 = gs_I σ2 5 (v_3 + (1 : Int32)) → ∀ v4 : Int32, v4 = v_3 + 1 → X5 v_1 v_2 v4 σ3))) → X5 v_1 v_2 v_3 σ) →
  (∀ v1 : Int32, v1 = σ.1 5 → X5 a0 a1 v1 σ)
def C_Gl_trees (a0 : Int32) (a1 : Int32) (σ : gs_St) (K : Int64 → gs_St → Prop) : Prop :=
  (C_Gl_isNonterminal a0 σ (fun r2 σ1 => (r2 = 0 → K (-1 : Int64) σ1) ∧ (¬ (r2 = 0) → C_Gl_isCounted a1 σ1 (fun r4 σ3 => (¬ r4 = 0 → C_Co_treesOf a0 a1 σ3 (fun r6 σ5 => (r6 ≤ (1000000000000000000 : Int64) → K r6 σ5) ∧ (¬ (r6 ≤ (1000000000000000000 : Int64)) → K (-2 : Int64) σ5))) ∧ (¬ (¬ r4 = 0) → K (-1 : Int64) σ3)))))
def C_Co_leaveOutw (a0 : Int32) (σ : gs_St) (K : gs_St → Prop) : Prop :=
  (((σ.1 6) = a0 → K σ) ∧ (¬ ((σ.1 6) = a0) → ∀ σ1 : gs_St, σ1 = gs_I σ 6 a0 → C_Co_forgetw σ1 (fun σ2 => K σ2)))
def C_Co_pairsw (a0 : Int32) (a1 : Int32) (a2 : Int32) (σ : gs_St) (K : Int64 → gs_St → Prop) : Prop :=
  ∀ X6 : Int32 → Int32 → Int32 → Int64 → Int32 → gs_St → Prop,
  (∀ (v_1 : Int32) (v_2 : Int32) (v_3 : Int32) (v_4 : Int64) (v_6 : Int32) (σ : gs_St), ((v_3 < v_6 → K v_4 σ) ∧ (¬ (v_3 < v_6) → vp_in (v_1 + v_6) 136 ∧ (∀ v1 : Int64, v1 = σ.2.2 2 (v_1 + v_6).toNatClampNeg → (v1 = (0 : Int64) → ∀ v2 : Int32, v2 = v_6 + 1 → X6 v_1 v_2 v_3 v_4 v2 σ) ∧ (¬ (v1 = (0 : Int64)) → vp_in (v_2 - v_6) 2856 ∧ (C_Co_times v1 (σ.2.2 3 (v_2 - v_6).toNatClampNeg) σ (fun r4 σ3 => C_Co_plus v_4 r4 σ3 (fun r6 σ5 => ∀ v7 : Int32, v7 = v_6 + 1 → X6 v_1 v_2 v_3 r6 v7 σ5))))))) → X6 v_1 v_2 v_3 v_4 v_6 σ) →
  (X6 a0 a1 a2 (0 : Int64) (0 : Int32) σ)
def C_Co_fillEndingsw (a0 : Int32) (a1 : Int32) (σ : gs_St) (K : gs_St → Prop) : Prop :=
  ∀ X35 : Int32 → Int32 → Int32 → gs_St → Prop,
  (∀ (v_1 : Int32) (v_2 : Int32) (v_4 : Int32) (σ : gs_St), ((v_4 < 0 → K σ) ∧ (¬ (v_4 < 0) → C_Gr_symbolAt v_1 v_4 σ (fun r10 σ9 => C_Co_endingsAt v_1 (v_4 + (1 : Int32)) σ9 (fun r12 σ11 => ∀ v13 : Int32, v13 = r12 + v_2 → C_Gl_isNonterminal r10 σ11 (fun r15 σ14 => (r15 = 0 → (v_2 ≤ 0 → C_Co_endingsAt v_1 v_4 σ14 (fun r17 σ16 => vp_in (r17 + v_2) 2856 ∧ ∀ σ18 : gs_St, σ18 = gs_L σ16 3 (vp_updL (σ16.2.2 3) (r17 + v_2).toNatClampNeg (0 : Int64)) → ∀ v19 : Int32, v19 = v_4 + (-1) → X35 v_1 v_2 v19 σ18)) ∧ (¬ (v_2 ≤ 0) → vp_in (v13 - (1 : Int32)) 2856 ∧ (∀ v20 : Int64, v20 = σ14.2.2 3 (v13 - (1 : Int32)).toNatClampNeg → C_Co_endingsAt v_1 v_4 σ14 (fun r22 σ21 => vp_in (r22 + v_2) 2856 ∧ ∀ σ23 : gs_St, σ23 = gs_L σ21 3 (vp_updL (σ21.2.2 3) (r22 + v_2).toNatClampNeg v20) → ∀ v24 : Int32, v24 = v_4 + (-1) → X35 v_1 v_2 v24 σ23)))) ∧ (¬ (r15 = 0) → C_Co_pairsw (r10 * (17 : Int32)) v13 v_2 σ14 (fun r26 σ25 => C_Co_endingsAt v_1 v_4 σ25 (fun r28 σ27 => vp_in (r28 + v_2) 2856 ∧ ∀ σ29 : gs_St, σ29 = gs_L σ27 3 (vp_updL (σ27.2.2 3) (r28 + v_2).toNatClampNeg r26) → ∀ v30 : Int32, v30 = v_4 + (-1) → X35 v_1 v_2 v30 σ29)))))))) → X35 v_1 v_2 v_4 σ) →
  (C_Gr_sizeOf a0 σ (fun r2 σ1 => C_Co_endingsAt a0 r2 σ1 (fun r4 σ3 => (¬ a1 = 0 → vp_in (r4 + a1) 2856 ∧ ∀ σ5 : gs_St, σ5 = gs_L σ3 3 (vp_updL (σ3.2.2 3) (r4 + a1).toNatClampNeg (0 : Int64)) → ∀ v6 : Int32, v6 = r2 - (1 : Int32) → X35 a0 a1 v6 σ5) ∧ (¬ (¬ a1 = 0) → vp_in (r4 + a1) 2856 ∧ ∀ σ7 : gs_St, σ7 = gs_L σ3 3 (vp_updL (σ3.2.2 3) (r4 + a1).toNatClampNeg (1 : Int64)) → ∀ v8 : Int32, v8 = r2 - (1 : Int32) → X35 a0 a1 v8 σ7))))
def C_Co_endingsOfw (a0 : Int32) (a1 : Int32) (a2 : Int32) (σ : gs_St) (K : Int64 → gs_St → Prop) : Prop :=
  (C_Co_endingsAt a0 a1 σ (fun r2 σ1 => vp_in (r2 + a2) 2856 ∧ (K (σ1.2.2 3 (r2 + a2).toNatClampNeg) σ1)))
def C_Co_addTreesw (a0 : Int32) (a1 : Int32) (a2 : Int64) (σ : gs_St) (K : gs_St → Prop) : Prop :=
  (∀ v1 : Int32, v1 = (a0 * (17 : Int32)) + a1 → vp_in v1 136 ∧ (C_Co_plus (σ.2.2 2 v1.toNatClampNeg) a2 σ (fun r3 σ2 => vp_in v1 136 ∧ ∀ σ4 : gs_St, σ4 = gs_L σ2 2 (vp_updL (σ2.2.2 2) v1.toNatClampNeg r3) → K σ4)))
def C_Co_countLengthw (a0 : Int32) (σ : gs_St) (K : gs_St → Prop) : Prop :=
  ∀ X2 : Int32 → Int32 → gs_St → Prop,
  ∀ X28 : Int32 → Int32 → gs_St → Prop,
  ∀ X46 : Int32 → Int32 → Int32 → Int32 → gs_St → Prop,
  ∀ X115 : Int32 → Int32 → gs_St → Prop,
  (∀ (v_1 : Int32) (v_2 : Int32) (σ : gs_St), (((8 : Int32) ≤ v_2 → X28 v_1 (0 : Int32) σ) ∧ (¬ ((8 : Int32) ≤ v_2) → vp_in ((v_2 * (17 : Int32)) + v_1) 136 ∧ ∀ σ1 : gs_St, σ1 = gs_L σ 2 (vp_updL (σ.2.2 2) ((v_2 * (17 : Int32)) + v_1).toNatClampNeg (0 : Int64)) → ∀ v2 : Int32, v2 = v_2 + 1 → X2 v_1 v2 σ1)) → X2 v_1 v_2 σ) →
  (∀ (v_1 : Int32) (v_2 : Int32) (σ : gs_St), (((8 : Int32) ≤ v_2 → X115 v_1 (0 : Int32) σ) ∧ (¬ ((8 : Int32) ≤ v_2) → C_Ld_inOrder v_2 σ (fun r4 σ3 => X46 v_1 v_2 r4 (0 : Int32) σ3))) → X28 v_1 v_2 σ) →
  (∀ (v_1 : Int32) (v_2 : Int32) (v_3 : Int32) (v_4 : Int32) (σ : gs_St), (((σ.1 2) ≤ v_4 → ∀ v5 : Int32, v5 = v_2 + 1 → X28 v_1 v5 σ) ∧ (¬ ((σ.1 2) ≤ v_4) → (v_4 = (σ.1 6) → ∀ v6 : Int32, v6 = v_4 + 1 → X46 v_1 v_2 v_3 v6 σ) ∧ (¬ (v_4 = (σ.1 6)) → C_Gr_leftOf v_4 σ (fun r8 σ7 => (¬ r8 = v_3 → ∀ v9 : Int32, v9 = v_4 + 1 → X46 v_1 v_2 v_3 v9 σ7) ∧ (¬ (¬ r8 = v_3) → C_Co_fillEndingsw v_4 v_1 σ7 (fun σ10 => C_Co_endingsOfw v_4 (0 : Int32) v_1 σ10 (fun r12 σ11 => C_Co_addTreesw v_3 v_1 r12 σ11 (fun σ13 => ∀ v14 : Int32, v14 = v_4 + 1 → X46 v_1 v_2 v_3 v14 σ13)))))))) → X46 v_1 v_2 v_3 v_4 σ) →
  (∀ (v_1 : Int32) (v_2 : Int32) (σ : gs_St), (((σ.1 2) ≤ v_2 → K σ) ∧ (¬ ((σ.1 2) ≤ v_2) → (v_2 = (σ.1 6) → ∀ v15 : Int32, v15 = v_2 + 1 → X115 v_1 v15 σ) ∧ (¬ (v_2 = (σ.1 6)) → C_Co_fillEndingsw v_2 v_1 σ (fun σ16 => ∀ v17 : Int32, v17 = v_2 + 1 → X115 v_1 v17 σ16)))) → X115 v_1 v_2 σ) →
  (X2 a0 (0 : Int32) σ)
def C_Co_treesOfw (a0 : Int32) (a1 : Int32) (σ : gs_St) (K : Int64 → gs_St → Prop) : Prop :=
  ∀ X5 : Int32 → Int32 → Int32 → gs_St → Prop,
  (∀ (v_1 : Int32) (v_2 : Int32) (v_3 : Int32) (σ : gs_St), ((v_2 < v_3 → vp_in ((v_1 * (17 : Int32)) + v_2) 136 ∧ (K (σ.2.2 2 ((v_1 * (17 : Int32)) + v_2).toNatClampNeg) σ)) ∧ (¬ (v_2 < v_3) → C_Co_countLengthw v_3 σ (fun σ2 => ∀ σ3 : gs_St, σ3 = gs_I σ2 7 (v_3 + (1 : Int32)) → ∀ v4 : Int32, v4 = v_3 + 1 → X5 v_1 v_2 v4 σ3))) → X5 v_1 v_2 v_3 σ) →
  (∀ v1 : Int32, v1 = σ.1 7 → X5 a0 a1 v1 σ)
def C_Gl_treesWith (a0 : Int32) (a1 : Int32) (σ : gs_St) (K : Int64 → gs_St → Prop) : Prop :=
  (C_Gr_has a0 σ (fun r2 σ1 => (r2 = 0 → K (-1 : Int64) σ1) ∧ (¬ (r2 = 0) → C_Gl_isCounted a1 σ1 (fun r4 σ3 => (¬ r4 = 0 → C_Co_treesOf (0 : Int32) a1 σ3 (fun r6 σ5 => (r6 ≤ (1000000000000000000 : Int64) → C_Co_leaveOutw a0 σ5 (fun σ7 => C_Co_treesOfw (0 : Int32) a1 σ7 (fun r9 σ8 => K (r6 - r9) σ8))) ∧ (¬ (r6 ≤ (1000000000000000000 : Int64)) → K (-2 : Int64) σ5))) ∧ (¬ (¬ r4 = 0) → K (-1 : Int64) σ3)))))
def C_Dr_clear (σ : gs_St) (K : gs_St → Prop) : Prop :=
  (∀ σ1 : gs_St, σ1 = gs_I σ 12 (0 : Int32) → ∀ σ2 : gs_St, σ2 = gs_I σ1 13 (0 : Int32) → K σ2)
def C_Pi_put (a0 : Int32) (a1 : Int32) (a2 : Int32) (a3 : Int64) (σ : gs_St) (K : gs_St → Prop) : Prop :=
  ((a0 < 0 → K σ) ∧ (¬ (a0 < 0) → ((216 : Int32) ≤ a0 → K σ) ∧ (¬ ((216 : Int32) ≤ a0) → vp_in a0 216 ∧ ∀ σ1 : gs_St, σ1 = gs_A σ 8 (upd (σ.2.1 8) a0.toNatClampNeg a1) → vp_in a0 216 ∧ ∀ σ2 : gs_St, σ2 = gs_A σ1 9 (upd (σ1.2.1 9) a0.toNatClampNeg a2) → vp_in a0 216 ∧ ∀ σ3 : gs_St, σ3 = gs_L σ2 4 (vp_updL (σ2.2.2 4) a0.toNatClampNeg a3) → K σ3)))
def C_Gr_nonterminalsIn (a0 : Int32) (σ : gs_St) (K : Int32 → gs_St → Prop) : Prop :=
  ∀ X4 : Int32 → Int32 → Int32 → gs_St → Prop,
  (∀ (v_1 : Int32) (v_2 : Int32) (v_3 : Int32) (σ : gs_St), (vp_in v_1 24 ∧ (((σ.2.1 2 v_1.toNatClampNeg) ≤ v_3 → K v_2 σ) ∧ (¬ ((σ.2.1 2 v_1.toNatClampNeg) ≤ v_3) → C_Gr_symbolAt v_1 v_3 σ (fun r2 σ1 => C_Gl_isNonterminal r2 σ1 (fun r4 σ3 => (r4 = 0 → ∀ v5 : Int32, v5 = v_3 + 1 → X4 v_1 v_2 v5 σ3) ∧ (¬ (r4 = 0) → ∀ v6 : Int32, v6 = v_2 + 1 → ∀ v7 : Int32, v7 = v_3 + 1 → X4 v_1 v6 v7 σ3)))))) → X4 v_1 v_2 v_3 σ) →
  (X4 a0 (0 : Int32) (0 : Int32) σ)
def C_Dr_addRule (a0 : Int32) (σ : gs_St) (K : gs_St → Prop) : Prop :=
  (((200 : Int32) ≤ (σ.1 12) → K σ) ∧ (¬ ((200 : Int32) ≤ (σ.1 12)) → vp_in (σ.1 12) 200 ∧ ∀ σ1 : gs_St, σ1 = gs_A σ 12 (upd (σ.2.1 12) (σ.1 12).toNatClampNeg a0) → ∀ σ2 : gs_St, σ2 = gs_I σ1 12 ((σ1.1 12) + (1 : Int32)) → K σ2))
def C_Co_endingsWith (a0 : Int32) (a1 : Int32) (a2 : Int32) (a3 : Int32) (σ : gs_St) (K : Int64 → gs_St → Prop) : Prop :=
  ∀ X21 : Int32 → Int32 → Int32 → Int32 → Int32 → Int64 → gs_St → Prop,
  (∀ (v_1 : Int32) (v_2 : Int32) (v_3 : Int32) (v_4 : Int32) (v_5 : Int32) (s_0 : Int64) (σ : gs_St), (C_Gl_isNonterminal v_5 σ (fun r4 σ3 => (r4 = 0 → C_Co_endingsAt v_1 (v_2 + (1 : Int32)) σ3 (fun r6 σ5 => vp_in ((r6 + v_4) - v_3) 2856 ∧ (C_Co_times s_0 (σ5.2.2 1 ((r6 + v_4) - v_3).toNatClampNeg) σ5 (fun r8 σ7 => K r8 σ7)))) ∧ (¬ (r4 = 0) → vp_in ((v_5 * (17 : Int32)) + v_3) 136 ∧ (∀ v9 : Int64, v9 = σ3.2.2 0 ((v_5 * (17 : Int32)) + v_3).toNatClampNeg → C_Co_endingsAt v_1 (v_2 + (1 : Int32)) σ3 (fun r11 σ10 => vp_in ((r11 + v_4) - v_3) 2856 ∧ (C_Co_times v9 (σ10.2.2 1 ((r11 + v_4) - v_3).toNatClampNeg) σ10 (fun r13 σ12 => K r13 σ12))))))) → X21 v_1 v_2 v_3 v_4 v_5 s_0 σ) →
  (C_Gr_symbolAt a0 a1 σ (fun r2 σ1 => (¬ a2 = (1 : Int32) → X21 a0 a1 a2 a3 r2 (0 : Int64) σ1) ∧ (¬ (¬ a2 = (1 : Int32)) → X21 a0 a1 a2 a3 r2 (1 : Int64) σ1)))
def C_We_unfoldRule (a0 : Int32) (a1 : Int32) (a2 : Int64) (σ : gs_St) (K : Int32 → gs_St → Prop) : Prop :=
  ∀ X68 : Int32 → Int32 → Int32 → Int64 → Int32 → gs_St → Prop,
  ∀ X94 : Int32 → Int32 → Int32 → Int64 → Int32 → Int32 → Int64 → gs_St → Prop,
  ∀ X138 : Int32 → Int32 → Int32 → Int64 → Int32 → Int32 → gs_St → Prop,
  (∀ (v_1 : Int32) (v_5 : Int32) (v_6 : Int32) (v_7 : Int64) (v_9 : Int32) (σ : gs_St), ((v_5 ≤ v_9 → ∀ σ7 : gs_St, σ7 = gs_I σ 8 ((σ.1 8) + v_5) → K (1 : Int32) σ7) ∧ (¬ (v_5 ≤ v_9) → C_Co_endingsWith v_1 v_9 (0 : Int32) v_6 σ (fun r9 σ8 => X94 v_1 v_5 v_6 v_7 v_9 (0 : Int32) r9 σ8))) → X68 v_1 v_5 v_6 v_7 v_9 σ) →
  (∀ (v_1 : Int32) (v_5 : Int32) (v_6 : Int32) (v_7 : Int64) (v_9 : Int32) (v_10 : Int32) (v_11 : Int64) (σ : gs_St), ((v_6 ≤ v_10 → X138 v_1 v_5 v_6 v_7 v_9 v_10 σ) ∧ (¬ (v_6 ≤ v_10) → (v_7 < v_11 → X138 v_1 v_5 v_6 v_7 v_9 v_10 σ) ∧ (¬ (v_7 < v_11) → ∀ v10 : Int64, v10 = v_7 - v_11 → ∀ v11 : Int32, v11 = v_10 + 1 → C_Co_endingsWith v_1 v_9 v11 v_6 σ (fun r13 σ12 => X94 v_1 v_5 v_6 v10 v_9 v11 r13 σ12)))) → X94 v_1 v_5 v_6 v_7 v_9 v_10 v_11 σ) →
  (∀ (v_1 : Int32) (v_5 : Int32) (v_6 : Int32) (v_7 : Int64) (v_9 : Int32) (v_10 : Int32) (σ : gs_St), (∀ v14 : Int32, v14 = v_6 - v_10 → C_Co_endingsOf v_1 (v_9 + (1 : Int32)) v14 σ (fun r16 σ15 => ∀ v17 : Int64, v17 = (if r16 < (1 : Int64) then (1 : Int64) else r16) → C_Gr_symbolAt v_1 v_9 σ15 (fun r19 σ18 => ¬ v17 = 0 ∧ (C_Pi_put ((((σ15.1 8) + v_5) - (1 : Int32)) - v_9) r19 v_10 (v_7 / v17) σ18 (fun σ20 => ¬ v17 = 0 ∧ (∀ v21 : Int64, v21 = v_7 - v_7 / v17 * v17 → ∀ v22 : Int32, v22 = v_9 + 1 → X68 v_1 v_5 v14 v21 v22 σ20)))))) → X138 v_1 v_5 v_6 v_7 v_9 v_10 σ) →
  (C_Gr_nonterminalsIn a0 σ (fun r2 σ1 => ∀ σ3 : gs_St, σ3 = gs_I σ1 9 ((σ.1 9) + (r2 - (1 : Int32))) → ((((σ3.1 12) + (1 : Int32)) + (σ3.1 9)) ≤ (200 : Int32) → C_Dr_addRule a0 σ3 (fun σ4 => C_Gr_sizeOf a0 σ4 (fun r6 σ5 => X68 a0 r6 a1 a2 (0 : Int32) σ5))) ∧ (¬ ((((σ3.1 12) + (1 : Int32)) + (σ3.1 9)) ≤ (200 : Int32)) → K (0 : Int32) σ3)))
def C_We_unfold (a0 : Int32) (a1 : Int32) (a2 : Int64) (σ : gs_St) (K : Int32 → gs_St → Prop) : Prop :=
  ∀ X6 : Int32 → Int32 → Int64 → Int32 → gs_St → Prop,
  (∀ (v_1 : Int32) (v_2 : Int32) (v_5 : Int64) (v_7 : Int32) (σ : gs_St), (((σ.1 2) ≤ v_7 → K (0 : Int32) σ) ∧ (¬ ((σ.1 2) ≤ v_7) → C_Gr_leftOf v_7 σ (fun r2 σ1 => (¬ r2 = v_1 → ∀ v3 : Int32, v3 = v_7 + 1 → X6 v_1 v_2 v_5 v3 σ1) ∧ (¬ (¬ r2 = v_1) → C_Co_endingsOf v_7 (0 : Int32) v_2 σ1 (fun r5 σ4 => (r5 ≤ v_5 → ∀ v6 : Int64, v6 = v_5 - r5 → ∀ v7 : Int32, v7 = v_7 + 1 → X6 v_1 v_2 v6 v7 σ4) ∧ (¬ (r5 ≤ v_5) → C_We_unfoldRule v_7 v_2 v_5 σ4 (fun r9 σ8 => K r9 σ8))))))) → X6 v_1 v_2 v_5 v_7 σ) →
  (X6 a0 a1 a2 (0 : Int32) σ)
def C_Dr_addLeaf (a0 : Int32) (σ : gs_St) (K : gs_St → Prop) : Prop :=
  (((16 : Int32) ≤ (σ.1 13) → K σ) ∧ (¬ ((16 : Int32) ≤ (σ.1 13)) → vp_in (σ.1 13) 16 ∧ ∀ σ1 : gs_St, σ1 = gs_A σ 13 (upd (σ.2.1 13) (σ.1 13).toNatClampNeg a0) → ∀ σ2 : gs_St, σ2 = gs_I σ1 13 ((σ1.1 13) + (1 : Int32)) → K σ2))
def C_We_weave (a0 : Int32) (a1 : Int32) (a2 : Int64) (σ : gs_St) (K : Int32 → (gs_St × Bool) → Prop) : Prop :=
  ∀ X34 : Int32 → gs_St → Prop,
  (∀ (v_5 : Int32) (σ : gs_St), (((216 : Int32) ≤ v_5 → K ((gs_sS σ).1 10) (gs_sS σ, true)) ∧ (¬ ((216 : Int32) ≤ v_5) → ((σ.1 8) ≤ 0 → K ((gs_sS σ).1 10) (gs_sS σ, true)) ∧ (¬ ((σ.1 8) ≤ 0) → ∀ σ5 : gs_St, σ5 = gs_I σ 8 ((σ.1 8) - (1 : Int32)) → vp_in (σ5.1 8) 216 ∧ (∀ v6 : Int32, v6 = σ5.2.1 8 (σ5.1 8).toNatClampNeg → C_Gl_isNonterminal v6 σ5 (fun r8 σ7 => (¬ r8 = 0 → vp_in (σ7.1 8) 216 ∧ (vp_in (σ7.1 8) 216 ∧ (C_We_unfold v6 (σ7.2.1 9 (σ7.1 8).toNatClampNeg) (σ7.2.2 4 (σ7.1 8).toNatClampNeg) σ7 (fun r10 σ9 => (¬ r10 = 0 → ∀ v11 : Int32, v11 = v_5 + 1 → X34 v11 σ9) ∧ (¬ (¬ r10 = 0) → K (-2 : Int32) (σ9, false)))))) ∧ (¬ (¬ r8 = 0) → C_Dr_addLeaf v6 σ7 (fun σ12 => ∀ v13 : Int32, v13 = v_5 + 1 → X34 v13 σ12))))))) → X34 v_5 σ) →
  (C_Dr_clear σ (fun σ1 => C_Pi_put (0 : Int32) a0 a1 a2 σ1 (fun σ2 => ∀ σ3 : gs_St, σ3 = gs_I σ2 8 (1 : Int32) → ∀ σ4 : gs_St, σ4 = gs_I σ3 9 (1 : Int32) → X34 (0 : Int32) σ4)))
def C_Gl_draw (a0 : Int32) (a1 : Int32) (a2 : Int64) (σ : gs_St) (K : Int32 → (gs_St × Bool) → Prop) : Prop :=
  ((a2 < (0 : Int64) → K (-1 : Int32) (σ, false)) ∧ (¬ (a2 < (0 : Int64)) → C_Gl_trees a0 a1 σ (fun r2 σ1 => (a2 < r2 → C_We_weave a0 a1 a2 σ1 (fun r4 σ3 => K r4 σ3)) ∧ (¬ (a2 < r2) → K (-1 : Int32) (σ1, false)))))
def C_We_ruleAt (a0 : Int32) (σ : gs_St) (K : Int32 → gs_St → Prop) : Prop :=
  ((a0 < 0 → K (-1 : Int32) σ) ∧ (¬ (a0 < 0) → ((σ.1 10) ≤ a0 → K (-1 : Int32) σ) ∧ (¬ ((σ.1 10) ≤ a0) → vp_in a0 200 ∧ (K (σ.2.1 10 a0.toNatClampNeg) σ))))
def C_Gl_row (a0 : Int32) (σ : gs_St) (K : Int32 → gs_St → Prop) : Prop :=
  (C_We_ruleAt a0 σ (fun r2 σ1 => K r2 σ1))
def C_We_leafAt (a0 : Int32) (σ : gs_St) (K : Int32 → gs_St → Prop) : Prop :=
  ((a0 < 0 → K (-1 : Int32) σ) ∧ (¬ (a0 < 0) → ((σ.1 11) ≤ a0 → K (-1 : Int32) σ) ∧ (¬ ((σ.1 11) ≤ a0) → vp_in a0 16 ∧ (K (σ.2.1 11 a0.toNatClampNeg) σ))))
def C_Gl_leaf (a0 : Int32) (σ : gs_St) (K : Int32 → gs_St → Prop) : Prop :=
  (C_We_leafAt a0 σ (fun r2 σ1 => K r2 σ1))
def C_Li_add (a0 : Int32) (σ : gs_St) (K : Int32 → gs_St → Prop) : Prop :=
  (((σ.1 14) < (200 : Int32) → vp_in (σ.1 14) 200 ∧ ∀ σ1 : gs_St, σ1 = gs_A σ 14 (upd (σ.2.1 14) (σ.1 14).toNatClampNeg a0) → ∀ σ2 : gs_St, σ2 = gs_I σ1 14 ((σ1.1 14) + (1 : Int32)) → K (σ2.1 14) σ2) ∧ (¬ ((σ.1 14) < (200 : Int32)) → K (-1 : Int32) σ))
def C_Gl_list (a0 : Int32) (σ : gs_St) (K : Int32 → gs_St → Prop) : Prop :=
  (C_Li_add a0 σ (fun r2 σ1 => K r2 σ1))
def C_Li_terminals (σ : gs_St) (K : Int32 → gs_St → Prop) : Prop :=
  ∀ X4 : Int32 → Int32 → gs_St → Prop,
  (∀ (v_1 : Int32) (v_2 : Int32) (σ : gs_St), (((σ.1 14) ≤ v_2 → K v_1 σ) ∧ (¬ ((σ.1 14) ≤ v_2) → vp_in v_2 200 ∧ (C_Gr_has (σ.2.1 14 v_2.toNatClampNeg) σ (fun r2 σ1 => (¬ r2 = 0 → vp_in v_2 200 ∧ (C_Gr_sizeOf (σ1.2.1 14 v_2.toNatClampNeg) σ1 (fun r4 σ3 => vp_in v_2 200 ∧ (C_Gr_nonterminalsIn (σ3.2.1 14 v_2.toNatClampNeg) σ3 (fun r6 σ5 => ∀ v7 : Int32, v7 = v_1 + (r4 - r6) → ∀ v8 : Int32, v8 = v_2 + 1 → X4 v7 v8 σ5))))) ∧ (¬ (¬ r2 = 0) → K (-1 : Int32) σ1))))) → X4 v_1 v_2 σ) →
  (X4 (0 : Int32) (0 : Int32) σ)
def C_Li_treesBefore (a0 : Int32) (a1 : Int32) (σ : gs_St) (K : Int64 → gs_St → Prop) : Prop :=
  ∀ X5 : Int32 → Int32 → Int64 → Int32 → gs_St → Prop,
  (∀ (v_1 : Int32) (v_2 : Int32) (v_3 : Int64) (v_5 : Int32) (σ : gs_St), ((v_1 ≤ v_5 → K v_3 σ) ∧ (¬ (v_1 ≤ v_5) → C_Gr_leftOf v_5 σ (fun r2 σ1 => C_Gr_leftOf v_1 σ1 (fun r4 σ3 => (¬ r2 = r4 → ∀ v5 : Int32, v5 = v_5 + 1 → X5 v_1 v_2 v_3 v5 σ3) ∧ (¬ (¬ r2 = r4) → C_Co_endingsOf v_5 (0 : Int32) v_2 σ3 (fun r7 σ6 => ∀ v8 : Int64, v8 = v_3 + r7 → ∀ v9 : Int32, v9 = v_5 + 1 → X5 v_1 v_2 v8 v9 σ6)))))) → X5 v_1 v_2 v_3 v_5 σ) →
  (X5 a0 a1 (0 : Int64) (0 : Int32) σ)
def C_Li_numberInRule (a0 : Int32) (a1 : Int32) (σ : gs_St) (K : Int64 → gs_St → Prop) : Prop :=
  ∀ X17 : Int32 → Int64 → Int32 → Int32 → Int32 → gs_St → Prop,
  ∀ X82 : Int32 → Int64 → Int32 → Int32 → Int32 → Int32 → Int64 → Int32 → gs_St → Prop,
  (∀ (v_1 : Int32) (v_3 : Int64) (v_5 : Int32) (v_6 : Int32) (v_7 : Int32) (σ : gs_St), (C_Gr_sizeOf v_1 σ (fun r3 σ2 => (r3 ≤ v_7 → K v_3 σ2) ∧ (¬ (r3 ≤ v_7) → C_Gr_symbolAt v_1 v_7 σ2 (fun r5 σ4 => C_Gl_isNonterminal r5 σ4 (fun r7 σ6 => (r7 = 0 → X82 v_1 v_3 v_5 v_6 v_7 (1 : Int32) (0 : Int64) (0 : Int32) σ6) ∧ (¬ (r7 = 0) → ∀ v8 : Int32, v8 = v_6 + (-1) → vp_in v8 216 ∧ (∀ v9 : Int32, v9 = σ6.2.1 9 v8.toNatClampNeg → vp_in v8 216 ∧ (∀ v10 : Int64, v10 = σ6.2.2 4 v8.toNatClampNeg → X82 v_1 v_3 v_5 v8 v_7 v9 v10 (0 : Int32) σ6)))))))) → X17 v_1 v_3 v_5 v_6 v_7 σ) →
  (∀ (v_1 : Int32) (v_3 : Int64) (v_5 : Int32) (v_6 : Int32) (v_7 : Int32) (v_8 : Int32) (v_9 : Int64) (v_11 : Int32) (σ : gs_St), ((v_8 ≤ v_11 → ∀ v11 : Int32, v11 = v_5 - v_8 → C_Co_endingsOf v_1 (v_7 + (1 : Int32)) v11 σ (fun r13 σ12 => ∀ v14 : Int64, v14 = v_3 + (v_9 * r13) → ∀ v15 : Int32, v15 = v_7 + 1 → X17 v_1 v14 v11 v_6 v15 σ12)) ∧ (¬ (v_8 ≤ v_11) → C_Co_endingsWith v_1 v_7 v_11 v_5 σ (fun r17 σ16 => ∀ v18 : Int64, v18 = v_3 + r17 → ∀ v19 : Int32, v19 = v_11 + 1 → X82 v_1 v18 v_5 v_6 v_7 v_8 v_9 v19 σ16))) → X82 v_1 v_3 v_5 v_6 v_7 v_8 v_9 v_11 σ) →
  (∀ v1 : Int32, v1 = σ.1 8 → X17 a0 (0 : Int64) a1 v1 (0 : Int32) σ)
def C_Li_fold (a0 : Int32) (σ : gs_St) (K : Int32 → gs_St → Prop) : Prop :=
  ∀ X13 : Int32 → Int32 → Int32 → Int32 → gs_St → Prop,
  (∀ (v_1 : Int32) (v_2 : Int32) (v_3 : Int32) (v_4 : Int32) (σ : gs_St), (C_Gr_sizeOf v_1 σ (fun r3 σ2 => (r3 ≤ v_4 → C_Li_treesBefore v_1 v_2 σ2 (fun r5 σ4 => C_Li_numberInRule v_1 v_2 σ4 (fun r7 σ6 => ∀ v8 : Int64, v8 = r5 + r7 → C_Gr_leftOf v_1 σ6 (fun r10 σ9 => C_Pi_put v_3 r10 v_2 v8 σ9 (fun σ11 => ∀ σ12 : gs_St, σ12 = gs_I σ11 8 (v_3 + (1 : Int32)) → K (1 : Int32) σ12))))) ∧ (¬ (r3 ≤ v_4) → C_Gr_symbolAt v_1 v_4 σ2 (fun r14 σ13 => C_Gl_isNonterminal r14 σ13 (fun r16 σ15 => (¬ r16 = 0 → ∀ v17 : Int32, v17 = v_3 + (-1) → (v17 < 0 → K (0 : Int32) σ15) ∧ (¬ (v17 < 0) → vp_in v17 216 ∧ (((σ15.2.1 8 v17.toNatClampNeg) = r14 → vp_in v17 216 ∧ (∀ v18 : Int32, v18 = v_2 + (σ15.2.1 9 v17.toNatClampNeg) → ∀ v19 : Int32, v19 = v_4 + 1 → X13 v_1 v18 v17 v19 σ15)) ∧ (¬ ((σ15.2.1 8 v17.toNatClampNeg) = r14) → K (0 : Int32) σ15)))) ∧ (¬ (¬ r16 = 0) → ∀ v20 : Int32, v20 = v_2 + 1 → ∀ v21 : Int32, v21 = v_4 + 1 → X13 v_1 v20 v_3 v21 σ15)))))) → X13 v_1 v_2 v_3 v_4 σ) →
  (∀ v1 : Int32, v1 = σ.1 8 → X13 a0 (0 : Int32) v1 (0 : Int32) σ)
def C_Li_numberOf (a0 : Int32) (σ : gs_St) (K : Int64 → gs_St → Prop) : Prop :=
  ∀ X51 : Int32 → Int32 → gs_St → Prop,
  (∀ (v_1 : Int32) (v_3 : Int32) (σ : gs_St), ((v_3 < 0 → (¬ (σ.1 8) = (1 : Int32) → K (-1 : Int64) σ) ∧ (¬ (¬ (σ.1 8) = (1 : Int32)) → vp_in (0 : Int32) 216 ∧ ((¬ (σ.2.1 8 (0 : Int32).toNatClampNeg) = v_1 → K (-1 : Int64) σ) ∧ (¬ (¬ (σ.2.1 8 (0 : Int32).toNatClampNeg) = v_1) → vp_in (0 : Int32) 216 ∧ (K (σ.2.2 4 (0 : Int32).toNatClampNeg) σ))))) ∧ (¬ (v_3 < 0) → vp_in v_3 200 ∧ (C_Li_fold (σ.2.1 14 v_3.toNatClampNeg) σ (fun r8 σ7 => (¬ r8 = 0 → ∀ v9 : Int32, v9 = v_3 + (-1) → X51 v_1 v9 σ7) ∧ (¬ (¬ r8 = 0) → K (-1 : Int64) σ7))))) → X51 v_1 v_3 σ) →
  (C_Li_terminals σ (fun r2 σ1 => (r2 = (-1 : Int32) → K (-1 : Int64) σ1) ∧ (¬ (r2 = (-1 : Int32)) → ((16 : Int32) < r2 → K (-1 : Int64) σ1) ∧ (¬ ((16 : Int32) < r2) → C_Co_treesOf a0 r2 σ1 (fun r4 σ3 => (r4 ≤ (1000000000000000000 : Int64) → ∀ σ5 : gs_St, σ5 = gs_I σ3 8 (0 : Int32) → ∀ v6 : Int32, v6 = (σ5.1 14) - (1 : Int32) → X51 a0 v6 σ5) ∧ (¬ (r4 ≤ (1000000000000000000 : Int64)) → K (-1 : Int64) σ3))))))
def C_Gl_number (a0 : Int32) (σ : gs_St) (K : Int64 → gs_St → Prop) : Prop :=
  (C_Gl_isNonterminal a0 σ (fun r2 σ1 => (r2 = 0 → ∀ σ3 : gs_St, σ3 = gs_I σ1 14 (0 : Int32) → K (-1 : Int64) σ3) ∧ (¬ (r2 = 0) → C_Gl_circle σ1 (fun r5 σ4 => (¬ r5 = 0 → ∀ σ6 : gs_St, σ6 = gs_I σ4 14 (0 : Int32) → K (-1 : Int64) σ6) ∧ (¬ (¬ r5 = 0) → C_Li_numberOf a0 σ4 (fun r8 σ7 => ∀ σ9 : gs_St, σ9 = gs_I σ7 14 (0 : Int32) → K r8 σ9))))))
end
section
-- ===== PART A: goes FIRST, ahead of the names: the tables' words, and 'selects' of the private methods out of them =====
/-- a private method of a class that the tables say can be made, by its rows of tables_1 -/
def lw_okq (q : MethodName × Nat) : Prop := (q.1.cls ≠ "java/lang/invoke/MethodHandle" ∧ q.1.cls ≠ "java/lang/invoke/VarHandle") ∧ Cond.instantiable q.1.cls q.2 ∈ tables_1 ∧ Cond.privateMethod q.1 ∈ tables_1 ∧ Cond.instanceMethod q.1 ∈ tables_1
theorem lw_p0 : lw_okq (⟨"GrammarLoom", "study", "()V"⟩, 10) := ⟨⟨by decide +kernel, by decide +kernel⟩, List.mem_of_getElem? (i := 15) (by decide +kernel), List.mem_of_getElem? (i := 294) (by decide +kernel), List.mem_of_getElem? (i := 295) (by decide +kernel)⟩
theorem lw_p1 : lw_okq (⟨"GrammarLoom$Lengths", "leastBut", "(II)I"⟩, 3) := ⟨⟨by decide +kernel, by decide +kernel⟩, List.mem_of_getElem? (i := 48) (by decide +kernel), List.mem_of_getElem? (i := 306) (by decide +kernel), List.mem_of_getElem? (i := 307) (by decide +kernel)⟩
theorem lw_p2 : lw_okq (⟨"GrammarLoom$Lengths", "lowerAround", "(I)V"⟩, 3) := ⟨⟨by decide +kernel, by decide +kernel⟩, List.mem_of_getElem? (i := 48) (by decide +kernel), List.mem_of_getElem? (i := 316) (by decide +kernel), List.mem_of_getElem? (i := 317) (by decide +kernel)⟩
theorem lw_p3 : lw_okq (⟨"GrammarLoom$Leads", "isEmptyBut", "(II)Z"⟩, 5) := ⟨⟨by decide +kernel, by decide +kernel⟩, List.mem_of_getElem? (i := 64) (by decide +kernel), List.mem_of_getElem? (i := 328) (by decide +kernel), List.mem_of_getElem? (i := 329) (by decide +kernel)⟩
theorem lw_p4 : lw_okq (⟨"GrammarLoom$Leads", "putInOrder", "()V"⟩, 5) := ⟨⟨by decide +kernel, by decide +kernel⟩, List.mem_of_getElem? (i := 64) (by decide +kernel), List.mem_of_getElem? (i := 337) (by decide +kernel), List.mem_of_getElem? (i := 338) (by decide +kernel)⟩
theorem lw_p5 : lw_okq (⟨"GrammarLoom", "isCounted", "(I)Z"⟩, 10) := ⟨⟨by decide +kernel, by decide +kernel⟩, List.mem_of_getElem? (i := 15) (by decide +kernel), List.mem_of_getElem? (i := 369) (by decide +kernel), List.mem_of_getElem? (i := 370) (by decide +kernel)⟩
theorem lw_p6 : lw_okq (⟨"GrammarLoom$Counts", "countLength", "(I)V"⟩, 6) := ⟨⟨by decide +kernel, by decide +kernel⟩, List.mem_of_getElem? (i := 86) (by decide +kernel), List.mem_of_getElem? (i := 378) (by decide +kernel), List.mem_of_getElem? (i := 379) (by decide +kernel)⟩
theorem lw_p7 : lw_okq (⟨"GrammarLoom$Counts", "fillEndings", "(II)V"⟩, 6) := ⟨⟨by decide +kernel, by decide +kernel⟩, List.mem_of_getElem? (i := 86) (by decide +kernel), List.mem_of_getElem? (i := 387) (by decide +kernel), List.mem_of_getElem? (i := 388) (by decide +kernel)⟩
theorem lw_p8 : lw_okq (⟨"GrammarLoom$Counts", "pairs", "(III)J"⟩, 6) := ⟨⟨by decide +kernel, by decide +kernel⟩, List.mem_of_getElem? (i := 86) (by decide +kernel), List.mem_of_getElem? (i := 397) (by decide +kernel), List.mem_of_getElem? (i := 398) (by decide +kernel)⟩
theorem lw_p9 : lw_okq (⟨"GrammarLoom$Counts", "addTrees", "(IIJ)V"⟩, 6) := ⟨⟨by decide +kernel, by decide +kernel⟩, List.mem_of_getElem? (i := 86) (by decide +kernel), List.mem_of_getElem? (i := 416) (by decide +kernel), List.mem_of_getElem? (i := 417) (by decide +kernel)⟩
theorem lw_p10 : lw_okq (⟨"GrammarLoom$Weaver", "unfold", "(IIJ)Z"⟩, 6) := ⟨⟨by decide +kernel, by decide +kernel⟩, List.mem_of_getElem? (i := 138) (by decide +kernel), List.mem_of_getElem? (i := 453) (by decide +kernel), List.mem_of_getElem? (i := 454) (by decide +kernel)⟩
theorem lw_p11 : lw_okq (⟨"GrammarLoom$Weaver", "unfoldRule", "(IIJ)Z"⟩, 6) := ⟨⟨by decide +kernel, by decide +kernel⟩, List.mem_of_getElem? (i := 138) (by decide +kernel), List.mem_of_getElem? (i := 459) (by decide +kernel), List.mem_of_getElem? (i := 460) (by decide +kernel)⟩
theorem lw_p12 : lw_okq (⟨"GrammarLoom$Listing", "terminals", "()I"⟩, 5) := ⟨⟨by decide +kernel, by decide +kernel⟩, List.mem_of_getElem? (i := 186) (by decide +kernel), List.mem_of_getElem? (i := 515) (by decide +kernel), List.mem_of_getElem? (i := 516) (by decide +kernel)⟩
theorem lw_p13 : lw_okq (⟨"GrammarLoom$Listing", "fold", "(I)Z"⟩, 5) := ⟨⟨by decide +kernel, by decide +kernel⟩, List.mem_of_getElem? (i := 186) (by decide +kernel), List.mem_of_getElem? (i := 525) (by decide +kernel), List.mem_of_getElem? (i := 526) (by decide +kernel)⟩
theorem lw_p14 : lw_okq (⟨"GrammarLoom$Listing", "treesBefore", "(II)J"⟩, 5) := ⟨⟨by decide +kernel, by decide +kernel⟩, List.mem_of_getElem? (i := 186) (by decide +kernel), List.mem_of_getElem? (i := 531) (by decide +kernel), List.mem_of_getElem? (i := 532) (by decide +kernel)⟩
theorem lw_p15 : lw_okq (⟨"GrammarLoom$Listing", "numberInRule", "(II)J"⟩, 5) := ⟨⟨by decide +kernel, by decide +kernel⟩, List.mem_of_getElem? (i := 186) (by decide +kernel), List.mem_of_getElem? (i := 537) (by decide +kernel), List.mem_of_getElem? (i := 538) (by decide +kernel)⟩
def lw_privs_1 : List (MethodName × Nat) := [(⟨"GrammarLoom", "study", "()V"⟩, 10), (⟨"GrammarLoom$Lengths", "leastBut", "(II)I"⟩, 3), (⟨"GrammarLoom$Lengths", "lowerAround", "(I)V"⟩, 3), (⟨"GrammarLoom$Leads", "isEmptyBut", "(II)Z"⟩, 5), (⟨"GrammarLoom$Leads", "putInOrder", "()V"⟩, 5), (⟨"GrammarLoom", "isCounted", "(I)Z"⟩, 10), (⟨"GrammarLoom$Counts", "countLength", "(I)V"⟩, 6), (⟨"GrammarLoom$Counts", "fillEndings", "(II)V"⟩, 6), (⟨"GrammarLoom$Counts", "pairs", "(III)J"⟩, 6), (⟨"GrammarLoom$Counts", "addTrees", "(IIJ)V"⟩, 6), (⟨"GrammarLoom$Weaver", "unfold", "(IIJ)Z"⟩, 6), (⟨"GrammarLoom$Weaver", "unfoldRule", "(IIJ)Z"⟩, 6), (⟨"GrammarLoom$Listing", "terminals", "()I"⟩, 5), (⟨"GrammarLoom$Listing", "fold", "(I)Z"⟩, 5), (⟨"GrammarLoom$Listing", "treesBefore", "(II)J"⟩, 5), (⟨"GrammarLoom$Listing", "numberInRule", "(II)J"⟩, 5)]
theorem lw_r1 : ∀ q ∈ lw_privs_1, lw_okq q := List.forall_mem_cons.mpr ⟨lw_p0, List.forall_mem_cons.mpr ⟨lw_p1, List.forall_mem_cons.mpr ⟨lw_p2, List.forall_mem_cons.mpr ⟨lw_p3, List.forall_mem_cons.mpr ⟨lw_p4, List.forall_mem_cons.mpr ⟨lw_p5, List.forall_mem_cons.mpr ⟨lw_p6, List.forall_mem_cons.mpr ⟨lw_p7, List.forall_mem_cons.mpr ⟨lw_p8, List.forall_mem_cons.mpr ⟨lw_p9, List.forall_mem_cons.mpr ⟨lw_p10, List.forall_mem_cons.mpr ⟨lw_p11, List.forall_mem_cons.mpr ⟨lw_p12, List.forall_mem_cons.mpr ⟨lw_p13, List.forall_mem_cons.mpr ⟨lw_p14, List.forall_mem_cons.mpr ⟨lw_p15, fun _ h => absurd h List.not_mem_nil⟩⟩⟩⟩⟩⟩⟩⟩⟩⟩⟩⟩⟩⟩⟩⟩
theorem lw_p16 : lw_okq (⟨"GrammarLoomModel", "isRule", "(I)Z"⟩, 28) := ⟨⟨by decide +kernel, by decide +kernel⟩, List.mem_of_getElem? (i := 543) (by decide +kernel), List.mem_of_getElem? (i := 650) (by decide +kernel), List.mem_of_getElem? (i := 651) (by decide +kernel)⟩
theorem lw_p17 : lw_okq (⟨"GrammarLoomModel", "at", "(II)I"⟩, 28) := ⟨⟨by decide +kernel, by decide +kernel⟩, List.mem_of_getElem? (i := 543) (by decide +kernel), List.mem_of_getElem? (i := 662) (by decide +kernel), List.mem_of_getElem? (i := 663) (by decide +kernel)⟩
theorem lw_p18 : lw_okq (⟨"GrammarLoomModel", "shorten", "()V"⟩, 28) := ⟨⟨by decide +kernel, by decide +kernel⟩, List.mem_of_getElem? (i := 543) (by decide +kernel), List.mem_of_getElem? (i := 670) (by decide +kernel), List.mem_of_getElem? (i := 671) (by decide +kernel)⟩
theorem lw_p19 : lw_okq (⟨"GrammarLoomModel", "leastBut", "(II)J"⟩, 28) := ⟨⟨by decide +kernel, by decide +kernel⟩, List.mem_of_getElem? (i := 543) (by decide +kernel), List.mem_of_getElem? (i := 675) (by decide +kernel), List.mem_of_getElem? (i := 676) (by decide +kernel)⟩
theorem lw_p20 : lw_okq (⟨"GrammarLoomModel", "leastOf", "(I)J"⟩, 28) := ⟨⟨by decide +kernel, by decide +kernel⟩, List.mem_of_getElem? (i := 543) (by decide +kernel), List.mem_of_getElem? (i := 679) (by decide +kernel), List.mem_of_getElem? (i := 680) (by decide +kernel)⟩
theorem lw_p21 : lw_okq (⟨"GrammarLoomModel", "allEmpty", "(II)Z"⟩, 28) := ⟨⟨by decide +kernel, by decide +kernel⟩, List.mem_of_getElem? (i := 543) (by decide +kernel), List.mem_of_getElem? (i := 691) (by decide +kernel), List.mem_of_getElem? (i := 692) (by decide +kernel)⟩
theorem lw_p22 : lw_okq (⟨"GrammarLoomModel", "isEmpty", "(I)Z"⟩, 28) := ⟨⟨by decide +kernel, by decide +kernel⟩, List.mem_of_getElem? (i := 543) (by decide +kernel), List.mem_of_getElem? (i := 695) (by decide +kernel), List.mem_of_getElem? (i := 696) (by decide +kernel)⟩
theorem lw_p23 : lw_okq (⟨"GrammarLoomModel", "reckon", "(I)V"⟩, 28) := ⟨⟨by decide +kernel, by decide +kernel⟩, List.mem_of_getElem? (i := 543) (by decide +kernel), List.mem_of_getElem? (i := 708) (by decide +kernel), List.mem_of_getElem? (i := 709) (by decide +kernel)⟩
theorem lw_p24 : lw_okq (⟨"GrammarLoomModel", "fill", "(II)V"⟩, 28) := ⟨⟨by decide +kernel, by decide +kernel⟩, List.mem_of_getElem? (i := 543) (by decide +kernel), List.mem_of_getElem? (i := 712) (by decide +kernel), List.mem_of_getElem? (i := 713) (by decide +kernel)⟩
theorem lw_p25 : lw_okq (⟨"GrammarLoomModel", "of", "(II)J"⟩, 28) := ⟨⟨by decide +kernel, by decide +kernel⟩, List.mem_of_getElem? (i := 543) (by decide +kernel), List.mem_of_getElem? (i := 716) (by decide +kernel), List.mem_of_getElem? (i := 717) (by decide +kernel)⟩
theorem lw_p26 : lw_okq (⟨"GrammarLoomModel", "put", "(IIJ)V"⟩, 28) := ⟨⟨by decide +kernel, by decide +kernel⟩, List.mem_of_getElem? (i := 543) (by decide +kernel), List.mem_of_getElem? (i := 738) (by decide +kernel), List.mem_of_getElem? (i := 739) (by decide +kernel)⟩
theorem lw_p27 : lw_okq (⟨"GrammarLoomModel", "split", "(IIJ)I"⟩, 28) := ⟨⟨by decide +kernel, by decide +kernel⟩, List.mem_of_getElem? (i := 543) (by decide +kernel), List.mem_of_getElem? (i := 742) (by decide +kernel), List.mem_of_getElem? (i := 743) (by decide +kernel)⟩
theorem lw_p28 : lw_okq (⟨"GrammarLoomModel", "join", "(I)Z"⟩, 28) := ⟨⟨by decide +kernel, by decide +kernel⟩, List.mem_of_getElem? (i := 543) (by decide +kernel), List.mem_of_getElem? (i := 762) (by decide +kernel), List.mem_of_getElem? (i := 763) (by decide +kernel)⟩
def lw_privs_2 : List (MethodName × Nat) := [(⟨"GrammarLoomModel", "isRule", "(I)Z"⟩, 28), (⟨"GrammarLoomModel", "at", "(II)I"⟩, 28), (⟨"GrammarLoomModel", "shorten", "()V"⟩, 28), (⟨"GrammarLoomModel", "leastBut", "(II)J"⟩, 28), (⟨"GrammarLoomModel", "leastOf", "(I)J"⟩, 28), (⟨"GrammarLoomModel", "allEmpty", "(II)Z"⟩, 28), (⟨"GrammarLoomModel", "isEmpty", "(I)Z"⟩, 28), (⟨"GrammarLoomModel", "reckon", "(I)V"⟩, 28), (⟨"GrammarLoomModel", "fill", "(II)V"⟩, 28), (⟨"GrammarLoomModel", "of", "(II)J"⟩, 28), (⟨"GrammarLoomModel", "put", "(IIJ)V"⟩, 28), (⟨"GrammarLoomModel", "split", "(IIJ)I"⟩, 28), (⟨"GrammarLoomModel", "join", "(I)Z"⟩, 28)]
theorem lw_r2 : ∀ q ∈ lw_privs_2, lw_okq q := List.forall_mem_cons.mpr ⟨lw_p16, List.forall_mem_cons.mpr ⟨lw_p17, List.forall_mem_cons.mpr ⟨lw_p18, List.forall_mem_cons.mpr ⟨lw_p19, List.forall_mem_cons.mpr ⟨lw_p20, List.forall_mem_cons.mpr ⟨lw_p21, List.forall_mem_cons.mpr ⟨lw_p22, List.forall_mem_cons.mpr ⟨lw_p23, List.forall_mem_cons.mpr ⟨lw_p24, List.forall_mem_cons.mpr ⟨lw_p25, List.forall_mem_cons.mpr ⟨lw_p26, List.forall_mem_cons.mpr ⟨lw_p27, List.forall_mem_cons.mpr ⟨lw_p28, fun _ h => absurd h List.not_mem_nil⟩⟩⟩⟩⟩⟩⟩⟩⟩⟩⟩⟩⟩
def lw_privs : List (MethodName × Nat) := lw_privs_1 ++ (lw_privs_2)
def lw_tbl : List Cond := k2_sels lw_privs ++ tables_1
theorem lw_privs_ok : ∀ q ∈ lw_privs, lw_okq q := by
  show ∀ q ∈ lw_privs_1 ++ (lw_privs_2), lw_okq q
  exact List.forall_mem_append.mpr ⟨lw_r1, lw_r2⟩

def RX0 : String := "GrammarLoom$Counts"
def TX0 : u_T := fun k => match k with
  | 0 => ("GrammarLoom$Counts", "grammar", "LGrammarLoom$Grammar;", true)
  | 1 => ("GrammarLoom$Counts", "leads", "LGrammarLoom$Leads;", true)
  | 2 => ("GrammarLoom$Counts", "trees", "[J", true)
  | 3 => ("GrammarLoom$Counts", "endings", "[J", true)
  | 4 => ("GrammarLoom$Counts", "leftOut", "I", false)
  | _ => ("GrammarLoom$Counts", "counted", "I", false)
def tyX0 : Nat → FieldType := fun k => match k with
  | 0 => .object "GrammarLoom$Grammar"
  | 1 => .object "GrammarLoom$Leads"
  | 2 => .array .long
  | 3 => .array .long
  | 4 => .int
  | _ => .int
abbrev wsX00 : List Cond := u_ws RX0 TX0 6
theorem nmX0 : ∀ a, a < 6 → ∀ b, b < 6 → a ≠ b → (TX0 a).2.1 ≠ (TX0 b).2.1 := by decide +kernel
theorem tyX0_ok : ∀ k, k < 6 → parseFieldDescriptor (TX0 k).2.2.1 = some (tyX0 k) := by decide +kernel
def RX1 : String := "GrammarLoom$Drawing"
def TX1 : u_T := fun k => match k with
  | 0 => ("GrammarLoom$Drawing", "rules", "[I", true)
  | 1 => ("GrammarLoom$Drawing", "leaves", "[I", true)
  | 2 => ("GrammarLoom$Drawing", "ruleCount", "I", false)
  | _ => ("GrammarLoom$Drawing", "leafCount", "I", false)
def tyX1 : Nat → FieldType := fun k => match k with
  | 0 => .array .int
  | 1 => .array .int
  | 2 => .int
  | _ => .int
abbrev wsX10 : List Cond := u_ws RX1 TX1 4
theorem nmX1 : ∀ a, a < 4 → ∀ b, b < 4 → a ≠ b → (TX1 a).2.1 ≠ (TX1 b).2.1 := by decide +kernel
theorem tyX1_ok : ∀ k, k < 4 → parseFieldDescriptor (TX1 k).2.2.1 = some (tyX1 k) := by decide +kernel
def RX2 : String := "GrammarLoom$Grammar"
def TX2 : u_T := fun k => match k with
  | 0 => ("GrammarLoom$Grammar", "left", "[I", true)
  | 1 => ("GrammarLoom$Grammar", "sizes", "[I", true)
  | 2 => ("GrammarLoom$Grammar", "right", "[I", true)
  | _ => ("GrammarLoom$Grammar", "rules", "I", false)
def tyX2 : Nat → FieldType := fun k => match k with
  | 0 => .array .int
  | 1 => .array .int
  | 2 => .array .int
  | _ => .int
abbrev wsX20 : List Cond := u_ws RX2 TX2 4
theorem nmX2 : ∀ a, a < 4 → ∀ b, b < 4 → a ≠ b → (TX2 a).2.1 ≠ (TX2 b).2.1 := by decide +kernel
theorem tyX2_ok : ∀ k, k < 4 → parseFieldDescriptor (TX2 k).2.2.1 = some (tyX2 k) := by decide +kernel
def RX3 : String := "GrammarLoom$Leads"
def TX3 : u_T := fun k => match k with
  | 0 => ("GrammarLoom$Leads", "grammar", "LGrammarLoom$Grammar;", true)
  | 1 => ("GrammarLoom$Leads", "lengths", "LGrammarLoom$Lengths;", true)
  | 2 => ("GrammarLoom$Leads", "targets", "[I", true)
  | 3 => ("GrammarLoom$Leads", "order", "[I", true)
  | _ => ("GrammarLoom$Leads", "ordered", "I", false)
def tyX3 : Nat → FieldType := fun k => match k with
  | 0 => .object "GrammarLoom$Grammar"
  | 1 => .object "GrammarLoom$Lengths"
  | 2 => .array .int
  | 3 => .array .int
  | _ => .int
abbrev wsX30 : List Cond := u_ws RX3 TX3 5
theorem nmX3 : ∀ a, a < 5 → ∀ b, b < 5 → a ≠ b → (TX3 a).2.1 ≠ (TX3 b).2.1 := by decide +kernel
theorem tyX3_ok : ∀ k, k < 5 → parseFieldDescriptor (TX3 k).2.2.1 = some (tyX3 k) := by decide +kernel
def RX4 : String := "GrammarLoom$Lengths"
def TX4 : u_T := fun k => match k with
  | 0 => ("GrammarLoom$Lengths", "grammar", "LGrammarLoom$Grammar;", true)
  | 1 => ("GrammarLoom$Lengths", "least", "[I", true)
  | _ => ("GrammarLoom$Lengths", "around", "[I", true)
def tyX4 : Nat → FieldType := fun k => match k with
  | 0 => .object "GrammarLoom$Grammar"
  | 1 => .array .int
  | _ => .array .int
abbrev wsX40 : List Cond := u_ws RX4 TX4 3
theorem nmX4 : ∀ a, a < 3 → ∀ b, b < 3 → a ≠ b → (TX4 a).2.1 ≠ (TX4 b).2.1 := by decide +kernel
theorem tyX4_ok : ∀ k, k < 3 → parseFieldDescriptor (TX4 k).2.2.1 = some (tyX4 k) := by decide +kernel
def RX5 : String := "GrammarLoom$Listing"
def TX5 : u_T := fun k => match k with
  | 0 => ("GrammarLoom$Listing", "grammar", "LGrammarLoom$Grammar;", true)
  | 1 => ("GrammarLoom$Listing", "counts", "LGrammarLoom$Counts;", true)
  | 2 => ("GrammarLoom$Listing", "pile", "LGrammarLoom$Pile;", true)
  | 3 => ("GrammarLoom$Listing", "rules", "[I", true)
  | _ => ("GrammarLoom$Listing", "size", "I", false)
def tyX5 : Nat → FieldType := fun k => match k with
  | 0 => .object "GrammarLoom$Grammar"
  | 1 => .object "GrammarLoom$Counts"
  | 2 => .object "GrammarLoom$Pile"
  | 3 => .array .int
  | _ => .int
abbrev wsX50 : List Cond := u_ws RX5 TX5 5
theorem nmX5 : ∀ a, a < 5 → ∀ b, b < 5 → a ≠ b → (TX5 a).2.1 ≠ (TX5 b).2.1 := by decide +kernel
theorem tyX5_ok : ∀ k, k < 5 → parseFieldDescriptor (TX5 k).2.2.1 = some (tyX5 k) := by decide +kernel
def RX6 : String := "GrammarLoom$Pile"
def TX6 : u_T := fun k => match k with
  | 0 => ("GrammarLoom$Pile", "symbols", "[I", true)
  | 1 => ("GrammarLoom$Pile", "lengths", "[I", true)
  | 2 => ("GrammarLoom$Pile", "numbers", "[J", true)
  | _ => ("GrammarLoom$Pile", "size", "I", false)
def tyX6 : Nat → FieldType := fun k => match k with
  | 0 => .array .int
  | 1 => .array .int
  | 2 => .array .long
  | _ => .int
abbrev wsX60 : List Cond := u_ws RX6 TX6 4
theorem nmX6 : ∀ a, a < 4 → ∀ b, b < 4 → a ≠ b → (TX6 a).2.1 ≠ (TX6 b).2.1 := by decide +kernel
theorem tyX6_ok : ∀ k, k < 4 → parseFieldDescriptor (TX6 k).2.2.1 = some (tyX6 k) := by decide +kernel
def RX7 : String := "GrammarLoom$Weaver"
def TX7 : u_T := fun k => match k with
  | 0 => ("GrammarLoom$Weaver", "grammar", "LGrammarLoom$Grammar;", true)
  | 1 => ("GrammarLoom$Weaver", "counts", "LGrammarLoom$Counts;", true)
  | 2 => ("GrammarLoom$Weaver", "pile", "LGrammarLoom$Pile;", true)
  | 3 => ("GrammarLoom$Weaver", "latest", "LGrammarLoom$Drawing;", false)
  | 4 => ("GrammarLoom$Weaver", "next", "LGrammarLoom$Drawing;", false)
  | _ => ("GrammarLoom$Weaver", "waiting", "I", false)
def tyX7 : Nat → FieldType := fun k => match k with
  | 0 => .object "GrammarLoom$Grammar"
  | 1 => .object "GrammarLoom$Counts"
  | 2 => .object "GrammarLoom$Pile"
  | 3 => .object "GrammarLoom$Drawing"
  | 4 => .object "GrammarLoom$Drawing"
  | _ => .int
abbrev wsX70 : List Cond := u_ws RX7 TX7 6
theorem nmX7 : ∀ a, a < 6 → ∀ b, b < 6 → a ≠ b → (TX7 a).2.1 ≠ (TX7 b).2.1 := by decide +kernel
theorem tyX7_ok : ∀ k, k < 6 → parseFieldDescriptor (TX7 k).2.2.1 = some (tyX7 k) := by decide +kernel
def RX8 : String := "GrammarLoom"
def TX8 : u_T := fun k => match k with
  | 0 => ("GrammarLoom", "text", "[I", true)
  | 1 => ("GrammarLoom", "textSize", "I", false)
  | 2 => ("GrammarLoom", "grammar", "LGrammarLoom$Grammar;", true)
  | 3 => ("GrammarLoom", "lengths", "LGrammarLoom$Lengths;", true)
  | 4 => ("GrammarLoom", "leads", "LGrammarLoom$Leads;", true)
  | 5 => ("GrammarLoom", "all", "LGrammarLoom$Counts;", true)
  | 6 => ("GrammarLoom", "without", "LGrammarLoom$Counts;", true)
  | 7 => ("GrammarLoom", "weaver", "LGrammarLoom$Weaver;", true)
  | 8 => ("GrammarLoom", "listing", "LGrammarLoom$Listing;", true)
  | _ => ("GrammarLoom", "studied", "Z", false)
def tyX8 : Nat → FieldType := fun k => match k with
  | 0 => .array .int
  | 1 => .int
  | 2 => .object "GrammarLoom$Grammar"
  | 3 => .object "GrammarLoom$Lengths"
  | 4 => .object "GrammarLoom$Leads"
  | 5 => .object "GrammarLoom$Counts"
  | 6 => .object "GrammarLoom$Counts"
  | 7 => .object "GrammarLoom$Weaver"
  | 8 => .object "GrammarLoom$Listing"
  | _ => .boolean
abbrev wsX80 : List Cond := u_ws RX8 TX8 10
theorem nmX8 : ∀ a, a < 10 → ∀ b, b < 10 → a ≠ b → (TX8 a).2.1 ≠ (TX8 b).2.1 := by decide +kernel
theorem tyX8_ok : ∀ k, k < 10 → parseFieldDescriptor (TX8 k).2.2.1 = some (tyX8 k) := by decide +kernel
def RX9 : String := "GrammarLoomModel"
def TX9 : u_T := fun k => match k with
  | _ => ("", "", "", false)
def tyX9 : Nat → FieldType := fun k => match k with
  | _ => .int
abbrev wsX90 : List Cond := u_ws RX9 TX9 0
theorem nmX9 : ∀ a, a < 0 → ∀ b, b < 0 → a ≠ b → (TX9 a).2.1 ≠ (TX9 b).2.1 := by decide +kernel
theorem tyX9_ok : ∀ k, k < 0 → parseFieldDescriptor (TX9 k).2.2.1 = some (tyX9 k) := by decide +kernel
abbrev gs_C : List vw_C := [(RX0, TX0, 6), (RX1, TX1, 4), (RX2, TX2, 4), (RX3, TX3, 5), (RX4, TX4, 3), (RX5, TX5, 5), (RX6, TX6, 4), (RX7, TX7, 6), (RX8, TX8, 10), (RX9, TX9, 0)]
end
section
/-- words of nest mates: they don't go on by themselves, a start has to bring them -/
def gj_isNest : Cond → Bool
  | .fieldLinkNest .. => true
  | .methodLinkNest .. => true
  | _ => false
def gj_nest : List Cond := tables_1.filter gj_isNest
/-- the words that go on -/
def gj_tbl : List Cond := lw_tbl.filter goodWord
def gj_N (s : State) : Prop := ∀ w ∈ gj_nest, va_Nw w s
theorem gj_N.warm {s U : State} (hW : s.WarmedH U.vm) (h : gj_N s) : gj_N U := fun w hw => by
  have h1 := h w hw
  have h2 := (List.mem_filter.mp hw).2
  cases w <;> first | exact va_Nw.warmF hW h1 | exact va_Nw.warmM hW h1 | cases h2
theorem gj_N.same {s U : State} (hv : s.vm = U.vm) (h : gj_N s) : gj_N U := fun w hw => by
  have h1 := h w hw
  have h2 := (List.mem_filter.mp hw).2
  cases w <;> first | exact va_Nw.same rfl hv h1 | cases h2
theorem gj_in {w : Cond} (h : w ∈ lw_tbl) (hg : goodWord w = true) : w ∈ gj_tbl := List.mem_filter.mpr ⟨h, hg⟩
theorem gj_inN {w : Cond} (h : w ∈ tables_1) (hg : gj_isNest w = true) : w ∈ gj_nest := List.mem_filter.mpr ⟨h, hg⟩
/-- the fixed things of a walk: the machine, the code, its locals, the own class, the words, the classes -/
def gj_X (p : Program) (s : State) (m : MethodId) (c : Code) (args : Array Value) (cc : ByteArray) (nL : Nat) (own : String) (Ts : List Cond) (D : va_G) (cl : List vw_C) (tys : List (ClassId × FieldType)) : Prop :=
  p.tables.exec = Jvm.exec ∧ c.code = cc ∧ c.maxLocals = nL ∧ s.vm.findClass own = some m.cls ∧ (∀ w ∈ Ts, w.before args s = true) ∧ va_K D cl tys s ∧ gj_N s
/-- from pc, with these locals, this stack and any heap that holds the world w, the machine comes to Q -/
def gj_J (p : Program) (l : Launch) (e : Env) (R : Room) (s : State) (m : MethodId) (args : Array Value) (below : List Frame) (meth : Method) (c : Code) (cells slots : Nat) (Q : State → Prop) (D : va_G) (cl : List vw_C) (A : Nat → Prop) (nL pc : Nat) (L : List (Nat × Value)) (st : List Value) (w : va_W) : Prop :=
  ∀ (H : Heap) (locs : List Loc) (ls : Array Slot), va_P D cl w H → va_D A w → va_S A s.heap H locs → lv_has ls nL L → W p l e R s m args below meth c H locs cells slots Q (F0 m pc ls st)
/-- a world behind a method -/
def gj_at {S : Type} (D : va_G) (cl : List vw_C) (tys : List (ClassId × FieldType)) (wof : S → va_W) (A : Nat → Prop) (u : S) (t : State) : Prop := va_P D cl (wof u) t.heap ∧ va_K D cl tys t ∧ va_D A (wof u)
def gj_pre (D : va_G) (cl : List vw_C) (tys : List (ClassId × FieldType)) (w0 : va_W) (sz : Nat) (U : State) : Prop := U.heap.size = sz ∧ va_P D cl w0 U.heap ∧ va_K D cl tys U ∧ va_D (fun _ => True) w0 ∧ gj_N U
/-- contracts that make no cell: an int (or boolean), a long, nothing -/
def gj_MI {S : Type} (l : Launch) (y : MethodName) (ws : List Cond) (rm : Room) (D : va_G) (cl : List vw_C) (tys : List (ClassId × FieldType)) (w0 : va_W) (wof : S → va_W) (av : List Value) (K : Int32 → S → Prop) : Prop :=
  ∀ sz : Nat, Met l y ws rm (va_Pc av (gj_pre D cl tys w0 sz)) (va_Qi K (gj_at D cl tys wof (va_A w0 sz)) (va_A w0 sz)) 0 0 (va_A w0 sz)
def gj_ML {S : Type} (l : Launch) (y : MethodName) (ws : List Cond) (rm : Room) (D : va_G) (cl : List vw_C) (tys : List (ClassId × FieldType)) (w0 : va_W) (wof : S → va_W) (av : List Value) (K : Int64 → S → Prop) : Prop :=
  ∀ sz : Nat, Met l y ws rm (va_Pc av (gj_pre D cl tys w0 sz)) (va_Ql K (gj_at D cl tys wof (va_A w0 sz)) (va_A w0 sz)) 0 0 (va_A w0 sz)
def gj_MV {S : Type} (mc ms : Nat) (l : Launch) (y : MethodName) (ws : List Cond) (rm : Room) (D : va_G) (cl : List vw_C) (tys : List (ClassId × FieldType)) (w0 : va_W) (wof : S → va_W) (av : List Value) (K : S → Prop) : Prop :=
  ∀ sz : Nat, Met l y ws rm (va_Pc av (gj_pre D cl tys w0 sz)) (va_Qv K (gj_at D cl tys wof (va_A w0 sz)) (va_A w0 sz)) mc ms (va_A w0 sz)
theorem gj_blind {D : va_G} {cl : List vw_C} {tys : List (ClassId × FieldType)} {w0 : va_W} {sz : Nat} {av : List Value} : FrameBlind (va_Pc av (gj_pre D cl tys w0 sz)) := fun a U g mk q => by
  obtain ⟨q0, q1, qP, qK, qD, qN⟩ := q
  exact ⟨q0, q1, qP, va_K.moved (u := U) (U := U.calling g mk a) (Vm.Alike.refl U.vm) qK, qD, gj_N.same (s := U) (U := U.calling g mk a) rfl qN⟩
/-- a part of a world -/
theorem gj_subP {D : va_G} {cl : List vw_C} {ws ws' : va_W} {H : Heap} (hP : va_P D cl ws H) (is : List Nat) (hs : is.map (fun i => ws[i]?) = ws'.map some) : va_P D cl ws' H := by
  intro k q hk
  have h1 : (is.map (fun i => ws[i]?))[k]? = some (some q) := by rw [hs, List.getElem?_map, hk]; rfl
  rw [List.getElem?_map] at h1
  cases hi : is[k]? with
  | none => rw [hi] at h1; cases h1
  | some i => rw [hi] at h1; exact hP i q (Option.some.inj h1)
theorem gj_own {ws : va_W} {A : Nat → Prop} {H0 H : Heap} {locs : List Loc} (hD : va_D A ws) (hS : va_S A H0 H locs) (hA : ∀ q : Nat, H0.size ≤ q → A q) : ∀ q : Nat, va_A ws H.size q → A q := fun q h => by
  rcases h with ⟨k, e, h⟩ | h
  · exact hD.2 k (q, e) h
  · exact hA q (Nat.le_trans hS.1 h)
section GJ
variable {p : Program} {l : Launch} {e : Env} {R : Room} {s : State} {m : MethodId} {args : Array Value} {below : List Frame} {meth : Method} {c : Code} {cells slots : Nat} {Q : State → Prop} {D : va_G} {cl : List vw_C} {tys : List (ClassId × FieldType)} {A : Nat → Prop} {cc : ByteArray} {nL pc : Nat} {own : String} {Ts : List Cond} {L L' : List (Nat × Value)} {st : List Value} {w w' : va_W}
theorem gj_iconst (X : gj_X p s m c args cc nL own Ts D cl tys) {n : Int} {v : Int32} (hdg : decode cc pc = .ok (.iconst n, 1)) (hval : Int32.ofInt n = v) (k : gj_J p l e R s m args below meth c cells slots Q D cl A nL (pc + 1) (L) (.int v :: st) (w)) : gj_J p l e R s m args below meth c cells slots Q D cl A nL (pc) (L) (st) (w) := fun H locs ls hP hD hS hv => lv_iconst X.1 X.2.1 hdg hval (k H locs ls hP hD hS hv)
theorem gj_bipush (X : gj_X p s m c args cc nL own Ts D cl tys) {n : Int} {v : Int32} (hdg : decode cc pc = .ok (.bipush n, 2)) (hval : (Int8.ofInt n).toInt32 = v) (k : gj_J p l e R s m args below meth c cells slots Q D cl A nL (pc + 2) (L) (.int v :: st) (w)) : gj_J p l e R s m args below meth c cells slots Q D cl A nL (pc) (L) (st) (w) := fun H locs ls hP hD hS hv => lv_bipush X.1 X.2.1 hdg hval (k H locs ls hP hD hS hv)
theorem gj_sipush (X : gj_X p s m c args cc nL own Ts D cl tys) {n : Int} {v : Int32} (hdg : decode cc pc = .ok (.sipush n, 3)) (hval : (Int16.ofInt n).toInt32 = v) (k : gj_J p l e R s m args below meth c cells slots Q D cl A nL (pc + 3) (L) (.int v :: st) (w)) : gj_J p l e R s m args below meth c cells slots Q D cl A nL (pc) (L) (st) (w) := fun H locs ls hP hD hS hv => lv_sipush X.1 X.2.1 hdg hval (k H locs ls hP hD hS hv)
theorem gj_lconst (X : gj_X p s m c args cc nL own Ts D cl tys) {n : Fin 2} {v : Int64} (hdg : decode cc pc = .ok (.lconst n, 1)) (hval : Int64.ofNat (n : Nat) = v) (k : gj_J p l e R s m args below meth c cells slots Q D cl A nL (pc + 1) (L) (.long v :: st) (w)) : gj_J p l e R s m args below meth c cells slots Q D cl A nL (pc) (L) (st) (w) := fun H locs ls hP hD hS hv => lv_lconst X.1 X.2.1 hdg hval (k H locs ls hP hD hS hv)
theorem gj_ldc (X : gj_X p s m c args cc nL own Ts D cl tys) {index : Nat} {v : Int32} (hw : Cond.constant own index v ∈ Ts) (hdg : decode cc pc = .ok (.ldc index, 2)) (k : gj_J p l e R s m args below meth c cells slots Q D cl A nL (pc + 2) (L) (.int v :: st) (w)) : gj_J p l e R s m args below meth c cells slots Q D cl A nL (pc) (L) (st) (w) := fun H locs ls hP hD hS hv => lv_ldc X.1 X.2.1 X.2.2.2.1 (X.2.2.2.2.1 _ hw) hdg (k H locs ls hP hD hS hv)
theorem gj_ldcw (X : gj_X p s m c args cc nL own Ts D cl tys) {index : Nat} {v : Int32} (hw : Cond.constant own index v ∈ Ts) (hdg : decode cc pc = .ok (.ldc_w index, 3)) (k : gj_J p l e R s m args below meth c cells slots Q D cl A nL (pc + 3) (L) (.int v :: st) (w)) : gj_J p l e R s m args below meth c cells slots Q D cl A nL (pc) (L) (st) (w) := fun H locs ls hP hD hS hv => lv_ldcw X.1 X.2.1 X.2.2.2.1 (X.2.2.2.2.1 _ hw) hdg (k H locs ls hP hD hS hv)
theorem gj_ldc2 (X : gj_X p s m c args cc nL own Ts D cl tys) {index : Nat} {v : Int64} (hw : Cond.constantLong own index v ∈ Ts) (hdg : decode cc pc = .ok (.ldc2_w index, 3)) (k : gj_J p l e R s m args below meth c cells slots Q D cl A nL (pc + 3) (L) (.long v :: st) (w)) : gj_J p l e R s m args below meth c cells slots Q D cl A nL (pc) (L) (st) (w) := fun H locs ls hP hD hS hv => lv_ldc2 X.1 X.2.1 X.2.2.2.1 (X.2.2.2.2.1 _ hw) hdg (k H locs ls hP hD hS hv)
theorem gj_iload_n (X : gj_X p s m c args cc nL own Ts D cl tys) {k : Fin 4} {i : Nat} {x : Int32} (hdg : decode cc pc = .ok (.iload_n k, 1)) (hi : (k : Nat) = i) (q : Nat) (hq : L[q]? = some (i, .int x)) (kk : gj_J p l e R s m args below meth c cells slots Q D cl A nL (pc + 1) (L) (.int x :: st) (w)) : gj_J p l e R s m args below meth c cells slots Q D cl A nL (pc) (L) (st) (w) := fun H locs ls hP hD hS hv => lv_iload_n X.1 X.2.1 hdg hi (lv_at hv q hq) (kk H locs ls hP hD hS hv)
theorem gj_iload (X : gj_X p s m c args cc nL own Ts D cl tys) {i : Nat} {x : Int32} (hdg : decode cc pc = .ok (.iload i, 2)) (q : Nat) (hq : L[q]? = some (i, .int x)) (kk : gj_J p l e R s m args below meth c cells slots Q D cl A nL (pc + 2) (L) (.int x :: st) (w)) : gj_J p l e R s m args below meth c cells slots Q D cl A nL (pc) (L) (st) (w) := fun H locs ls hP hD hS hv => lv_iload X.1 X.2.1 hdg (lv_at hv q hq) (kk H locs ls hP hD hS hv)
theorem gj_lload_n (X : gj_X p s m c args cc nL own Ts D cl tys) {k : Fin 4} {i : Nat} {x : Int64} (hdg : decode cc pc = .ok (.lload_n k, 1)) (hi : (k : Nat) = i) (q : Nat) (hq : L[q]? = some (i, .long x)) (kk : gj_J p l e R s m args below meth c cells slots Q D cl A nL (pc + 1) (L) (.long x :: st) (w)) : gj_J p l e R s m args below meth c cells slots Q D cl A nL (pc) (L) (st) (w) := fun H locs ls hP hD hS hv => lv_lload_n X.1 X.2.1 hdg hi (lv_at hv q hq) (kk H locs ls hP hD hS hv)
theorem gj_lload (X : gj_X p s m c args cc nL own Ts D cl tys) {i : Nat} {x : Int64} (hdg : decode cc pc = .ok (.lload i, 2)) (q : Nat) (hq : L[q]? = some (i, .long x)) (kk : gj_J p l e R s m args below meth c cells slots Q D cl A nL (pc + 2) (L) (.long x :: st) (w)) : gj_J p l e R s m args below meth c cells slots Q D cl A nL (pc) (L) (st) (w) := fun H locs ls hP hD hS hv => lv_lload X.1 X.2.1 hdg (lv_at hv q hq) (kk H locs ls hP hD hS hv)
theorem gj_aload_n (X : gj_X p s m c args cc nL own Ts D cl tys) {k : Fin 4} {i : Nat} {x : Nat} (hdg : decode cc pc = .ok (.aload_n k, 1)) (hi : (k : Nat) = i) (q : Nat) (hq : L[q]? = some (i, .ref x)) (kk : gj_J p l e R s m args below meth c cells slots Q D cl A nL (pc + 1) (L) (.ref x :: st) (w)) : gj_J p l e R s m args below meth c cells slots Q D cl A nL (pc) (L) (st) (w) := fun H locs ls hP hD hS hv => lv_aload_n X.1 X.2.1 hdg hi (lv_at hv q hq) (kk H locs ls hP hD hS hv)
theorem gj_aload (X : gj_X p s m c args cc nL own Ts D cl tys) {i : Nat} {x : Nat} (hdg : decode cc pc = .ok (.aload i, 2)) (q : Nat) (hq : L[q]? = some (i, .ref x)) (kk : gj_J p l e R s m args below meth c cells slots Q D cl A nL (pc + 2) (L) (.ref x :: st) (w)) : gj_J p l e R s m args below meth c cells slots Q D cl A nL (pc) (L) (st) (w) := fun H locs ls hP hD hS hv => lv_aload X.1 X.2.1 hdg (lv_at hv q hq) (kk H locs ls hP hD hS hv)
theorem gj_istore_n (X : gj_X p s m c args cc nL own Ts D cl tys) {k : Fin 4} {i : Nat} {x : Int32} (hdg : decode cc pc = .ok (.istore_n k, 1)) (hi : (k : Nat) = i) (hn : i < nL) (hl : (i, Value.int x) :: L.filter (fun q => !(q.1 == i) && !(q.1 + 1 == i && q.2.category == 2)) = L') (kk : gj_J p l e R s m args below meth c cells slots Q D cl A nL (pc + 1) (L') (st) (w)) : gj_J p l e R s m args below meth c cells slots Q D cl A nL (pc) (L) (.int x :: st) (w) := fun H locs ls hP hD hS hv => lv_istore_n X.1 X.2.1 hdg hi hv hn hl (fun ls' hv' => kk H locs ls' hP hD hS hv')
theorem gj_istore (X : gj_X p s m c args cc nL own Ts D cl tys) {i : Nat} {x : Int32} (hdg : decode cc pc = .ok (.istore i, 2)) (hn : i < nL) (hl : (i, Value.int x) :: L.filter (fun q => !(q.1 == i) && !(q.1 + 1 == i && q.2.category == 2)) = L') (kk : gj_J p l e R s m args below meth c cells slots Q D cl A nL (pc + 2) (L') (st) (w)) : gj_J p l e R s m args below meth c cells slots Q D cl A nL (pc) (L) (.int x :: st) (w) := fun H locs ls hP hD hS hv => lv_istore X.1 X.2.1 hdg hv hn hl (fun ls' hv' => kk H locs ls' hP hD hS hv')
theorem gj_lstore_n (X : gj_X p s m c args cc nL own Ts D cl tys) {k : Fin 4} {i : Nat} {x : Int64} (hdg : decode cc pc = .ok (.lstore_n k, 1)) (hi : (k : Nat) = i) (hn : i + 1 < nL) (hl : (i, Value.long x) :: L.filter (fun q => !(q.1 == i) && (!(q.1 == i + 1) && !(q.1 + 1 == i && q.2.category == 2))) = L') (kk : gj_J p l e R s m args below meth c cells slots Q D cl A nL (pc + 1) (L') (st) (w)) : gj_J p l e R s m args below meth c cells slots Q D cl A nL (pc) (L) (.long x :: st) (w) := fun H locs ls hP hD hS hv => lv_lstore_n X.1 X.2.1 hdg hi hv hn hl (fun ls' hv' => kk H locs ls' hP hD hS hv')
theorem gj_lstore (X : gj_X p s m c args cc nL own Ts D cl tys) {i : Nat} {x : Int64} (hdg : decode cc pc = .ok (.lstore i, 2)) (hn : i + 1 < nL) (hl : (i, Value.long x) :: L.filter (fun q => !(q.1 == i) && (!(q.1 == i + 1) && !(q.1 + 1 == i && q.2.category == 2))) = L') (kk : gj_J p l e R s m args below meth c cells slots Q D cl A nL (pc + 2) (L') (st) (w)) : gj_J p l e R s m args below meth c cells slots Q D cl A nL (pc) (L) (.long x :: st) (w) := fun H locs ls hP hD hS hv => lv_lstore X.1 X.2.1 hdg hv hn hl (fun ls' hv' => kk H locs ls' hP hD hS hv')
theorem gj_astore_n (X : gj_X p s m c args cc nL own Ts D cl tys) {k : Fin 4} {i : Nat} {x : Nat} (hdg : decode cc pc = .ok (.astore_n k, 1)) (hi : (k : Nat) = i) (hn : i < nL) (hl : (i, Value.ref x) :: L.filter (fun q => !(q.1 == i) && !(q.1 + 1 == i && q.2.category == 2)) = L') (kk : gj_J p l e R s m args below meth c cells slots Q D cl A nL (pc + 1) (L') (st) (w)) : gj_J p l e R s m args below meth c cells slots Q D cl A nL (pc) (L) (.ref x :: st) (w) := fun H locs ls hP hD hS hv => lv_astore_n X.1 X.2.1 hdg hi hv hn hl (fun ls' hv' => kk H locs ls' hP hD hS hv')
theorem gj_astore (X : gj_X p s m c args cc nL own Ts D cl tys) {i : Nat} {x : Nat} (hdg : decode cc pc = .ok (.astore i, 2)) (hn : i < nL) (hl : (i, Value.ref x) :: L.filter (fun q => !(q.1 == i) && !(q.1 + 1 == i && q.2.category == 2)) = L') (kk : gj_J p l e R s m args below meth c cells slots Q D cl A nL (pc + 2) (L') (st) (w)) : gj_J p l e R s m args below meth c cells slots Q D cl A nL (pc) (L) (.ref x :: st) (w) := fun H locs ls hP hD hS hv => lv_astore X.1 X.2.1 hdg hv hn hl (fun ls' hv' => kk H locs ls' hP hD hS hv')
theorem gj_iinc (X : gj_X p s m c args cc nL own Ts D cl tys) {i : Nat} {n : Int} {x v : Int32} (hdg : decode cc pc = .ok (.iinc i n, 3)) (q : Nat) (hq : L[q]? = some (i, .int x)) (hx : x + Int32.ofInt n = v) (hn : i < nL) (hl : (i, Value.int v) :: L.filter (fun q => !(q.1 == i) && !(q.1 + 1 == i && q.2.category == 2)) = L') (kk : gj_J p l e R s m args below meth c cells slots Q D cl A nL (pc + 3) (L') (st) (w)) : gj_J p l e R s m args below meth c cells slots Q D cl A nL (pc) (L) (st) (w) := fun H locs ls hP hD hS hv => lv_iinc X.1 X.2.1 hdg hv (k := q) hq hx hn hl (fun ls' hv' => kk H locs ls' hP hD hS hv')
/-- fewer locals, or in another order -/
theorem gj_loc (ks : List Nat) (hl : lv_pick L ks = L') (kk : gj_J p l e R s m args below meth c cells slots Q D cl A nL (pc) (L') (st) (w)) : gj_J p l e R s m args below meth c cells slots Q D cl A nL (pc) (L) (st) (w) := fun H locs ls hP hD hS hv => kk H locs ls hP hD hS (lv_sub hv ks hl)
theorem gj_iadd (X : gj_X p s m c args cc nL own Ts D cl tys) {x y : Int32} (hdg : decode cc pc = .ok (.iadd, 1)) (k : gj_J p l e R s m args below meth c cells slots Q D cl A nL (pc + 1) (L) (.int (x + y) :: st) (w)) : gj_J p l e R s m args below meth c cells slots Q D cl A nL (pc) (L) (.int y :: .int x :: st) (w) := fun H locs ls hP hD hS hv => lv_iadd X.1 X.2.1 hdg (k H locs ls hP hD hS hv)
theorem gj_isub (X : gj_X p s m c args cc nL own Ts D cl tys) {x y : Int32} (hdg : decode cc pc = .ok (.isub, 1)) (k : gj_J p l e R s m args below meth c cells slots Q D cl A nL (pc + 1) (L) (.int (x - y) :: st) (w)) : gj_J p l e R s m args below meth c cells slots Q D cl A nL (pc) (L) (.int y :: .int x :: st) (w) := fun H locs ls hP hD hS hv => lv_isub X.1 X.2.1 hdg (k H locs ls hP hD hS hv)
theorem gj_imul (X : gj_X p s m c args cc nL own Ts D cl tys) {x y : Int32} (hdg : decode cc pc = .ok (.imul, 1)) (k : gj_J p l e R s m args below meth c cells slots Q D cl A nL (pc + 1) (L) (.int (x * y) :: st) (w)) : gj_J p l e R s m args below meth c cells slots Q D cl A nL (pc) (L) (.int y :: .int x :: st) (w) := fun H locs ls hP hD hS hv => lv_imul X.1 X.2.1 hdg (k H locs ls hP hD hS hv)
theorem gj_iand (X : gj_X p s m c args cc nL own Ts D cl tys) {x y : Int32} (hdg : decode cc pc = .ok (.iand, 1)) (k : gj_J p l e R s m args below meth c cells slots Q D cl A nL (pc + 1) (L) (.int (x &&& y) :: st) (w)) : gj_J p l e R s m args below meth c cells slots Q D cl A nL (pc) (L) (.int y :: .int x :: st) (w) := fun H locs ls hP hD hS hv => lv_iand X.1 X.2.1 hdg (k H locs ls hP hD hS hv)
theorem gj_ior (X : gj_X p s m c args cc nL own Ts D cl tys) {x y : Int32} (hdg : decode cc pc = .ok (.ior, 1)) (k : gj_J p l e R s m args below meth c cells slots Q D cl A nL (pc + 1) (L) (.int (x ||| y) :: st) (w)) : gj_J p l e R s m args below meth c cells slots Q D cl A nL (pc) (L) (.int y :: .int x :: st) (w) := fun H locs ls hP hD hS hv => lv_ior X.1 X.2.1 hdg (k H locs ls hP hD hS hv)
theorem gj_ixor (X : gj_X p s m c args cc nL own Ts D cl tys) {x y : Int32} (hdg : decode cc pc = .ok (.ixor, 1)) (k : gj_J p l e R s m args below meth c cells slots Q D cl A nL (pc + 1) (L) (.int (x ^^^ y) :: st) (w)) : gj_J p l e R s m args below meth c cells slots Q D cl A nL (pc) (L) (.int y :: .int x :: st) (w) := fun H locs ls hP hD hS hv => lv_ixor X.1 X.2.1 hdg (k H locs ls hP hD hS hv)
theorem gj_ishl (X : gj_X p s m c args cc nL own Ts D cl tys) {x y : Int32} (hdg : decode cc pc = .ok (.ishl, 1)) (k : gj_J p l e R s m args below meth c cells slots Q D cl A nL (pc + 1) (L) (.int (x <<< (y &&& 31)) :: st) (w)) : gj_J p l e R s m args below meth c cells slots Q D cl A nL (pc) (L) (.int y :: .int x :: st) (w) := fun H locs ls hP hD hS hv => lv_ishl X.1 X.2.1 hdg (k H locs ls hP hD hS hv)
theorem gj_ishr (X : gj_X p s m c args cc nL own Ts D cl tys) {x y : Int32} (hdg : decode cc pc = .ok (.ishr, 1)) (k : gj_J p l e R s m args below meth c cells slots Q D cl A nL (pc + 1) (L) (.int (x >>> (y &&& 31)) :: st) (w)) : gj_J p l e R s m args below meth c cells slots Q D cl A nL (pc) (L) (.int y :: .int x :: st) (w) := fun H locs ls hP hD hS hv => lv_ishr X.1 X.2.1 hdg (k H locs ls hP hD hS hv)
theorem gj_ladd (X : gj_X p s m c args cc nL own Ts D cl tys) {x y : Int64} (hdg : decode cc pc = .ok (.ladd, 1)) (k : gj_J p l e R s m args below meth c cells slots Q D cl A nL (pc + 1) (L) (.long (x + y) :: st) (w)) : gj_J p l e R s m args below meth c cells slots Q D cl A nL (pc) (L) (.long y :: .long x :: st) (w) := fun H locs ls hP hD hS hv => lv_ladd X.1 X.2.1 hdg (k H locs ls hP hD hS hv)
theorem gj_lsub (X : gj_X p s m c args cc nL own Ts D cl tys) {x y : Int64} (hdg : decode cc pc = .ok (.lsub, 1)) (k : gj_J p l e R s m args below meth c cells slots Q D cl A nL (pc + 1) (L) (.long (x - y) :: st) (w)) : gj_J p l e R s m args below meth c cells slots Q D cl A nL (pc) (L) (.long y :: .long x :: st) (w) := fun H locs ls hP hD hS hv => lv_lsub X.1 X.2.1 hdg (k H locs ls hP hD hS hv)
theorem gj_lmul (X : gj_X p s m c args cc nL own Ts D cl tys) {x y : Int64} (hdg : decode cc pc = .ok (.lmul, 1)) (k : gj_J p l e R s m args below meth c cells slots Q D cl A nL (pc + 1) (L) (.long (x * y) :: st) (w)) : gj_J p l e R s m args below meth c cells slots Q D cl A nL (pc) (L) (.long y :: .long x :: st) (w) := fun H locs ls hP hD hS hv => lv_lmul X.1 X.2.1 hdg (k H locs ls hP hD hS hv)
theorem gj_land (X : gj_X p s m c args cc nL own Ts D cl tys) {x y : Int64} (hdg : decode cc pc = .ok (.land, 1)) (k : gj_J p l e R s m args below meth c cells slots Q D cl A nL (pc + 1) (L) (.long (x &&& y) :: st) (w)) : gj_J p l e R s m args below meth c cells slots Q D cl A nL (pc) (L) (.long y :: .long x :: st) (w) := fun H locs ls hP hD hS hv => lv_land X.1 X.2.1 hdg (k H locs ls hP hD hS hv)
theorem gj_lor (X : gj_X p s m c args cc nL own Ts D cl tys) {x y : Int64} (hdg : decode cc pc = .ok (.lor, 1)) (k : gj_J p l e R s m args below meth c cells slots Q D cl A nL (pc + 1) (L) (.long (x ||| y) :: st) (w)) : gj_J p l e R s m args below meth c cells slots Q D cl A nL (pc) (L) (.long y :: .long x :: st) (w) := fun H locs ls hP hD hS hv => lv_lor X.1 X.2.1 hdg (k H locs ls hP hD hS hv)
theorem gj_lxor (X : gj_X p s m c args cc nL own Ts D cl tys) {x y : Int64} (hdg : decode cc pc = .ok (.lxor, 1)) (k : gj_J p l e R s m args below meth c cells slots Q D cl A nL (pc + 1) (L) (.long (x ^^^ y) :: st) (w)) : gj_J p l e R s m args below meth c cells slots Q D cl A nL (pc) (L) (.long y :: .long x :: st) (w) := fun H locs ls hP hD hS hv => lv_lxor X.1 X.2.1 hdg (k H locs ls hP hD hS hv)
theorem gj_idiv (X : gj_X p s m c args cc nL own Ts D cl tys) {x y : Int32} (hdg : decode cc pc = .ok (.idiv, 1)) (hne : ¬ y = 0) (k : gj_J p l e R s m args below meth c cells slots Q D cl A nL (pc + 1) (L) (.int (x / y) :: st) (w)) : gj_J p l e R s m args below meth c cells slots Q D cl A nL (pc) (L) (.int y :: .int x :: st) (w) := fun H locs ls hP hD hS hv => lv_idiv X.1 X.2.1 hdg hne (k H locs ls hP hD hS hv)
theorem gj_irem (X : gj_X p s m c args cc nL own Ts D cl tys) {x y : Int32} (hdg : decode cc pc = .ok (.irem, 1)) (hne : ¬ y = 0) (k : gj_J p l e R s m args below meth c cells slots Q D cl A nL (pc + 1) (L) (.int (x - x / y * y) :: st) (w)) : gj_J p l e R s m args below meth c cells slots Q D cl A nL (pc) (L) (.int y :: .int x :: st) (w) := fun H locs ls hP hD hS hv => lv_irem X.1 X.2.1 hdg hne (k H locs ls hP hD hS hv)
theorem gj_ldiv (X : gj_X p s m c args cc nL own Ts D cl tys) {x y : Int64} (hdg : decode cc pc = .ok (.ldiv, 1)) (hne : ¬ y = 0) (k : gj_J p l e R s m args below meth c cells slots Q D cl A nL (pc + 1) (L) (.long (x / y) :: st) (w)) : gj_J p l e R s m args below meth c cells slots Q D cl A nL (pc) (L) (.long y :: .long x :: st) (w) := fun H locs ls hP hD hS hv => lv_ldiv X.1 X.2.1 hdg hne (k H locs ls hP hD hS hv)
theorem gj_lrem (X : gj_X p s m c args cc nL own Ts D cl tys) {x y : Int64} (hdg : decode cc pc = .ok (.lrem, 1)) (hne : ¬ y = 0) (k : gj_J p l e R s m args below meth c cells slots Q D cl A nL (pc + 1) (L) (.long (x - x / y * y) :: st) (w)) : gj_J p l e R s m args below meth c cells slots Q D cl A nL (pc) (L) (.long y :: .long x :: st) (w) := fun H locs ls hP hD hS hv => lv_lrem X.1 X.2.1 hdg hne (k H locs ls hP hD hS hv)
theorem gj_ineg (X : gj_X p s m c args cc nL own Ts D cl tys) {x : Int32} (hdg : decode cc pc = .ok (.ineg, 1)) (k : gj_J p l e R s m args below meth c cells slots Q D cl A nL (pc + 1) (L) (.int (-x) :: st) (w)) : gj_J p l e R s m args below meth c cells slots Q D cl A nL (pc) (L) (.int x :: st) (w) := fun H locs ls hP hD hS hv => lv_ineg X.1 X.2.1 hdg (k H locs ls hP hD hS hv)
theorem gj_i2l (X : gj_X p s m c args cc nL own Ts D cl tys) {x : Int32} (hdg : decode cc pc = .ok (.i2l, 1)) (k : gj_J p l e R s m args below meth c cells slots Q D cl A nL (pc + 1) (L) (.long x.toInt64 :: st) (w)) : gj_J p l e R s m args below meth c cells slots Q D cl A nL (pc) (L) (.int x :: st) (w) := fun H locs ls hP hD hS hv => lv_i2l X.1 X.2.1 hdg rfl (k H locs ls hP hD hS hv)
theorem gj_l2i (X : gj_X p s m c args cc nL own Ts D cl tys) {x : Int64} (hdg : decode cc pc = .ok (.l2i, 1)) (k : gj_J p l e R s m args below meth c cells slots Q D cl A nL (pc + 1) (L) (.int x.toInt32 :: st) (w)) : gj_J p l e R s m args below meth c cells slots Q D cl A nL (pc) (L) (.long x :: st) (w) := fun H locs ls hP hD hS hv => lv_l2i X.1 X.2.1 hdg rfl (k H locs ls hP hD hS hv)
theorem gj_dup (X : gj_X p s m c args cc nL own Ts D cl tys) {va : Value} (hdg : decode cc pc = .ok (.dup, 1)) (h1 : va.category = 1) (k : gj_J p l e R s m args below meth c cells slots Q D cl A nL (pc + 1) (L) (va :: va :: st) (w)) : gj_J p l e R s m args below meth c cells slots Q D cl A nL (pc) (L) (va :: st) (w) := fun H locs ls hP hD hS hv => lv_dup X.1 X.2.1 hdg h1 (k H locs ls hP hD hS hv)
theorem gj_pop (X : gj_X p s m c args cc nL own Ts D cl tys) {va : Value} (hdg : decode cc pc = .ok (.pop, 1)) (h1 : va.category = 1) (k : gj_J p l e R s m args below meth c cells slots Q D cl A nL (pc + 1) (L) (st) (w)) : gj_J p l e R s m args below meth c cells slots Q D cl A nL (pc) (L) (va :: st) (w) := fun H locs ls hP hD hS hv => lv_pop X.1 X.2.1 hdg h1 (k H locs ls hP hD hS hv)
theorem gj_pop2 (X : gj_X p s m c args cc nL own Ts D cl tys) {va : Value} (hdg : decode cc pc = .ok (.pop2, 1)) (h1 : va.category = 2) (k : gj_J p l e R s m args below meth c cells slots Q D cl A nL (pc + 1) (L) (st) (w)) : gj_J p l e R s m args below meth c cells slots Q D cl A nL (pc) (L) (va :: st) (w) := fun H locs ls hP hD hS hv => lv_pop2_2 X.1 X.2.1 hdg h1 (k H locs ls hP hD hS hv)
theorem gj_dup_x1 (X : gj_X p s m c args cc nL own Ts D cl tys) {va vb : Value} (hdg : decode cc pc = .ok (.dup_x1, 1)) (h1 : va.category = 1) (h2 : vb.category = 1) (k : gj_J p l e R s m args below meth c cells slots Q D cl A nL (pc + 1) (L) (va :: vb :: va :: st) (w)) : gj_J p l e R s m args below meth c cells slots Q D cl A nL (pc) (L) (va :: vb :: st) (w) := fun H locs ls hP hD hS hv => lv_dup_x1 X.1 X.2.1 hdg h1 h2 (k H locs ls hP hD hS hv)
theorem gj_dup_x2 (X : gj_X p s m c args cc nL own Ts D cl tys) {va vb vd : Value} (hdg : decode cc pc = .ok (.dup_x2, 1)) (h1 : va.category = 1) (h2 : vb.category = 1) (h3 : vd.category = 1) (k : gj_J p l e R s m args below meth c cells slots Q D cl A nL (pc + 1) (L) (va :: vb :: vd :: va :: st) (w)) : gj_J p l e R s m args below meth c cells slots Q D cl A nL (pc) (L) (va :: vb :: vd :: st) (w) := fun H locs ls hP hD hS hv => lv_dup_x2 X.1 X.2.1 hdg h1 h2 h3 (k H locs ls hP hD hS hv)
theorem gj_dup2 (X : gj_X p s m c args cc nL own Ts D cl tys) {va vb : Value} (hdg : decode cc pc = .ok (.dup2, 1)) (h1 : va.category = 1) (h2 : vb.category = 1) (k : gj_J p l e R s m args below meth c cells slots Q D cl A nL (pc + 1) (L) (va :: vb :: va :: vb :: st) (w)) : gj_J p l e R s m args below meth c cells slots Q D cl A nL (pc) (L) (va :: vb :: st) (w) := fun H locs ls hP hD hS hv => lv_dup2_11 X.1 X.2.1 hdg h1 h2 (k H locs ls hP hD hS hv)
theorem gj_dup2l (X : gj_X p s m c args cc nL own Ts D cl tys) {va : Value} (hdg : decode cc pc = .ok (.dup2, 1)) (h1 : va.category = 2) (k : gj_J p l e R s m args below meth c cells slots Q D cl A nL (pc + 1) (L) (va :: va :: st) (w)) : gj_J p l e R s m args below meth c cells slots Q D cl A nL (pc) (L) (va :: st) (w) := fun H locs ls hP hD hS hv => lv_dup2_2 X.1 X.2.1 hdg h1 (k H locs ls hP hD hS hv)
theorem gj_dup2_x1 (X : gj_X p s m c args cc nL own Ts D cl tys) {va vb : Value} (hdg : decode cc pc = .ok (.dup2_x1, 1)) (h1 : va.category = 2) (h2 : vb.category = 1) (k : gj_J p l e R s m args below meth c cells slots Q D cl A nL (pc + 1) (L) (va :: vb :: va :: st) (w)) : gj_J p l e R s m args below meth c cells slots Q D cl A nL (pc) (L) (va :: vb :: st) (w) := fun H locs ls hP hD hS hv => lv_dup2_x1_2 X.1 X.2.1 hdg h1 h2 (k H locs ls hP hD hS hv)
theorem gj_dup2_x2 (X : gj_X p s m c args cc nL own Ts D cl tys) {va vb vd : Value} (hdg : decode cc pc = .ok (.dup2_x2, 1)) (h1 : va.category = 2) (h2 : vb.category = 1) (h3 : vd.category = 1) (k : gj_J p l e R s m args below meth c cells slots Q D cl A nL (pc + 1) (L) (va :: vb :: vd :: va :: st) (w)) : gj_J p l e R s m args below meth c cells slots Q D cl A nL (pc) (L) (va :: vb :: vd :: st) (w) := fun H locs ls hP hD hS hv => lv_dup2_x2_2 X.1 X.2.1 hdg h1 h2 h3 (k H locs ls hP hD hS hv)
theorem gj_if_eq (X : gj_X p s m c args cc nL own Ts D cl tys) {x : Int32} {off : Int} {tgt : Nat} (hdg : decode cc pc = .ok (.ifCond .eq off, 3)) (ht : (pc : Int) + off = (tgt : Int)) (kt : x = 0 → gj_J p l e R s m args below meth c cells slots Q D cl A nL (tgt) (L) (st) (w)) (kf : ¬ (x = 0) → gj_J p l e R s m args below meth c cells slots Q D cl A nL (pc + 3) (L) (st) (w)) : gj_J p l e R s m args below meth c cells slots Q D cl A nL (pc) (L) (.int x :: st) (w) := fun H locs ls hP hD hS hv => lv_if_eq X.1 X.2.1 hdg ht (fun z => kt z H locs ls hP hD hS hv) (fun z => kf z H locs ls hP hD hS hv)
theorem gj_if_ne (X : gj_X p s m c args cc nL own Ts D cl tys) {x : Int32} {off : Int} {tgt : Nat} (hdg : decode cc pc = .ok (.ifCond .ne off, 3)) (ht : (pc : Int) + off = (tgt : Int)) (kt : ¬ x = 0 → gj_J p l e R s m args below meth c cells slots Q D cl A nL (tgt) (L) (st) (w)) (kf : ¬ (¬ x = 0) → gj_J p l e R s m args below meth c cells slots Q D cl A nL (pc + 3) (L) (st) (w)) : gj_J p l e R s m args below meth c cells slots Q D cl A nL (pc) (L) (.int x :: st) (w) := fun H locs ls hP hD hS hv => lv_if_ne X.1 X.2.1 hdg ht (fun z => kt z H locs ls hP hD hS hv) (fun z => kf (fun q => q z) H locs ls hP hD hS hv)
theorem gj_if_lt (X : gj_X p s m c args cc nL own Ts D cl tys) {x : Int32} {off : Int} {tgt : Nat} (hdg : decode cc pc = .ok (.ifCond .lt off, 3)) (ht : (pc : Int) + off = (tgt : Int)) (kt : x < 0 → gj_J p l e R s m args below meth c cells slots Q D cl A nL (tgt) (L) (st) (w)) (kf : ¬ (x < 0) → gj_J p l e R s m args below meth c cells slots Q D cl A nL (pc + 3) (L) (st) (w)) : gj_J p l e R s m args below meth c cells slots Q D cl A nL (pc) (L) (.int x :: st) (w) := fun H locs ls hP hD hS hv => lv_if_lt X.1 X.2.1 hdg ht (fun z => kt z H locs ls hP hD hS hv) (fun z => kf z H locs ls hP hD hS hv)
theorem gj_if_ge (X : gj_X p s m c args cc nL own Ts D cl tys) {x : Int32} {off : Int} {tgt : Nat} (hdg : decode cc pc = .ok (.ifCond .ge off, 3)) (ht : (pc : Int) + off = (tgt : Int)) (kt : 0 ≤ x → gj_J p l e R s m args below meth c cells slots Q D cl A nL (tgt) (L) (st) (w)) (kf : ¬ (0 ≤ x) → gj_J p l e R s m args below meth c cells slots Q D cl A nL (pc + 3) (L) (st) (w)) : gj_J p l e R s m args below meth c cells slots Q D cl A nL (pc) (L) (.int x :: st) (w) := fun H locs ls hP hD hS hv => lv_if_ge X.1 X.2.1 hdg ht (fun z => kt z H locs ls hP hD hS hv) (fun z => kf z H locs ls hP hD hS hv)
theorem gj_if_gt (X : gj_X p s m c args cc nL own Ts D cl tys) {x : Int32} {off : Int} {tgt : Nat} (hdg : decode cc pc = .ok (.ifCond .gt off, 3)) (ht : (pc : Int) + off = (tgt : Int)) (kt : 0 < x → gj_J p l e R s m args below meth c cells slots Q D cl A nL (tgt) (L) (st) (w)) (kf : ¬ (0 < x) → gj_J p l e R s m args below meth c cells slots Q D cl A nL (pc + 3) (L) (st) (w)) : gj_J p l e R s m args below meth c cells slots Q D cl A nL (pc) (L) (.int x :: st) (w) := fun H locs ls hP hD hS hv => lv_if_gt X.1 X.2.1 hdg ht (fun z => kt z H locs ls hP hD hS hv) (fun z => kf z H locs ls hP hD hS hv)
theorem gj_if_le (X : gj_X p s m c args cc nL own Ts D cl tys) {x : Int32} {off : Int} {tgt : Nat} (hdg : decode cc pc = .ok (.ifCond .le off, 3)) (ht : (pc : Int) + off = (tgt : Int)) (kt : x ≤ 0 → gj_J p l e R s m args below meth c cells slots Q D cl A nL (tgt) (L) (st) (w)) (kf : ¬ (x ≤ 0) → gj_J p l e R s m args below meth c cells slots Q D cl A nL (pc + 3) (L) (st) (w)) : gj_J p l e R s m args below meth c cells slots Q D cl A nL (pc) (L) (.int x :: st) (w) := fun H locs ls hP hD hS hv => lv_if_le X.1 X.2.1 hdg ht (fun z => kt z H locs ls hP hD hS hv) (fun z => kf z H locs ls hP hD hS hv)
theorem gj_icmp_eq (X : gj_X p s m c args cc nL own Ts D cl tys) {x y : Int32} {off : Int} {tgt : Nat} (hdg : decode cc pc = .ok (.if_icmp .eq off, 3)) (ht : (pc : Int) + off = (tgt : Int)) (kt : x = y → gj_J p l e R s m args below meth c cells slots Q D cl A nL (tgt) (L) (st) (w)) (kf : ¬ (x = y) → gj_J p l e R s m args below meth c cells slots Q D cl A nL (pc + 3) (L) (st) (w)) : gj_J p l e R s m args below meth c cells slots Q D cl A nL (pc) (L) (.int y :: .int x :: st) (w) := fun H locs ls hP hD hS hv => lv_icmp_eq X.1 X.2.1 hdg ht (fun z => kt z H locs ls hP hD hS hv) (fun z => kf z H locs ls hP hD hS hv)
theorem gj_icmp_ne (X : gj_X p s m c args cc nL own Ts D cl tys) {x y : Int32} {off : Int} {tgt : Nat} (hdg : decode cc pc = .ok (.if_icmp .ne off, 3)) (ht : (pc : Int) + off = (tgt : Int)) (kt : ¬ x = y → gj_J p l e R s m args below meth c cells slots Q D cl A nL (tgt) (L) (st) (w)) (kf : ¬ (¬ x = y) → gj_J p l e R s m args below meth c cells slots Q D cl A nL (pc + 3) (L) (st) (w)) : gj_J p l e R s m args below meth c cells slots Q D cl A nL (pc) (L) (.int y :: .int x :: st) (w) := fun H locs ls hP hD hS hv => lv_icmp_ne X.1 X.2.1 hdg ht (fun z => kt z H locs ls hP hD hS hv) (fun z => kf (fun q => q z) H locs ls hP hD hS hv)
theorem gj_icmp_lt (X : gj_X p s m c args cc nL own Ts D cl tys) {x y : Int32} {off : Int} {tgt : Nat} (hdg : decode cc pc = .ok (.if_icmp .lt off, 3)) (ht : (pc : Int) + off = (tgt : Int)) (kt : x < y → gj_J p l e R s m args below meth c cells slots Q D cl A nL (tgt) (L) (st) (w)) (kf : ¬ (x < y) → gj_J p l e R s m args below meth c cells slots Q D cl A nL (pc + 3) (L) (st) (w)) : gj_J p l e R s m args below meth c cells slots Q D cl A nL (pc) (L) (.int y :: .int x :: st) (w) := fun H locs ls hP hD hS hv => lv_icmp_lt X.1 X.2.1 hdg ht (fun z => kt z H locs ls hP hD hS hv) (fun z => kf z H locs ls hP hD hS hv)
theorem gj_icmp_ge (X : gj_X p s m c args cc nL own Ts D cl tys) {x y : Int32} {off : Int} {tgt : Nat} (hdg : decode cc pc = .ok (.if_icmp .ge off, 3)) (ht : (pc : Int) + off = (tgt : Int)) (kt : y ≤ x → gj_J p l e R s m args below meth c cells slots Q D cl A nL (tgt) (L) (st) (w)) (kf : ¬ (y ≤ x) → gj_J p l e R s m args below meth c cells slots Q D cl A nL (pc + 3) (L) (st) (w)) : gj_J p l e R s m args below meth c cells slots Q D cl A nL (pc) (L) (.int y :: .int x :: st) (w) := fun H locs ls hP hD hS hv => lv_icmp_ge X.1 X.2.1 hdg ht (fun z => kt z H locs ls hP hD hS hv) (fun z => kf z H locs ls hP hD hS hv)
theorem gj_icmp_gt (X : gj_X p s m c args cc nL own Ts D cl tys) {x y : Int32} {off : Int} {tgt : Nat} (hdg : decode cc pc = .ok (.if_icmp .gt off, 3)) (ht : (pc : Int) + off = (tgt : Int)) (kt : y < x → gj_J p l e R s m args below meth c cells slots Q D cl A nL (tgt) (L) (st) (w)) (kf : ¬ (y < x) → gj_J p l e R s m args below meth c cells slots Q D cl A nL (pc + 3) (L) (st) (w)) : gj_J p l e R s m args below meth c cells slots Q D cl A nL (pc) (L) (.int y :: .int x :: st) (w) := fun H locs ls hP hD hS hv => lv_icmp_gt X.1 X.2.1 hdg ht (fun z => kt z H locs ls hP hD hS hv) (fun z => kf z H locs ls hP hD hS hv)
theorem gj_icmp_le (X : gj_X p s m c args cc nL own Ts D cl tys) {x y : Int32} {off : Int} {tgt : Nat} (hdg : decode cc pc = .ok (.if_icmp .le off, 3)) (ht : (pc : Int) + off = (tgt : Int)) (kt : x ≤ y → gj_J p l e R s m args below meth c cells slots Q D cl A nL (tgt) (L) (st) (w)) (kf : ¬ (x ≤ y) → gj_J p l e R s m args below meth c cells slots Q D cl A nL (pc + 3) (L) (st) (w)) : gj_J p l e R s m args below meth c cells slots Q D cl A nL (pc) (L) (.int y :: .int x :: st) (w) := fun H locs ls hP hD hS hv => lv_icmp_le X.1 X.2.1 hdg ht (fun z => kt z H locs ls hP hD hS hv) (fun z => kf z H locs ls hP hD hS hv)
/-- lcmp and the branch behind it -/
theorem gj_lcmp_eq (X : gj_X p s m c args cc nL own Ts D cl tys) {x y : Int64} {off : Int} {tgt : Nat} (hdg : decode cc pc = .ok (.lcmp, 1)) (hd2 : decode cc (pc + 1) = .ok (.ifCond .eq off, 3)) (ht : ((pc + 1 : Nat) : Int) + off = (tgt : Int)) (kt : x = y → gj_J p l e R s m args below meth c cells slots Q D cl A nL (tgt) (L) (st) (w)) (kf : ¬ (x = y) → gj_J p l e R s m args below meth c cells slots Q D cl A nL (pc + 1 + 3) (L) (st) (w)) : gj_J p l e R s m args below meth c cells slots Q D cl A nL (pc) (L) (.long y :: .long x :: st) (w) := fun H locs ls hP hD hS hv => W.lcmp X.1 X.2.1 hdg (lv_if_eq X.1 X.2.1 hd2 ht (fun z => kt ((lg_cmp_eq x y).mp z) H locs ls hP hD hS hv) (fun z => kf (fun q => z ((lg_cmp_eq x y).mpr q)) H locs ls hP hD hS hv))
/-- lcmp and the branch behind it -/
theorem gj_lcmp_ne (X : gj_X p s m c args cc nL own Ts D cl tys) {x y : Int64} {off : Int} {tgt : Nat} (hdg : decode cc pc = .ok (.lcmp, 1)) (hd2 : decode cc (pc + 1) = .ok (.ifCond .ne off, 3)) (ht : ((pc + 1 : Nat) : Int) + off = (tgt : Int)) (kt : ¬ x = y → gj_J p l e R s m args below meth c cells slots Q D cl A nL (tgt) (L) (st) (w)) (kf : ¬ (¬ x = y) → gj_J p l e R s m args below meth c cells slots Q D cl A nL (pc + 1 + 3) (L) (st) (w)) : gj_J p l e R s m args below meth c cells slots Q D cl A nL (pc) (L) (.long y :: .long x :: st) (w) := fun H locs ls hP hD hS hv => W.lcmp X.1 X.2.1 hdg (lv_if_ne X.1 X.2.1 hd2 ht (fun z => kt (fun q => z ((lg_cmp_eq x y).mpr q)) H locs ls hP hD hS hv) (fun z => kf (fun q => q ((lg_cmp_eq x y).mp z)) H locs ls hP hD hS hv))
/-- lcmp and the branch behind it -/
theorem gj_lcmp_lt (X : gj_X p s m c args cc nL own Ts D cl tys) {x y : Int64} {off : Int} {tgt : Nat} (hdg : decode cc pc = .ok (.lcmp, 1)) (hd2 : decode cc (pc + 1) = .ok (.ifCond .lt off, 3)) (ht : ((pc + 1 : Nat) : Int) + off = (tgt : Int)) (kt : x < y → gj_J p l e R s m args below meth c cells slots Q D cl A nL (tgt) (L) (st) (w)) (kf : ¬ (x < y) → gj_J p l e R s m args below meth c cells slots Q D cl A nL (pc + 1 + 3) (L) (st) (w)) : gj_J p l e R s m args below meth c cells slots Q D cl A nL (pc) (L) (.long y :: .long x :: st) (w) := fun H locs ls hP hD hS hv => W.lcmp X.1 X.2.1 hdg (lv_if_lt X.1 X.2.1 hd2 ht (fun z => kt ((lg_cmp_lt x y).mp z) H locs ls hP hD hS hv) (fun z => kf (fun q => z ((lg_cmp_lt x y).mpr q)) H locs ls hP hD hS hv))
/-- lcmp and the branch behind it -/
theorem gj_lcmp_ge (X : gj_X p s m c args cc nL own Ts D cl tys) {x y : Int64} {off : Int} {tgt : Nat} (hdg : decode cc pc = .ok (.lcmp, 1)) (hd2 : decode cc (pc + 1) = .ok (.ifCond .ge off, 3)) (ht : ((pc + 1 : Nat) : Int) + off = (tgt : Int)) (kt : y ≤ x → gj_J p l e R s m args below meth c cells slots Q D cl A nL (tgt) (L) (st) (w)) (kf : ¬ (y ≤ x) → gj_J p l e R s m args below meth c cells slots Q D cl A nL (pc + 1 + 3) (L) (st) (w)) : gj_J p l e R s m args below meth c cells slots Q D cl A nL (pc) (L) (.long y :: .long x :: st) (w) := fun H locs ls hP hD hS hv => W.lcmp X.1 X.2.1 hdg (lv_if_ge X.1 X.2.1 hd2 ht (fun z => kt ((lg_cmp_ge x y).mp z) H locs ls hP hD hS hv) (fun z => kf (fun q => z ((lg_cmp_ge x y).mpr q)) H locs ls hP hD hS hv))
/-- lcmp and the branch behind it -/
theorem gj_lcmp_gt (X : gj_X p s m c args cc nL own Ts D cl tys) {x y : Int64} {off : Int} {tgt : Nat} (hdg : decode cc pc = .ok (.lcmp, 1)) (hd2 : decode cc (pc + 1) = .ok (.ifCond .gt off, 3)) (ht : ((pc + 1 : Nat) : Int) + off = (tgt : Int)) (kt : y < x → gj_J p l e R s m args below meth c cells slots Q D cl A nL (tgt) (L) (st) (w)) (kf : ¬ (y < x) → gj_J p l e R s m args below meth c cells slots Q D cl A nL (pc + 1 + 3) (L) (st) (w)) : gj_J p l e R s m args below meth c cells slots Q D cl A nL (pc) (L) (.long y :: .long x :: st) (w) := fun H locs ls hP hD hS hv => W.lcmp X.1 X.2.1 hdg (lv_if_gt X.1 X.2.1 hd2 ht (fun z => kt ((lg_cmp_gt x y).mp z) H locs ls hP hD hS hv) (fun z => kf (fun q => z ((lg_cmp_gt x y).mpr q)) H locs ls hP hD hS hv))
/-- lcmp and the branch behind it -/
theorem gj_lcmp_le (X : gj_X p s m c args cc nL own Ts D cl tys) {x y : Int64} {off : Int} {tgt : Nat} (hdg : decode cc pc = .ok (.lcmp, 1)) (hd2 : decode cc (pc + 1) = .ok (.ifCond .le off, 3)) (ht : ((pc + 1 : Nat) : Int) + off = (tgt : Int)) (kt : x ≤ y → gj_J p l e R s m args below meth c cells slots Q D cl A nL (tgt) (L) (st) (w)) (kf : ¬ (x ≤ y) → gj_J p l e R s m args below meth c cells slots Q D cl A nL (pc + 1 + 3) (L) (st) (w)) : gj_J p l e R s m args below meth c cells slots Q D cl A nL (pc) (L) (.long y :: .long x :: st) (w) := fun H locs ls hP hD hS hv => W.lcmp X.1 X.2.1 hdg (lv_if_le X.1 X.2.1 hd2 ht (fun z => kt ((lg_cmp_le x y).mp z) H locs ls hP hD hS hv) (fun z => kf (fun q => z ((lg_cmp_le x y).mpr q)) H locs ls hP hD hS hv))
theorem gj_goto (X : gj_X p s m c args cc nL own Ts D cl tys) {off : Int} {tgt : Nat} (hdg : decode cc pc = .ok (.goto off, 3)) (ht : (pc : Int) + off = (tgt : Int)) (k : gj_J p l e R s m args below meth c cells slots Q D cl A nL (tgt) (L) (st) (w)) : gj_J p l e R s m args below meth c cells slots Q D cl A nL (pc) (L) (st) (w) := fun H locs ls hP hD hS hv => lv_goto X.1 X.2.1 hdg ht (k H locs ls hP hD hS hv)
theorem gj_lookup (X : gj_X p s m c args cc nL own Ts D cl tys) {dflt : Int} {ps : Array (Int × Int)} {len : Nat} {x : Int32} {off : Int} {tgt : Nat} (hdg : decode cc pc = .ok (.lookupswitch dflt ps, len)) (hp : (ps.toList.zip (ps.toList.drop 1)).all (fun (a, next) => a.1 < next.1) = true) (ho : Op.lookupswitch.offset ps.toList dflt x.toInt = off) (ht : (pc : Int) + off = (tgt : Int)) (k : gj_J p l e R s m args below meth c cells slots Q D cl A nL (tgt) (L) (st) (w)) : gj_J p l e R s m args below meth c cells slots Q D cl A nL (pc) (L) (.int x :: st) (w) := fun H locs ls hP hD hS hv => lv_lookup X.1 X.2.1 hdg hp ho ht (k H locs ls hP hD hS hv)
theorem gj_tableOut (X : gj_X p s m c args cc nL own Ts D cl tys) {dflt lo hi : Int} {offs : Array Int} {len : Nat} {x : Int32} {tgt : Nat} (hdg : decode cc pc = .ok (.tableswitch dflt lo hi offs, len)) (h : x.toInt < lo ∨ hi < x.toInt) (ht : (pc : Int) + dflt = (tgt : Int)) (k : gj_J p l e R s m args below meth c cells slots Q D cl A nL (tgt) (L) (st) (w)) : gj_J p l e R s m args below meth c cells slots Q D cl A nL (pc) (L) (.int x :: st) (w) := fun H locs ls hP hD hS hv => lv_tableOut X.1 X.2.1 hdg h ht (k H locs ls hP hD hS hv)
theorem gj_tableIn (X : gj_X p s m c args cc nL own Ts D cl tys) {dflt lo hi : Int} {offs : Array Int} {len : Nat} {x : Int32} {off : Int} {tgt : Nat} (hdg : decode cc pc = .ok (.tableswitch dflt lo hi offs, len)) (h1 : ¬ x.toInt < lo) (h2 : ¬ hi < x.toInt) (ho : offs[(x.toInt - lo).toNat]? = some off) (ht : (pc : Int) + off = (tgt : Int)) (k : gj_J p l e R s m args below meth c cells slots Q D cl A nL (tgt) (L) (st) (w)) : gj_J p l e R s m args below meth c cells slots Q D cl A nL (pc) (L) (.int x :: st) (w) := fun H locs ls hP hD hS hv => lv_tableIn X.1 X.2.1 hdg h1 h2 ho ht (k H locs ls hP hD hS hv)
theorem gj_get (X : gj_X p s m c args cc nL own Ts D cl tys) {ref C : String} {T : u_T} {N ci index a : Nat} (hin : ∀ w ∈ u_ws C T N, w ∈ Ts) (q0 : Nat) {fs : List Value} (he : w[q0]? = some (a, .inr (ci, fs))) (hc : cl[ci]? = some (C, T, N)) (k : Nat) (hk : k < N) (hlink : Cond.fieldLink own index ref (T k).2.1 (T k).2.2.1 ∈ Ts) (hsame : ref = (T k).1) {v : Value} (hval : fs[k]? = some v) (hdg : decode cc pc = .ok (.getfield index, 3)) (kk : gj_J p l e R s m args below meth c cells slots Q D cl A nL (pc + 3) (L) (v :: st) (w)) : gj_J p l e R s m args below meth c cells slots Q D cl A nL (pc) (L) (.ref a :: st) (w) := fun H locs ls hP hD hS hv => va_get X.1 X.2.1 X.2.2.2.2.1 hin X.2.2.2.1 X.2.2.2.2.2.1 hP q0 he hc k hk (X.2.2.2.2.1 _ hlink) (fun x hx => by rw [hsame]; exact hx) hval hdg (kk H locs ls hP hD hS hv)
theorem gj_put (X : gj_X p s m c args cc nL own Ts D cl tys) {ref C : String} {T : u_T} {N ci index a : Nat} (hin : ∀ w ∈ u_ws C T N, w ∈ Ts) (ty0 : Nat → FieldType) (hty : ∀ k, k < N → parseFieldDescriptor (T k).2.2.1 = some (ty0 k)) (hnm : ∀ a, a < N → ∀ b, b < N → a ≠ b → (T a).2.1 ≠ (T b).2.1) (q0 : Nat) {fs : List Value} (he : w[q0]? = some (a, .inr (ci, fs))) (hc : cl[ci]? = some (C, T, N)) (k : Nat) (hk : k < N) (hlink : Cond.fieldLink own index ref (T k).2.1 (T k).2.2.1 ∈ Ts) (hsame : ref = (T k).1) (hfin : (T k).2.2.2 = false) {ty : FieldType} {v : Value} (hd : parseFieldDescriptor (T k).2.2.1 = some ty) (hn : narrow ty v = v) (hfit : fits ty v = true) (hl : k < fs.length) (hw : w.set q0 (a, .inr (ci, fs.set k v)) = w') (hdg : decode cc pc = .ok (.putfield index, 3)) (kk : gj_J p l e R s m args below meth c cells slots Q D cl A nL (pc + 3) (L) (st) (w')) : gj_J p l e R s m args below meth c cells slots Q D cl A nL (pc) (L) (v :: .ref a :: st) (w) := fun H locs ls hP hD hS hv => va_put X.1 X.2.1 X.2.2.2.2.1 hin ty0 hty hnm X.2.2.2.1 X.2.2.2.2.2.1 hP hD hS q0 he hc k hk (X.2.2.2.2.1 _ hlink) (fun x hx => by rw [hsame]; exact hx) hfin hd hn hfit hl hdg (fun H1 locs1 hP1 hD1 hS1 => kk H1 locs1 ls (hw ▸ hP1) (hw ▸ hD1) hS1 hv)
theorem gj_getN (X : gj_X p s m c args cc nL own Ts D cl tys) {ref C : String} {host : String} {T : u_T} {N ci index a : Nat} (hin : ∀ w ∈ u_ws C T N, w ∈ Ts) (q0 : Nat) {fs : List Value} (he : w[q0]? = some (a, .inr (ci, fs))) (hc : cl[ci]? = some (C, T, N)) (k : Nat) (hk : k < N) (hlink : Cond.fieldLinkNest own index ref (T k).2.1 (T k).2.2.1 host ∈ gj_nest) (hsame : ref = (T k).1) {v : Value} (hval : fs[k]? = some v) (hdg : decode cc pc = .ok (.getfield index, 3)) (kk : gj_J p l e R s m args below meth c cells slots Q D cl A nL (pc + 3) (L) (v :: st) (w)) : gj_J p l e R s m args below meth c cells slots Q D cl A nL (pc) (L) (.ref a :: st) (w) := fun H locs ls hP hD hS hv => va_getN X.1 X.2.1 X.2.2.2.2.1 hin X.2.2.2.1 X.2.2.2.2.2.1 hP q0 he hc k hk (va_Nw.use rfl (X.2.2.2.2.2.2 _ hlink)) (fun x hx => by rw [hsame]; exact hx) hval hdg (kk H locs ls hP hD hS hv)
theorem gj_putN (X : gj_X p s m c args cc nL own Ts D cl tys) {ref C : String} {host : String} {T : u_T} {N ci index a : Nat} (hin : ∀ w ∈ u_ws C T N, w ∈ Ts) (ty0 : Nat → FieldType) (hty : ∀ k, k < N → parseFieldDescriptor (T k).2.2.1 = some (ty0 k)) (hnm : ∀ a, a < N → ∀ b, b < N → a ≠ b → (T a).2.1 ≠ (T b).2.1) (q0 : Nat) {fs : List Value} (he : w[q0]? = some (a, .inr (ci, fs))) (hc : cl[ci]? = some (C, T, N)) (k : Nat) (hk : k < N) (hlink : Cond.fieldLinkNest own index ref (T k).2.1 (T k).2.2.1 host ∈ gj_nest) (hsame : ref = (T k).1) (hfin : (T k).2.2.2 = false) {ty : FieldType} {v : Value} (hd : parseFieldDescriptor (T k).2.2.1 = some ty) (hn : narrow ty v = v) (hfit : fits ty v = true) (hl : k < fs.length) (hw : w.set q0 (a, .inr (ci, fs.set k v)) = w') (hdg : decode cc pc = .ok (.putfield index, 3)) (kk : gj_J p l e R s m args below meth c cells slots Q D cl A nL (pc + 3) (L) (st) (w')) : gj_J p l e R s m args below meth c cells slots Q D cl A nL (pc) (L) (v :: .ref a :: st) (w) := fun H locs ls hP hD hS hv => va_putN X.1 X.2.1 X.2.2.2.2.1 hin ty0 hty hnm X.2.2.2.1 X.2.2.2.2.2.1 hP hD hS q0 he hc k hk (va_Nw.use rfl (X.2.2.2.2.2.2 _ hlink)) (fun x hx => by rw [hsame]; exact hx) hfin hd hn hfit hl hdg (fun H1 locs1 hP1 hD1 hS1 => kk H1 locs1 ls (hw ▸ hP1) (hw ▸ hD1) hS1 hv)
theorem gj_iald (X : gj_X p s m c args cc nL own Ts D cl tys) (q0 t0 : Nat) {cA : ClassId} {n a : Nat} {f : Nat → Int32} (ha : w[q0]? = some (a, .inl (cA, n, .inl f))) (ht : tys[t0]? = some (cA, .int)) {i : Int32} (hin : vp_in i n) (hdg : decode cc pc = .ok (.iaload, 1)) (kk : gj_J p l e R s m args below meth c cells slots Q D cl A nL (pc + 1) (L) (.int (f i.toNatClampNeg) :: st) (w)) : gj_J p l e R s m args below meth c cells slots Q D cl A nL (pc) (L) (.int i :: .ref a :: st) (w) := fun H locs ls hP hD hS hv => va_iald X.1 X.2.1 X.2.2.2.2.2.1 hP q0 t0 ha ht hin hdg (kk H locs ls hP hD hS hv)
theorem gj_iast (X : gj_X p s m c args cc nL own Ts D cl tys) (q0 t0 : Nat) {cA : ClassId} {n a : Nat} {f : Nat → Int32} (ha : w[q0]? = some (a, .inl (cA, n, .inl f))) (ht : tys[t0]? = some (cA, .int)) {i : Int32} {x : Int32} (hin : vp_in i n) (hw : w.set q0 (a, .inl (cA, n, .inl (upd f i.toNatClampNeg x))) = w') (hdg : decode cc pc = .ok (.iastore, 1)) (kk : gj_J p l e R s m args below meth c cells slots Q D cl A nL (pc + 1) (L) (st) (w')) : gj_J p l e R s m args below meth c cells slots Q D cl A nL (pc) (L) (.int x :: .int i :: .ref a :: st) (w) := fun H locs ls hP hD hS hv => va_iast X.1 X.2.1 X.2.2.2.2.2.1 hP hD hS q0 t0 ha ht hin hdg (fun H1 locs1 hP1 hD1 hS1 => kk H1 locs1 ls (hw ▸ hP1) (hw ▸ hD1) hS1 hv)
theorem gj_lald (X : gj_X p s m c args cc nL own Ts D cl tys) (q0 t0 : Nat) {cA : ClassId} {n a : Nat} {f : Nat → Int64} (ha : w[q0]? = some (a, .inl (cA, n, .inr (.inl f)))) (ht : tys[t0]? = some (cA, .long)) {i : Int32} (hin : vp_in i n) (hdg : decode cc pc = .ok (.laload, 1)) (kk : gj_J p l e R s m args below meth c cells slots Q D cl A nL (pc + 1) (L) (.long (f i.toNatClampNeg) :: st) (w)) : gj_J p l e R s m args below meth c cells slots Q D cl A nL (pc) (L) (.int i :: .ref a :: st) (w) := fun H locs ls hP hD hS hv => va_lald X.1 X.2.1 X.2.2.2.2.2.1 hP q0 t0 ha ht hin hdg (kk H locs ls hP hD hS hv)
theorem gj_last (X : gj_X p s m c args cc nL own Ts D cl tys) (q0 t0 : Nat) {cA : ClassId} {n a : Nat} {f : Nat → Int64} (ha : w[q0]? = some (a, .inl (cA, n, .inr (.inl f)))) (ht : tys[t0]? = some (cA, .long)) {i : Int32} {x : Int64} (hin : vp_in i n) (hw : w.set q0 (a, .inl (cA, n, .inr (.inl (vp_updL f i.toNatClampNeg x)))) = w') (hdg : decode cc pc = .ok (.lastore, 1)) (kk : gj_J p l e R s m args below meth c cells slots Q D cl A nL (pc + 1) (L) (st) (w')) : gj_J p l e R s m args below meth c cells slots Q D cl A nL (pc) (L) (.long x :: .int i :: .ref a :: st) (w) := fun H locs ls hP hD hS hv => va_last X.1 X.2.1 X.2.2.2.2.2.1 hP hD hS q0 t0 ha ht hin hdg (fun H1 locs1 hP1 hD1 hS1 => kk H1 locs1 ls (hw ▸ hP1) (hw ▸ hD1) hS1 hv)
theorem gj_alen (X : gj_X p s m c args cc nL own Ts D cl tys) (q0 t0 : Nat) {cA : ClassId} {x : vp_A} {a : Nat} (ha : w[q0]? = some (a, .inl (cA, x))) {ty : FieldType} (ht : tys[t0]? = some (cA, ty)) {v : Int32} (hx : Int32.ofNat x.1 = v) (hdg : decode cc pc = .ok (.arraylength, 1)) (kk : gj_J p l e R s m args below meth c cells slots Q D cl A nL (pc + 1) (L) (.int v :: st) (w)) : gj_J p l e R s m args below meth c cells slots Q D cl A nL (pc) (L) (.ref a :: st) (w) := fun H locs ls hP hD hS hv => va_alen X.1 X.2.1 X.2.2.2.2.2.1 hP q0 t0 ha ht hx hdg (kk H locs ls hP hD hS hv)
theorem gj_copyi (X : gj_X p s m c args cc nL own Ts D cl tys) {index : Nat} (w1 : Cond.methodLink own index arraycopyName ∈ Ts) (w2 : Cond.native arraycopyName ∈ Ts) (w3 : Cond.static arraycopyName ∈ Ts) (w4 : Cond.initialized "java/lang/System" ∈ Ts) (q0 q1 t0 t1 : Nat) {a a0 : Nat} {c0 c1 : ClassId} {n0 n1 : Nat} {f g : Nat → Int32} (ha0 : w[q0]? = some (a0, .inl (c0, n0, .inl f))) (ha1 : w[q1]? = some (a, .inl (c1, n1, .inl g))) (ht0 : tys[t0]? = some (c0, .int)) (ht1 : tys[t1]? = some (c1, .int)) {sp dp n : Int32} (h1 : ¬ sp < 0) (h2 : ¬ dp < 0) (h3 : ¬ n < 0) (h4 : sp.toNatClampNeg + n.toNatClampNeg ≤ n0) (h5 : dp.toNatClampNeg + n.toNatClampNeg ≤ n1) (hfr : 1 ≤ R.frames) (hlo : (st.map fun v => v.category).sum + (nativeFrameWords "java/lang/System" "arraycopy" 5 + 11) ≤ R.locals) (hw : w.set q1 (a, .inl (c1, n1, .inl (va_cpy f g sp.toNatClampNeg dp.toNatClampNeg n.toNatClampNeg))) = w') (hdg : decode cc pc = .ok (.invokestatic index, 3)) (kk : gj_J p l e R s m args below meth c cells slots Q D cl A nL (pc + 3) (L) (st) (w')) : gj_J p l e R s m args below meth c cells slots Q D cl A nL (pc) (L) (.int n :: .int dp :: .ref a :: .int sp :: .ref a0 :: st) (w) := fun H locs ls hP hD hS hv => va_copyi X.1 X.2.1 (X.2.2.1.trans hv.1.symm) X.2.2.2.1 (X.2.2.2.2.1 _ w1) (X.2.2.2.2.1 _ w2) (X.2.2.2.2.1 _ w3) (X.2.2.2.2.1 _ w4) X.2.2.2.2.2.1 hP hD hS q0 q1 t0 t1 ha0 ha1 ht0 ht1 rfl h1 h2 h3 h4 h5 (fun i hi => rfl) hfr hlo hdg (fun H1 locs1 hP1 hD1 hS1 => kk H1 locs1 ls (hw ▸ hP1) (hw ▸ hD1) hS1 hv)
theorem gj_mmaxl (X : gj_X p s m c args cc nL own Ts D cl tys) {index : Nat} (w1 : Cond.methodLink own index Lib.MathLoose.max_long.x ∈ Ts) (w2 : Cond.static Lib.MathLoose.max_long.x ∈ Ts) (w3 : Cond.initialized "java/lang/Math" ∈ Ts) (w4 : Cond.code Lib.MathLoose.max_long.x Lib.MathLoose.max_long.code 4 (some .long) ∈ Ts) (hfr : 1 ≤ R.frames) (hlo : (st.map fun v => v.category).sum + 15 ≤ R.locals) (hc : cells ≤ R.cells) (hs : slots ≤ R.slots) {x y : Int64} (hdg : decode cc pc = .ok (.invokestatic index, 3)) (kk : gj_J p l e R s m args below meth c cells slots Q D cl A nL (pc + 3) (L) (.long (if y < x then x else y) :: st) (w)) : gj_J p l e R s m args below meth c cells slots Q D cl A nL (pc) (L) (.long y :: .long x :: st) (w) := fun H locs ls hP hD hS hv => va_mmax_long X.1 X.2.1 (X.2.2.1.trans hv.1.symm) X.2.2.2.1 (X.2.2.2.2.1 _ w1) (X.2.2.2.2.1 _ w2) (X.2.2.2.2.1 _ w3) (X.2.2.2.2.1 _ w4) hfr hlo hc hs hdg (kk H locs ls hP hD hS hv)
theorem gj_mminl (X : gj_X p s m c args cc nL own Ts D cl tys) {index : Nat} (w1 : Cond.methodLink own index Lib.MathLoose.min_long.x ∈ Ts) (w2 : Cond.static Lib.MathLoose.min_long.x ∈ Ts) (w3 : Cond.initialized "java/lang/Math" ∈ Ts) (w4 : Cond.code Lib.MathLoose.min_long.x Lib.MathLoose.min_long.code 4 (some .long) ∈ Ts) (hfr : 1 ≤ R.frames) (hlo : (st.map fun v => v.category).sum + 15 ≤ R.locals) (hc : cells ≤ R.cells) (hs : slots ≤ R.slots) {x y : Int64} (hdg : decode cc pc = .ok (.invokestatic index, 3)) (kk : gj_J p l e R s m args below meth c cells slots Q D cl A nL (pc + 3) (L) (.long (if y < x then y else x) :: st) (w)) : gj_J p l e R s m args below meth c cells slots Q D cl A nL (pc) (L) (.long y :: .long x :: st) (w) := fun H locs ls hP hD hS hv => va_mmin_long X.1 X.2.1 (X.2.2.1.trans hv.1.symm) X.2.2.2.1 (X.2.2.2.2.1 _ w1) (X.2.2.2.2.1 _ w2) (X.2.2.2.2.1 _ w3) (X.2.2.2.2.1 _ w4) hfr hlo hc hs hdg (kk H locs ls hP hD hS hv)
theorem gj_objInit (X : gj_X p s m c args cc nL own Ts D cl tys) {idx a : Nat} (w1 : Cond.methodLink own idx objectInit ∈ Ts) (w2 : Cond.instanceMethod objectInit ∈ Ts) (w3 : Cond.code objectInit ⟨#[0xb1]⟩ 1 none ∈ Ts) (hdg : decode cc pc = .ok (.invokespecial idx, 3)) (hfr : 1 ≤ R.frames) (hlo : (st.map fun v => v.category).sum + 12 ≤ R.locals) (k : gj_J p l e R s m args below meth c cells slots Q D cl A nL (pc + 3) (L) (st) (w)) : gj_J p l e R s m args below meth c cells slots Q D cl A nL (pc) (L) (.ref a :: st) (w) := fun H locs ls hP hD hS hv => W.objInit (g := F0 m pc ls (.ref a :: st)) X.1 X.2.1 X.2.2.2.1 (X.2.2.2.2.1 _ w1) (X.2.2.2.2.1 _ w2) (X.2.2.2.2.1 _ w3) rfl (hv.1.trans X.2.2.1.symm) rfl hdg hfr (by show 2 * 0 + _ + 12 ≤ _; omega) (k H locs ls hP hD hS hv)
theorem gj_widen {k n : Nat} (h1 : cells ≤ k) (h2 : slots ≤ n) (kk : gj_J p l e R s m args below meth c k n Q D cl A nL (pc) (L) (st) (w)) : gj_J p l e R s m args below meth c cells slots Q D cl A nL (pc) (L) (st) (w) := fun H locs ls hP hD hS hv => W.widen h1 h2 (kk H locs ls hP hD hS hv)
theorem gj_new (X : gj_X p s m c args cc nL own Ts D cl tys) {C : String} {T : u_T} {N ci index : Nat} (hin : ∀ w ∈ u_ws C T N, w ∈ Ts) (ty : Nat → FieldType) (hty : ∀ k, k < N → parseFieldDescriptor (T k).2.2.1 = some (ty k)) (w1 : Cond.classLink own index C ∈ Ts) (w2 : Cond.instantiable C N ∈ Ts) (w3 : Cond.initialized C ∈ Ts) (hA : ∀ q : Nat, s.heap.size ≤ q → A q) (hc : cl[ci]? = some (C, T, N)) {fs : List Value} (hfs : ∀ j, j < N → defaultValue (ty j) = vp_V fs j) (hcells : cells + 1 ≤ R.cells) (hslots : slots + N ≤ R.slots) (hdg : decode cc pc = .ok (.new index, 3)) (kk : ∀ q : Nat, gj_J p l e R s m args below meth c (cells + 1) (slots + N) Q D cl A nL (pc + 3) (L) (.ref q :: st) (w ++ [(q, .inr (ci, fs))])) : gj_J p l e R s m args below meth c cells slots Q D cl A nL (pc) (L) (st) (w) := fun H locs ls hP hD hS hv => va_new X.1 X.2.1 X.2.2.2.2.1 hin ty hty X.2.2.2.1 (X.2.2.2.2.1 _ w1) (X.2.2.2.2.1 _ w2) (X.2.2.2.2.1 _ w3) X.2.2.2.2.2.1 hP hD hS hA hc hfs hcells hslots hdg (fun q H1 hP1 hD1 hS1 => kk q H1 locs ls hP1 hD1 hS1 hv)
theorem gj_putF (X : gj_X p s m c args cc nL own Ts D cl tys) {ref C : String} {T : u_T} {N ci index a : Nat} (hin : ∀ w ∈ u_ws C T N, w ∈ Ts) (ty0 : Nat → FieldType) (hty : ∀ k, k < N → parseFieldDescriptor (T k).2.2.1 = some (ty0 k)) (hnm : ∀ a, a < N → ∀ b, b < N → a ≠ b → (T a).2.1 ≠ (T b).2.1) (q0 : Nat) {fs : List Value} (he : w[q0]? = some (a, .inr (ci, fs))) (hc : cl[ci]? = some (C, T, N)) (k : Nat) (hk : k < N) (hlink : Cond.fieldLink own index ref (T k).2.1 (T k).2.2.1 ∈ Ts) (hsame : ref = (T k).1) (hfin : (T k).2.2.2 = true) (hini : meth.name = "<init>") (hdecl : (T k).1 = own) {ty : FieldType} {v : Value} (hd : parseFieldDescriptor (T k).2.2.1 = some ty) (hn : narrow ty v = v) (hfit : fits ty v = true) (hl : k < fs.length) (hw : w.set q0 (a, .inr (ci, fs.set k v)) = w') (hdg : decode cc pc = .ok (.putfield index, 3)) (kk : gj_J p l e R s m args below meth c cells slots Q D cl A nL (pc + 3) (L) (st) (w')) : gj_J p l e R s m args below meth c cells slots Q D cl A nL (pc) (L) (v :: .ref a :: st) (w) := fun H locs ls hP hD hS hv => va_putF X.1 X.2.1 X.2.2.2.2.1 hin ty0 hty hnm X.2.2.2.1 X.2.2.2.2.2.1 hP hD hS q0 he hc k hk (X.2.2.2.2.1 _ hlink) (fun x hx => by rw [hsame]; exact hx) hfin hini hdecl hd hn hfit hl hdg (fun H1 locs1 hP1 hD1 hS1 => kk H1 locs1 ls (hw ▸ hP1) (hw ▸ hD1) hS1 hv)
theorem gj_newaI (X : gj_X p s m c args cc nL own Ts D cl tys) {atype : ArrayType} (harr : Cond.arrayClass (newarray.typeOf atype) ∈ Ts) (hty : newarray.typeOf atype = .int) (t0 : Nat) {cA : ClassId} (ht : tys[t0]? = some (cA, .int)) (hA : ∀ q : Nat, s.heap.size ≤ q → A q) {n : Int32} {N' : Nat} (hn : ¬ n < 0) (hN : n.toNatClampNeg = N') (hbytes : N' * componentBytes .int ≤ 536870912) (hcells : cells + 1 ≤ R.cells) (hslots : slots + N' ≤ R.slots) (hdg : decode cc pc = .ok (.newarray atype, 2)) (kk : ∀ q : Nat, gj_J p l e R s m args below meth c (cells + 1) (slots + N') Q D cl A nL (pc + 2) (L) (.ref q :: st) (w ++ [(q, .inl (cA, N', .inl (fun _ => 0)))])) : gj_J p l e R s m args below meth c cells slots Q D cl A nL (pc) (L) (.int n :: st) (w) := by
  intro H locs ls hP hD hS hv
  refine va_newaK (g := F0 m pc ls (.int n :: st)) X.1 X.2.1 (X.2.2.2.2.1 _ harr) rfl hdg rfl hn hN (by rw [hty]; exact hbytes) hcells hslots rfl (fun H1 cB e1 z1 o1 hAr hNm => ?_)
  have hcA : s.vm.findClass ("[" ++ (newarray.typeOf atype).toString) = some cA := by
    rw [hty]
    exact (X.2.2.2.2.2.1.2 t0 _ ht).2
  have hcc : cB = cA := Option.some.inj (hNm.symm.trans hcA)
  subst hcc
  have hk : ∀ (k : Nat) (x : Nat × va_E), w[k]? = some x → H1[x.1]? = H[x.1]? := fun k x hx => o1 x.1 ((hP k x hx).lt)
  refine kk H.size H1 locs ls ((hP.kept hk).app (fun k x hx => ?_)) (hD.push hP rfl (hA _ hS.1)) ⟨Nat.le_trans hS.1 (by omega), fun x h1 h2 => (o1 x (Nat.lt_of_lt_of_le h1 hS.1)).trans (hS.2.1 x h1 h2), hS.2.2⟩ hv
  have hz : k < 1 := (List.getElem?_eq_some_iff.mp hx).1
  rw [show k = 0 by omega] at hx
  cases hx
  show H1[H.size]? = some (vp_cell _ _)
  rw [hty] at e1
  exact e1
theorem gj_newaL (X : gj_X p s m c args cc nL own Ts D cl tys) {atype : ArrayType} (harr : Cond.arrayClass (newarray.typeOf atype) ∈ Ts) (hty : newarray.typeOf atype = .long) (t0 : Nat) {cA : ClassId} (ht : tys[t0]? = some (cA, .long)) (hA : ∀ q : Nat, s.heap.size ≤ q → A q) {n : Int32} {N' : Nat} (hn : ¬ n < 0) (hN : n.toNatClampNeg = N') (hbytes : N' * componentBytes .long ≤ 536870912) (hcells : cells + 1 ≤ R.cells) (hslots : slots + N' ≤ R.slots) (hdg : decode cc pc = .ok (.newarray atype, 2)) (kk : ∀ q : Nat, gj_J p l e R s m args below meth c (cells + 1) (slots + N') Q D cl A nL (pc + 2) (L) (.ref q :: st) (w ++ [(q, .inl (cA, N', .inr (.inl (fun _ => 0))))])) : gj_J p l e R s m args below meth c cells slots Q D cl A nL (pc) (L) (.int n :: st) (w) := by
  intro H locs ls hP hD hS hv
  refine va_newaK (g := F0 m pc ls (.int n :: st)) X.1 X.2.1 (X.2.2.2.2.1 _ harr) rfl hdg rfl hn hN (by rw [hty]; exact hbytes) hcells hslots rfl (fun H1 cB e1 z1 o1 hAr hNm => ?_)
  have hcA : s.vm.findClass ("[" ++ (newarray.typeOf atype).toString) = some cA := by
    rw [hty]
    exact (X.2.2.2.2.2.1.2 t0 _ ht).2
  have hcc : cB = cA := Option.some.inj (hNm.symm.trans hcA)
  subst hcc
  have hk : ∀ (k : Nat) (x : Nat × va_E), w[k]? = some x → H1[x.1]? = H[x.1]? := fun k x hx => o1 x.1 ((hP k x hx).lt)
  refine kk H.size H1 locs ls ((hP.kept hk).app (fun k x hx => ?_)) (hD.push hP rfl (hA _ hS.1)) ⟨Nat.le_trans hS.1 (by omega), fun x h1 h2 => (o1 x (Nat.lt_of_lt_of_le h1 hS.1)).trans (hS.2.1 x h1 h2), hS.2.2⟩ hv
  have hz : k < 1 := (List.getElem?_eq_some_iff.mp hx).1
  rw [show k = 0 by omega] at hx
  cases hx
  show H1[H.size]? = some (vp_cell _ _)
  rw [hty] at e1
  exact e1
/-- the cells in another order, or fewer -/
theorem gj_sub (is : List Nat) (hn : va_nd is = true) (hs : is.map (fun i => w[i]?) = w'.map some) (kk : gj_J p l e R s m args below meth c cells slots Q D cl A nL (pc) (L) (st) (w')) : gj_J p l e R s m args below meth c cells slots Q D cl A nL (pc) (L) (st) (w) := fun H locs ls hP hD hS hv => kk H locs ls (gj_subP hP is hs) (hD.sub is hn hs) hS hv
theorem gj_topi {x : Int32} (k : ∀ y : Int32, y = x → gj_J p l e R s m args below meth c cells slots Q D cl A nL (pc) (L) (.int y :: st) (w)) : gj_J p l e R s m args below meth c cells slots Q D cl A nL (pc) (L) (.int x :: st) (w) := k x rfl
theorem gj_topl {x : Int64} (k : ∀ y : Int64, y = x → gj_J p l e R s m args below meth c cells slots Q D cl A nL (pc) (L) (.long y :: st) (w)) : gj_J p l e R s m args below meth c cells slots Q D cl A nL (pc) (L) (.long x :: st) (w) := k x rfl
theorem gj_topw {S : Type} {wof : S → va_W} {x : S} (k : ∀ y : S, y = x → gj_J p l e R s m args below meth c cells slots Q D cl A nL (pc) (L) (st) (wof y)) : gj_J p l e R s m args below meth c cells slots Q D cl A nL (pc) (L) (st) (wof x) := k x rfl
end GJ
theorem gj_nz {v : Int32} (h : v = 0 ∨ v = 1) : narrow .boolean (.int v) = .int v := by
  rcases h with rfl | rfl <;> rfl
section GJR
variable {S : Type} {p : Program} {l : Launch} {e : Env} {R : Room} {s : State} {m : MethodId} {args : Array Value} {below : List Frame} {meth : Method} {c : Code} {cells slots : Nat} {D : va_G} {cl : List vw_C} {tys : List (ClassId × FieldType)} {A : Nat → Prop} {cc : ByteArray} {nL pc : Nat} {own : String} {Ts : List Cond} {L : List (Nat × Value)} {wof : S → va_W} {u : S}
theorem gj_iret {K : Int32 → S → Prop} (X : gj_X p s m c args cc nL own Ts D cl tys) (hr : meth.sig.returnType = some .int) (hlk : meth.locks = false) {v : Int32} (hK : K v u) (hdg : decode cc pc = .ok (.ireturn, 1)) : gj_J p l e R s m args below meth c cells slots (MQ below (va_Qi K (gj_at D cl tys wof A) A) args s cells slots A) D cl A nL (pc) (L) ([.int v]) (wof u) := fun H locs ls hP hD hS hv => W.iret X.1 X.2.1 hr (fun t ht hW => ⟨⟨v, u, rfl, hK, by rw [ht]; exact hP, va_K.moved hW.alike X.2.2.2.2.2.1, hD⟩, hS.F ht⟩) hS.2.2 hdg hlk
theorem gj_zret {K : Int32 → S → Prop} (X : gj_X p s m c args cc nL own Ts D cl tys) (hr : meth.sig.returnType = some .boolean) (hlk : meth.locks = false) {v : Int32} (hn : narrow .boolean (.int v) = .int v) (hK : K v u) (hdg : decode cc pc = .ok (.ireturn, 1)) : gj_J p l e R s m args below meth c cells slots (MQ below (va_Qi K (gj_at D cl tys wof A) A) args s cells slots A) D cl A nL (pc) (L) ([.int v]) (wof u) := fun H locs ls hP hD hS hv => W.zret X.1 X.2.1 hr hn (fun t ht hW => ⟨⟨v, u, rfl, hK, by rw [ht]; exact hP, va_K.moved hW.alike X.2.2.2.2.2.1, hD⟩, hS.F ht⟩) hS.2.2 hdg hlk
theorem gj_lret {K : Int64 → S → Prop} (X : gj_X p s m c args cc nL own Ts D cl tys) (hr : meth.sig.returnType = some .long) (hlk : meth.locks = false) {v : Int64} (hK : K v u) (hdg : decode cc pc = .ok (.lreturn, 1)) : gj_J p l e R s m args below meth c cells slots (MQ below (va_Ql K (gj_at D cl tys wof A) A) args s cells slots A) D cl A nL (pc) (L) ([.long v]) (wof u) := fun H locs ls hP hD hS hv => W.lret X.1 X.2.1 hr (fun t ht hW => ⟨⟨v, u, rfl, hK, by rw [ht]; exact hP, va_K.moved hW.alike X.2.2.2.2.2.1, hD⟩, hS.F ht⟩) hS.2.2 hdg hlk
theorem gj_vret {K : S → Prop} (X : gj_X p s m c args cc nL own Ts D cl tys) (hr : meth.sig.returnType = none) (hlk : meth.locks = false) (hK : K u) (hdg : decode cc pc = .ok (.return_, 1)) : gj_J p l e R s m args below meth c cells slots (MQ below (va_Qv K (gj_at D cl tys wof A) A) args s cells slots A) D cl A nL (pc) (L) ([]) (wof u) := fun H locs ls hP hD hS hv => W.vret X.1 X.2.1 hr (fun t ht hW => ⟨⟨u, rfl, hK, by rw [ht]; exact hP, va_K.moved hW.alike X.2.2.2.2.2.1, hD⟩, hS.F ht⟩) hS.2.2 hdg hlk
end GJR
abbrev gj_ws (y : MethodName) (cc : ByteArray) (nL : Nat) (res : Option FieldType) : List Cond := Cond.code y cc nL res :: gj_tbl
theorem gj_enterI {S : Type} {l : Launch} {y : MethodName} {rm : Room} {D : va_G} {cl : List vw_C} {tys : List (ClassId × FieldType)} {w0 : va_W} {wof : S → va_W} {av : List Value} {K : Int32 → S → Prop} {cc : ByteArray} {nL : Nat} (hy : plainName y.cls = true) (hlen : (lg_sl av).length ≤ nL)
    (body : ∀ (p : Program) (e : Env) (s : State) (m : MethodId) (args : Array Value) (below : List Frame) (meth : Method) (c : Code) (A : Nat → Prop), gj_X p s m c args cc nL y.cls gj_tbl D cl tys → meth.sig.returnType = some .int → meth.locks = false → (∀ q : Nat, s.heap.size ≤ q → A q) → meth.name = y.name → gj_J p l e rm s m args below meth c 0 0 (MQ below (va_Qi K (gj_at D cl tys wof A) A) args s 0 0 A) D cl A nL 0 (lv_args 0 av) [] w0) : gj_MI l y (gj_ws y cc nL (some .int)) rm D cl tys w0 wof av K := by
  intro sz
  refine Met.ofW (cc := cc) (maxL := nL) (ret := some .int) hy rfl ?_
  intro p e s m args below meth c s₁ B hml hv
  obtain ⟨rfl, hsz, hP, hK, hD, hN⟩ := hv
  subst hsz
  have hl := lv_entry av hlen
  rw [lg_entry_eq]
  have hts := atoms_spec (ws := gj_ws y cc nL (some .int)) B.pre
  exact body p e s m _ below meth c (va_A w0 s.heap.size) ⟨B.exec, B.bytes, hml, findClass_of_methodNamed B.named, fun w hw => hts w (List.mem_cons_of_mem _ hw), hK, hN⟩ B.returns B.notSynchronized (fun q h => Or.inr h) (name_of_methodNamed B.named B.method).1 s.heap [] _ hP (hD.self) va_S.rf hl
theorem gj_enterZ {S : Type} {l : Launch} {y : MethodName} {rm : Room} {D : va_G} {cl : List vw_C} {tys : List (ClassId × FieldType)} {w0 : va_W} {wof : S → va_W} {av : List Value} {K : Int32 → S → Prop} {cc : ByteArray} {nL : Nat} (hy : plainName y.cls = true) (hlen : (lg_sl av).length ≤ nL)
    (body : ∀ (p : Program) (e : Env) (s : State) (m : MethodId) (args : Array Value) (below : List Frame) (meth : Method) (c : Code) (A : Nat → Prop), gj_X p s m c args cc nL y.cls gj_tbl D cl tys → meth.sig.returnType = some .boolean → meth.locks = false → (∀ q : Nat, s.heap.size ≤ q → A q) → meth.name = y.name → gj_J p l e rm s m args below meth c 0 0 (MQ below (va_Qi K (gj_at D cl tys wof A) A) args s 0 0 A) D cl A nL 0 (lv_args 0 av) [] w0) : gj_MI l y (gj_ws y cc nL (some .boolean)) rm D cl tys w0 wof av K := by
  intro sz
  refine Met.ofW (cc := cc) (maxL := nL) (ret := some .boolean) hy rfl ?_
  intro p e s m args below meth c s₁ B hml hv
  obtain ⟨rfl, hsz, hP, hK, hD, hN⟩ := hv
  subst hsz
  have hl := lv_entry av hlen
  rw [lg_entry_eq]
  have hts := atoms_spec (ws := gj_ws y cc nL (some .boolean)) B.pre
  exact body p e s m _ below meth c (va_A w0 s.heap.size) ⟨B.exec, B.bytes, hml, findClass_of_methodNamed B.named, fun w hw => hts w (List.mem_cons_of_mem _ hw), hK, hN⟩ B.returns B.notSynchronized (fun q h => Or.inr h) (name_of_methodNamed B.named B.method).1 s.heap [] _ hP (hD.self) va_S.rf hl
theorem gj_enterL {S : Type} {l : Launch} {y : MethodName} {rm : Room} {D : va_G} {cl : List vw_C} {tys : List (ClassId × FieldType)} {w0 : va_W} {wof : S → va_W} {av : List Value} {K : Int64 → S → Prop} {cc : ByteArray} {nL : Nat} (hy : plainName y.cls = true) (hlen : (lg_sl av).length ≤ nL)
    (body : ∀ (p : Program) (e : Env) (s : State) (m : MethodId) (args : Array Value) (below : List Frame) (meth : Method) (c : Code) (A : Nat → Prop), gj_X p s m c args cc nL y.cls gj_tbl D cl tys → meth.sig.returnType = some .long → meth.locks = false → (∀ q : Nat, s.heap.size ≤ q → A q) → meth.name = y.name → gj_J p l e rm s m args below meth c 0 0 (MQ below (va_Ql K (gj_at D cl tys wof A) A) args s 0 0 A) D cl A nL 0 (lv_args 0 av) [] w0) : gj_ML l y (gj_ws y cc nL (some .long)) rm D cl tys w0 wof av K := by
  intro sz
  refine Met.ofW (cc := cc) (maxL := nL) (ret := some .long) hy rfl ?_
  intro p e s m args below meth c s₁ B hml hv
  obtain ⟨rfl, hsz, hP, hK, hD, hN⟩ := hv
  subst hsz
  have hl := lv_entry av hlen
  rw [lg_entry_eq]
  have hts := atoms_spec (ws := gj_ws y cc nL (some .long)) B.pre
  exact body p e s m _ below meth c (va_A w0 s.heap.size) ⟨B.exec, B.bytes, hml, findClass_of_methodNamed B.named, fun w hw => hts w (List.mem_cons_of_mem _ hw), hK, hN⟩ B.returns B.notSynchronized (fun q h => Or.inr h) (name_of_methodNamed B.named B.method).1 s.heap [] _ hP (hD.self) va_S.rf hl
theorem gj_enterV {S : Type} {mc ms : Nat} {l : Launch} {y : MethodName} {rm : Room} {D : va_G} {cl : List vw_C} {tys : List (ClassId × FieldType)} {w0 : va_W} {wof : S → va_W} {av : List Value} {K : S → Prop} {cc : ByteArray} {nL : Nat} (hy : plainName y.cls = true) (hlen : (lg_sl av).length ≤ nL)
    (body : ∀ (p : Program) (e : Env) (s : State) (m : MethodId) (args : Array Value) (below : List Frame) (meth : Method) (c : Code) (A : Nat → Prop), gj_X p s m c args cc nL y.cls gj_tbl D cl tys → meth.sig.returnType = none → meth.locks = false → (∀ q : Nat, s.heap.size ≤ q → A q) → meth.name = y.name → gj_J p l e rm s m args below meth c 0 0 (MQ below (va_Qv K (gj_at D cl tys wof A) A) args s mc ms A) D cl A nL 0 (lv_args 0 av) [] w0) : gj_MV mc ms l y (gj_ws y cc nL (none)) rm D cl tys w0 wof av K := by
  intro sz
  refine Met.ofW (cc := cc) (maxL := nL) (ret := none) hy rfl ?_
  intro p e s m args below meth c s₁ B hml hv
  obtain ⟨rfl, hsz, hP, hK, hD, hN⟩ := hv
  subst hsz
  have hl := lv_entry av hlen
  rw [lg_entry_eq]
  have hts := atoms_spec (ws := gj_ws y cc nL (none)) B.pre
  exact body p e s m _ below meth c (va_A w0 s.heap.size) ⟨B.exec, B.bytes, hml, findClass_of_methodNamed B.named, fun w hw => hts w (List.mem_cons_of_mem _ hw), hK, hN⟩ B.returns B.notSynchronized (fun q h => Or.inr h) (name_of_methodNamed B.named B.method).1 s.heap [] _ hP (hD.self) va_S.rf hl
/-- every word of the list may be handed on -/
theorem gj_good : GoodIn gj_tbl gj_tbl := fun w h => ⟨h, good_of_word (List.mem_filter.mp h).2⟩
theorem gj_goodC {y : MethodName} {cc : ByteArray} {nL : Nat} {res : Option FieldType} (w : Cond.code y cc nL res ∈ gj_tbl) : GoodIn gj_tbl (gj_ws y cc nL res) := fun v h => (List.mem_cons.mp h).elim (fun q => q ▸ gj_good _ w) (gj_good v)
section GJW
variable {p : Program} {s : State} {m : MethodId} {c : Code} {args : Array Value} {cc : ByteArray} {nL : Nat} {own : String} {D : va_G} {cl : List vw_C} {tys : List (ClassId × FieldType)} {R rm : Room} {index n maxL : Nat} {y : MethodName} {bytes : ByteArray} {ret : Option FieldType} {C host : String} {mc ms : Nat}
def gj_hd (y : MethodName) (n : Nat) : Prop := y.cls ≠ "java/lang/invoke/MethodHandle" ∧ y.cls ≠ "java/lang/invoke/VarHandle" ∧ (parseMethodDescriptor y.desc).map (fun d => d.parameters.length) = some n
theorem gj_cwB (X : gj_X p s m c args cc nL own gj_tbl D cl tys) (w1 : Cond.code y bytes maxL ret ∈ gj_tbl) (w2 : Cond.initialized y.cls ∈ gj_tbl) (w3 : Cond.methodLink own index y ∈ gj_tbl) (hd : gj_hd y n) (hc : rm.cells = mc) (hs : rm.slots = ms) (hR : rm.frames + 1 ≤ R.frames ∧ 8 + (maxL + 11) + rm.locals ≤ R.locals) : CallB R s args own index y bytes maxL ret (gj_ws y bytes maxL ret) rm mc ms n := callB_of n X.2.2.2.2.1 (gj_goodC w1) rfl hc hs (X.2.2.2.2.1 _ w2) (X.2.2.2.2.1 _ w3) hd hR
theorem gj_cwN (X : gj_X p s m c args cc nL own gj_tbl D cl tys) (w1 : Cond.code y bytes maxL ret ∈ gj_tbl) (w2 : Cond.initialized y.cls ∈ gj_tbl) (w3 : Cond.methodLinkNest own index y host ∈ gj_nest) (hd : gj_hd y n) (hc : rm.cells = mc) (hs : rm.slots = ms) (hR : rm.frames + 1 ≤ R.frames ∧ 8 + (maxL + 11) + rm.locals ≤ R.locals) : va_CN R s args own index y host bytes maxL ret (gj_ws y bytes maxL ret) rm mc ms n := va_cnB n X.2.2.2.2.1 (gj_goodC w1) rfl hc hs (X.2.2.2.2.2.2 _ w3) (X.2.2.2.2.1 _ w2) hd hR
end GJW
section GJC
variable {S : Type} {p : Program} {l : Launch} {e : Env} {R : Room} {s : State} {m : MethodId} {args : Array Value} {below : List Frame} {meth : Method} {c : Code} {cells slots : Nat} {Q : State → Prop} {D : va_G} {cl : List vw_C} {tys : List (ClassId × FieldType)} {A : Nat → Prop} {cc : ByteArray} {nL pc : Nat} {own : String} {Ts : List Cond} {L : List (Nat × Value)} {st : List Value} {w w0 wr : va_W} {wof : S → va_W} {y : MethodName} {bytes : ByteArray} {maxL index n : Nat} {ret : Option FieldType} {ws : List Cond} {rm : Room}
theorem gj_callVI {K : Int32 → S → Prop} {C : String} {b : Nat} (X : gj_X p s m c args cc nL own Ts D cl tys) {As : List Value} (hM : gj_MI l y ws rm D cl tys w0 wof (.ref b :: As) K) (cw : CallW R s args own C index y bytes maxL ret ws rm 0 0 n) {ci : Nat} (q0 : Nat) {fs : List Value} {T : u_T} {N : Nat} (hrc : w0[q0]? = some (b, .inr (ci, fs))) (hcl : cl[ci]? = some (C, T, N)) (hA : ∀ q : Nat, s.heap.size ≤ q → A q) (hn : As.length = n) (hst : (st.map fun v => v.category).sum ≤ 8) (hf : cells ≤ R.cells ∧ slots ≤ R.slots) (hdg : decode cc pc = .ok (.invokevirtual index, 3)) {stk : List Value} (hstk : stk = As.reverse ++ .ref b :: st) (kk : ∀ r u, K r u → gj_J p l e R s m args below meth c cells slots Q D cl A nL (pc + 3) (L) (.int r :: st) (wof u)) : gj_J p l e R s m args below meth c cells slots Q D cl A nL (pc) (L) (stk) (w0) := by
  subst hstk
  intro H locs ls hP hD hS hv
  have hF := gj_own hD hS hA
  refine va_calli (va_runV ⟨X.1, X.2.1, X.2.2.1, X.2.2.2.1, X.2.2.2.2.1⟩ (hM H.size) cw ⟨gj_blind, va_recv X.2.2.2.2.2.1 hP hcl hrc, fun U hU hW => ⟨rfl, by rw [hU], by rw [hU]; exact hP, va_K.moved hW.alike X.2.2.2.2.2.1, hD.weaken (fun _ _ _ _ => trivial), X.2.2.2.2.2.2.warm hW⟩⟩ rfl hn hv.1 rfl (lv_room hst) hdg hf) hS (fun q _ h => hF q h) hF (fun r u t H1 locs1 ht hvm hw hB hz1 hk1 hS1 => ?_)
  have hP1 := hB.1
  rw [ht] at hP1
  exact kk r u hw H1 locs1 ls hP1 (hB.2.2.weaken (fun _ _ _ h => hF _ h)) hS1 hv
theorem gj_callVNI {K : Int32 → S → Prop} {host : String} {C : String} {b : Nat} (X : gj_X p s m c args cc nL own Ts D cl tys) {As : List Value} (hM : gj_MI l y ws rm D cl tys w0 wof (.ref b :: As) K) (cw : va_CN R s args own index y host bytes maxL ret ws rm 0 0 n ∧ (Cond.instanceMethod y).before args s = true ∧ (Cond.selects C y y).before args s = true) {ci : Nat} (q0 : Nat) {fs : List Value} {T : u_T} {N : Nat} (hrc : w0[q0]? = some (b, .inr (ci, fs))) (hcl : cl[ci]? = some (C, T, N)) (hA : ∀ q : Nat, s.heap.size ≤ q → A q) (hn : As.length = n) (hst : (st.map fun v => v.category).sum ≤ 8) (hf : cells ≤ R.cells ∧ slots ≤ R.slots) (hdg : decode cc pc = .ok (.invokevirtual index, 3)) {stk : List Value} (hstk : stk = As.reverse ++ .ref b :: st) (kk : ∀ r u, K r u → gj_J p l e R s m args below meth c cells slots Q D cl A nL (pc + 3) (L) (.int r :: st) (wof u)) : gj_J p l e R s m args below meth c cells slots Q D cl A nL (pc) (L) (stk) (w0) := by
  subst hstk
  intro H locs ls hP hD hS hv
  have hF := gj_own hD hS hA
  refine va_calli (va_runVN ⟨X.1, X.2.1, X.2.2.1, X.2.2.2.1, X.2.2.2.2.1⟩ (hM H.size) cw ⟨gj_blind, va_recv X.2.2.2.2.2.1 hP hcl hrc, fun U hU hW => ⟨rfl, by rw [hU], by rw [hU]; exact hP, va_K.moved hW.alike X.2.2.2.2.2.1, hD.weaken (fun _ _ _ _ => trivial), X.2.2.2.2.2.2.warm hW⟩⟩ rfl hn hv.1 rfl (lv_room hst) hdg hf) hS (fun q _ h => hF q h) hF (fun r u t H1 locs1 ht hvm hw hB hz1 hk1 hS1 => ?_)
  have hP1 := hB.1
  rw [ht] at hP1
  exact kk r u hw H1 locs1 ls hP1 (hB.2.2.weaken (fun _ _ _ h => hF _ h)) hS1 hv
theorem gj_callSI {K : Int32 → S → Prop} (X : gj_X p s m c args cc nL own Ts D cl tys) {As : List Value} (hM : gj_MI l y ws rm D cl tys w0 wof (As) K) (cw : CallB R s args own index y bytes maxL ret ws rm 0 0 n ∧ (Cond.static y).before args s = true) (hA : ∀ q : Nat, s.heap.size ≤ q → A q) (hn : As.length = n) (hst : (st.map fun v => v.category).sum ≤ 8) (hf : cells ≤ R.cells ∧ slots ≤ R.slots) (hdg : decode cc pc = .ok (.invokestatic index, 3)) {stk : List Value} (hstk : stk = As.reverse ++ st) (kk : ∀ r u, K r u → gj_J p l e R s m args below meth c cells slots Q D cl A nL (pc + 3) (L) (.int r :: st) (wof u)) : gj_J p l e R s m args below meth c cells slots Q D cl A nL (pc) (L) (stk) (w0) := by
  subst hstk
  intro H locs ls hP hD hS hv
  have hF := gj_own hD hS hA
  refine va_calli (va_runS ⟨X.1, X.2.1, X.2.2.1, X.2.2.2.1, X.2.2.2.2.1⟩ (hM H.size) cw ⟨gj_blind, fun U hU hW => ⟨rfl, by rw [hU], by rw [hU]; exact hP, va_K.moved hW.alike X.2.2.2.2.2.1, hD.weaken (fun _ _ _ _ => trivial), X.2.2.2.2.2.2.warm hW⟩⟩ rfl hn hv.1 rfl (lv_room hst) hdg hf) hS (fun q _ h => hF q h) hF (fun r u t H1 locs1 ht hvm hw hB hz1 hk1 hS1 => ?_)
  have hP1 := hB.1
  rw [ht] at hP1
  exact kk r u hw H1 locs1 ls hP1 (hB.2.2.weaken (fun _ _ _ h => hF _ h)) hS1 hv
theorem gj_callSNI {K : Int32 → S → Prop} {host : String} (X : gj_X p s m c args cc nL own Ts D cl tys) {As : List Value} (hM : gj_MI l y ws rm D cl tys w0 wof (As) K) (cw : va_CN R s args own index y host bytes maxL ret ws rm 0 0 n ∧ (Cond.static y).before args s = true ∧ True) (hA : ∀ q : Nat, s.heap.size ≤ q → A q) (hn : As.length = n) (hst : (st.map fun v => v.category).sum ≤ 8) (hf : cells ≤ R.cells ∧ slots ≤ R.slots) (hdg : decode cc pc = .ok (.invokestatic index, 3)) {stk : List Value} (hstk : stk = As.reverse ++ st) (kk : ∀ r u, K r u → gj_J p l e R s m args below meth c cells slots Q D cl A nL (pc + 3) (L) (.int r :: st) (wof u)) : gj_J p l e R s m args below meth c cells slots Q D cl A nL (pc) (L) (stk) (w0) := by
  subst hstk
  intro H locs ls hP hD hS hv
  have hF := gj_own hD hS hA
  refine va_calli (va_runSN ⟨X.1, X.2.1, X.2.2.1, X.2.2.2.1, X.2.2.2.2.1⟩ (hM H.size) cw ⟨gj_blind, fun U hU hW => ⟨rfl, by rw [hU], by rw [hU]; exact hP, va_K.moved hW.alike X.2.2.2.2.2.1, hD.weaken (fun _ _ _ _ => trivial), X.2.2.2.2.2.2.warm hW⟩⟩ rfl hn hv.1 rfl (lv_room hst) hdg hf) hS (fun q _ h => hF q h) hF (fun r u t H1 locs1 ht hvm hw hB hz1 hk1 hS1 => ?_)
  have hP1 := hB.1
  rw [ht] at hP1
  exact kk r u hw H1 locs1 ls hP1 (hB.2.2.weaken (fun _ _ _ h => hF _ h)) hS1 hv
theorem gj_callVL {K : Int64 → S → Prop} {C : String} {b : Nat} (X : gj_X p s m c args cc nL own Ts D cl tys) {As : List Value} (hM : gj_ML l y ws rm D cl tys w0 wof (.ref b :: As) K) (cw : CallW R s args own C index y bytes maxL ret ws rm 0 0 n) {ci : Nat} (q0 : Nat) {fs : List Value} {T : u_T} {N : Nat} (hrc : w0[q0]? = some (b, .inr (ci, fs))) (hcl : cl[ci]? = some (C, T, N)) (hA : ∀ q : Nat, s.heap.size ≤ q → A q) (hn : As.length = n) (hst : (st.map fun v => v.category).sum ≤ 8) (hf : cells ≤ R.cells ∧ slots ≤ R.slots) (hdg : decode cc pc = .ok (.invokevirtual index, 3)) {stk : List Value} (hstk : stk = As.reverse ++ .ref b :: st) (kk : ∀ r u, K r u → gj_J p l e R s m args below meth c cells slots Q D cl A nL (pc + 3) (L) (.long r :: st) (wof u)) : gj_J p l e R s m args below meth c cells slots Q D cl A nL (pc) (L) (stk) (w0) := by
  subst hstk
  intro H locs ls hP hD hS hv
  have hF := gj_own hD hS hA
  refine va_calll (va_runV ⟨X.1, X.2.1, X.2.2.1, X.2.2.2.1, X.2.2.2.2.1⟩ (hM H.size) cw ⟨gj_blind, va_recv X.2.2.2.2.2.1 hP hcl hrc, fun U hU hW => ⟨rfl, by rw [hU], by rw [hU]; exact hP, va_K.moved hW.alike X.2.2.2.2.2.1, hD.weaken (fun _ _ _ _ => trivial), X.2.2.2.2.2.2.warm hW⟩⟩ rfl hn hv.1 rfl (lv_room hst) hdg hf) hS (fun q _ h => hF q h) hF (fun r u t H1 locs1 ht hvm hw hB hz1 hk1 hS1 => ?_)
  have hP1 := hB.1
  rw [ht] at hP1
  exact kk r u hw H1 locs1 ls hP1 (hB.2.2.weaken (fun _ _ _ h => hF _ h)) hS1 hv
theorem gj_callVNL {K : Int64 → S → Prop} {host : String} {C : String} {b : Nat} (X : gj_X p s m c args cc nL own Ts D cl tys) {As : List Value} (hM : gj_ML l y ws rm D cl tys w0 wof (.ref b :: As) K) (cw : va_CN R s args own index y host bytes maxL ret ws rm 0 0 n ∧ (Cond.instanceMethod y).before args s = true ∧ (Cond.selects C y y).before args s = true) {ci : Nat} (q0 : Nat) {fs : List Value} {T : u_T} {N : Nat} (hrc : w0[q0]? = some (b, .inr (ci, fs))) (hcl : cl[ci]? = some (C, T, N)) (hA : ∀ q : Nat, s.heap.size ≤ q → A q) (hn : As.length = n) (hst : (st.map fun v => v.category).sum ≤ 8) (hf : cells ≤ R.cells ∧ slots ≤ R.slots) (hdg : decode cc pc = .ok (.invokevirtual index, 3)) {stk : List Value} (hstk : stk = As.reverse ++ .ref b :: st) (kk : ∀ r u, K r u → gj_J p l e R s m args below meth c cells slots Q D cl A nL (pc + 3) (L) (.long r :: st) (wof u)) : gj_J p l e R s m args below meth c cells slots Q D cl A nL (pc) (L) (stk) (w0) := by
  subst hstk
  intro H locs ls hP hD hS hv
  have hF := gj_own hD hS hA
  refine va_calll (va_runVN ⟨X.1, X.2.1, X.2.2.1, X.2.2.2.1, X.2.2.2.2.1⟩ (hM H.size) cw ⟨gj_blind, va_recv X.2.2.2.2.2.1 hP hcl hrc, fun U hU hW => ⟨rfl, by rw [hU], by rw [hU]; exact hP, va_K.moved hW.alike X.2.2.2.2.2.1, hD.weaken (fun _ _ _ _ => trivial), X.2.2.2.2.2.2.warm hW⟩⟩ rfl hn hv.1 rfl (lv_room hst) hdg hf) hS (fun q _ h => hF q h) hF (fun r u t H1 locs1 ht hvm hw hB hz1 hk1 hS1 => ?_)
  have hP1 := hB.1
  rw [ht] at hP1
  exact kk r u hw H1 locs1 ls hP1 (hB.2.2.weaken (fun _ _ _ h => hF _ h)) hS1 hv
theorem gj_callSL {K : Int64 → S → Prop} (X : gj_X p s m c args cc nL own Ts D cl tys) {As : List Value} (hM : gj_ML l y ws rm D cl tys w0 wof (As) K) (cw : CallB R s args own index y bytes maxL ret ws rm 0 0 n ∧ (Cond.static y).before args s = true) (hA : ∀ q : Nat, s.heap.size ≤ q → A q) (hn : As.length = n) (hst : (st.map fun v => v.category).sum ≤ 8) (hf : cells ≤ R.cells ∧ slots ≤ R.slots) (hdg : decode cc pc = .ok (.invokestatic index, 3)) {stk : List Value} (hstk : stk = As.reverse ++ st) (kk : ∀ r u, K r u → gj_J p l e R s m args below meth c cells slots Q D cl A nL (pc + 3) (L) (.long r :: st) (wof u)) : gj_J p l e R s m args below meth c cells slots Q D cl A nL (pc) (L) (stk) (w0) := by
  subst hstk
  intro H locs ls hP hD hS hv
  have hF := gj_own hD hS hA
  refine va_calll (va_runS ⟨X.1, X.2.1, X.2.2.1, X.2.2.2.1, X.2.2.2.2.1⟩ (hM H.size) cw ⟨gj_blind, fun U hU hW => ⟨rfl, by rw [hU], by rw [hU]; exact hP, va_K.moved hW.alike X.2.2.2.2.2.1, hD.weaken (fun _ _ _ _ => trivial), X.2.2.2.2.2.2.warm hW⟩⟩ rfl hn hv.1 rfl (lv_room hst) hdg hf) hS (fun q _ h => hF q h) hF (fun r u t H1 locs1 ht hvm hw hB hz1 hk1 hS1 => ?_)
  have hP1 := hB.1
  rw [ht] at hP1
  exact kk r u hw H1 locs1 ls hP1 (hB.2.2.weaken (fun _ _ _ h => hF _ h)) hS1 hv
theorem gj_callSNL {K : Int64 → S → Prop} {host : String} (X : gj_X p s m c args cc nL own Ts D cl tys) {As : List Value} (hM : gj_ML l y ws rm D cl tys w0 wof (As) K) (cw : va_CN R s args own index y host bytes maxL ret ws rm 0 0 n ∧ (Cond.static y).before args s = true ∧ True) (hA : ∀ q : Nat, s.heap.size ≤ q → A q) (hn : As.length = n) (hst : (st.map fun v => v.category).sum ≤ 8) (hf : cells ≤ R.cells ∧ slots ≤ R.slots) (hdg : decode cc pc = .ok (.invokestatic index, 3)) {stk : List Value} (hstk : stk = As.reverse ++ st) (kk : ∀ r u, K r u → gj_J p l e R s m args below meth c cells slots Q D cl A nL (pc + 3) (L) (.long r :: st) (wof u)) : gj_J p l e R s m args below meth c cells slots Q D cl A nL (pc) (L) (stk) (w0) := by
  subst hstk
  intro H locs ls hP hD hS hv
  have hF := gj_own hD hS hA
  refine va_calll (va_runSN ⟨X.1, X.2.1, X.2.2.1, X.2.2.2.1, X.2.2.2.2.1⟩ (hM H.size) cw ⟨gj_blind, fun U hU hW => ⟨rfl, by rw [hU], by rw [hU]; exact hP, va_K.moved hW.alike X.2.2.2.2.2.1, hD.weaken (fun _ _ _ _ => trivial), X.2.2.2.2.2.2.warm hW⟩⟩ rfl hn hv.1 rfl (lv_room hst) hdg hf) hS (fun q _ h => hF q h) hF (fun r u t H1 locs1 ht hvm hw hB hz1 hk1 hS1 => ?_)
  have hP1 := hB.1
  rw [ht] at hP1
  exact kk r u hw H1 locs1 ls hP1 (hB.2.2.weaken (fun _ _ _ h => hF _ h)) hS1 hv
theorem gj_callVV {K : S → Prop} {mc ms : Nat} {C : String} {b : Nat} (X : gj_X p s m c args cc nL own Ts D cl tys) {As : List Value} (hM : gj_MV mc ms l y ws rm D cl tys w0 wof (.ref b :: As) K) (cw : CallW R s args own C index y bytes maxL ret ws rm mc ms n) {ci : Nat} (q0 : Nat) {fs : List Value} {T : u_T} {N : Nat} (hrc : w0[q0]? = some (b, .inr (ci, fs))) (hcl : cl[ci]? = some (C, T, N)) (hA : ∀ q : Nat, s.heap.size ≤ q → A q) (hn : As.length = n) (hst : (st.map fun v => v.category).sum ≤ 8) (hf : cells + mc ≤ R.cells ∧ slots + ms ≤ R.slots) (hdg : decode cc pc = .ok (.invokevirtual index, 3)) {stk : List Value} (hstk : stk = As.reverse ++ .ref b :: st) (kk : ∀ u, K u → gj_J p l e R s m args below meth c (cells + mc) (slots + ms) Q D cl A nL (pc + 3) (L) (st) (wof u)) : gj_J p l e R s m args below meth c cells slots Q D cl A nL (pc) (L) (stk) (w0) := by
  subst hstk
  intro H locs ls hP hD hS hv
  have hF := gj_own hD hS hA
  refine va_callv (va_runV ⟨X.1, X.2.1, X.2.2.1, X.2.2.2.1, X.2.2.2.2.1⟩ (hM H.size) cw ⟨gj_blind, va_recv X.2.2.2.2.2.1 hP hcl hrc, fun U hU hW => ⟨rfl, by rw [hU], by rw [hU]; exact hP, va_K.moved hW.alike X.2.2.2.2.2.1, hD.weaken (fun _ _ _ _ => trivial), X.2.2.2.2.2.2.warm hW⟩⟩ rfl hn hv.1 rfl (lv_room hst) hdg hf) hS (fun q _ h => hF q h) hF (fun u t H1 locs1 ht hvm hw hB hz1 hk1 hS1 => ?_)
  have hP1 := hB.1
  rw [ht] at hP1
  exact kk u hw H1 locs1 ls hP1 (hB.2.2.weaken (fun _ _ _ h => hF _ h)) hS1 hv
theorem gj_callVNV {K : S → Prop} {mc ms : Nat} {host : String} {C : String} {b : Nat} (X : gj_X p s m c args cc nL own Ts D cl tys) {As : List Value} (hM : gj_MV mc ms l y ws rm D cl tys w0 wof (.ref b :: As) K) (cw : va_CN R s args own index y host bytes maxL ret ws rm mc ms n ∧ (Cond.instanceMethod y).before args s = true ∧ (Cond.selects C y y).before args s = true) {ci : Nat} (q0 : Nat) {fs : List Value} {T : u_T} {N : Nat} (hrc : w0[q0]? = some (b, .inr (ci, fs))) (hcl : cl[ci]? = some (C, T, N)) (hA : ∀ q : Nat, s.heap.size ≤ q → A q) (hn : As.length = n) (hst : (st.map fun v => v.category).sum ≤ 8) (hf : cells + mc ≤ R.cells ∧ slots + ms ≤ R.slots) (hdg : decode cc pc = .ok (.invokevirtual index, 3)) {stk : List Value} (hstk : stk = As.reverse ++ .ref b :: st) (kk : ∀ u, K u → gj_J p l e R s m args below meth c (cells + mc) (slots + ms) Q D cl A nL (pc + 3) (L) (st) (wof u)) : gj_J p l e R s m args below meth c cells slots Q D cl A nL (pc) (L) (stk) (w0) := by
  subst hstk
  intro H locs ls hP hD hS hv
  have hF := gj_own hD hS hA
  refine va_callv (va_runVN ⟨X.1, X.2.1, X.2.2.1, X.2.2.2.1, X.2.2.2.2.1⟩ (hM H.size) cw ⟨gj_blind, va_recv X.2.2.2.2.2.1 hP hcl hrc, fun U hU hW => ⟨rfl, by rw [hU], by rw [hU]; exact hP, va_K.moved hW.alike X.2.2.2.2.2.1, hD.weaken (fun _ _ _ _ => trivial), X.2.2.2.2.2.2.warm hW⟩⟩ rfl hn hv.1 rfl (lv_room hst) hdg hf) hS (fun q _ h => hF q h) hF (fun u t H1 locs1 ht hvm hw hB hz1 hk1 hS1 => ?_)
  have hP1 := hB.1
  rw [ht] at hP1
  exact kk u hw H1 locs1 ls hP1 (hB.2.2.weaken (fun _ _ _ h => hF _ h)) hS1 hv
theorem gj_callSV {K : S → Prop} {mc ms : Nat} (X : gj_X p s m c args cc nL own Ts D cl tys) {As : List Value} (hM : gj_MV mc ms l y ws rm D cl tys w0 wof (As) K) (cw : CallB R s args own index y bytes maxL ret ws rm mc ms n ∧ (Cond.static y).before args s = true) (hA : ∀ q : Nat, s.heap.size ≤ q → A q) (hn : As.length = n) (hst : (st.map fun v => v.category).sum ≤ 8) (hf : cells + mc ≤ R.cells ∧ slots + ms ≤ R.slots) (hdg : decode cc pc = .ok (.invokestatic index, 3)) {stk : List Value} (hstk : stk = As.reverse ++ st) (kk : ∀ u, K u → gj_J p l e R s m args below meth c (cells + mc) (slots + ms) Q D cl A nL (pc + 3) (L) (st) (wof u)) : gj_J p l e R s m args below meth c cells slots Q D cl A nL (pc) (L) (stk) (w0) := by
  subst hstk
  intro H locs ls hP hD hS hv
  have hF := gj_own hD hS hA
  refine va_callv (va_runS ⟨X.1, X.2.1, X.2.2.1, X.2.2.2.1, X.2.2.2.2.1⟩ (hM H.size) cw ⟨gj_blind, fun U hU hW => ⟨rfl, by rw [hU], by rw [hU]; exact hP, va_K.moved hW.alike X.2.2.2.2.2.1, hD.weaken (fun _ _ _ _ => trivial), X.2.2.2.2.2.2.warm hW⟩⟩ rfl hn hv.1 rfl (lv_room hst) hdg hf) hS (fun q _ h => hF q h) hF (fun u t H1 locs1 ht hvm hw hB hz1 hk1 hS1 => ?_)
  have hP1 := hB.1
  rw [ht] at hP1
  exact kk u hw H1 locs1 ls hP1 (hB.2.2.weaken (fun _ _ _ h => hF _ h)) hS1 hv
theorem gj_callSNV {K : S → Prop} {mc ms : Nat} {host : String} (X : gj_X p s m c args cc nL own Ts D cl tys) {As : List Value} (hM : gj_MV mc ms l y ws rm D cl tys w0 wof (As) K) (cw : va_CN R s args own index y host bytes maxL ret ws rm mc ms n ∧ (Cond.static y).before args s = true ∧ True) (hA : ∀ q : Nat, s.heap.size ≤ q → A q) (hn : As.length = n) (hst : (st.map fun v => v.category).sum ≤ 8) (hf : cells + mc ≤ R.cells ∧ slots + ms ≤ R.slots) (hdg : decode cc pc = .ok (.invokestatic index, 3)) {stk : List Value} (hstk : stk = As.reverse ++ st) (kk : ∀ u, K u → gj_J p l e R s m args below meth c (cells + mc) (slots + ms) Q D cl A nL (pc + 3) (L) (st) (wof u)) : gj_J p l e R s m args below meth c cells slots Q D cl A nL (pc) (L) (stk) (w0) := by
  subst hstk
  intro H locs ls hP hD hS hv
  have hF := gj_own hD hS hA
  refine va_callv (va_runSN ⟨X.1, X.2.1, X.2.2.1, X.2.2.2.1, X.2.2.2.2.1⟩ (hM H.size) cw ⟨gj_blind, fun U hU hW => ⟨rfl, by rw [hU], by rw [hU]; exact hP, va_K.moved hW.alike X.2.2.2.2.2.1, hD.weaken (fun _ _ _ _ => trivial), X.2.2.2.2.2.2.warm hW⟩⟩ rfl hn hv.1 rfl (lv_room hst) hdg hf) hS (fun q _ h => hF q h) hF (fun u t H1 locs1 ht hvm hw hB hz1 hk1 hS1 => ?_)
  have hP1 := hB.1
  rw [ht] at hP1
  exact kk u hw H1 locs1 ls hP1 (hB.2.2.weaken (fun _ _ _ h => hF _ h)) hS1 hv
theorem gj_cutVI {K : Int32 → S → Prop} {C : String} {b : Nat} (X : gj_X p s m c args cc nL own Ts D cl tys) {As : List Value} (hM : gj_MI l y ws rm D cl tys w0 wof (.ref b :: As) K) (cw : CallW R s args own C index y bytes maxL ret ws rm 0 0 n) {ci : Nat} (q0 : Nat) {fs : List Value} {T : u_T} {N : Nat} (hrc : w0[q0]? = some (b, .inr (ci, fs))) (hcl : cl[ci]? = some (C, T, N)) (isC isR : List Nat) (hC : isC.map (fun i => w[i]?) = w0.map some) (hR : isR.map (fun i => w[i]?) = wr.map some) (hnC : va_nd isC = true) (hnR : va_nd isR = true) (hdis : ∀ i ∈ isR, i ∉ isC) (hA : ∀ q : Nat, s.heap.size ≤ q → A q) (hn : As.length = n) (hst : (st.map fun v => v.category).sum ≤ 8) (hf : cells ≤ R.cells ∧ slots ≤ R.slots) (hdg : decode cc pc = .ok (.invokevirtual index, 3)) {stk : List Value} (hstk : stk = As.reverse ++ .ref b :: st) (kk : ∀ r u, K r u → gj_J p l e R s m args below meth c cells slots Q D cl A nL (pc + 3) (L) (.int r :: st) (wr ++ wof u)) : gj_J p l e R s m args below meth c cells slots Q D cl A nL (pc) (L) (stk) (w) := by
  subst hstk
  intro H locs ls hP hD hS hv
  have hPc := gj_subP hP isC hC
  have hDc := hD.sub isC hnC hC
  have hF := va_free hD hS hA isC hC
  refine va_calli (va_runV ⟨X.1, X.2.1, X.2.2.1, X.2.2.2.1, X.2.2.2.2.1⟩ (hM H.size) cw ⟨gj_blind, va_recv X.2.2.2.2.2.1 hPc hcl hrc, fun U hU hW => ⟨rfl, by rw [hU], by rw [hU]; exact hPc, va_K.moved hW.alike X.2.2.2.2.2.1, hDc.weaken (fun _ _ _ _ => trivial), X.2.2.2.2.2.2.warm hW⟩⟩ rfl hn hv.1 rfl (lv_room hst) hdg hf) hS (fun q _ h => hF q h) hF (fun r u t H1 locs1 ht hvm hw hB hz1 hk1 hS1 => ?_)
  have hP1 := hB.1
  rw [ht] at hP1
  obtain ⟨hP2, hD2⟩ := va_join hP hD isC isR hC hR hnR hdis hk1 hF hP1 hB.2.2
  exact kk r u hw H1 locs1 ls hP2 hD2 hS1 hv
theorem gj_cutVNI {K : Int32 → S → Prop} {host : String} {C : String} {b : Nat} (X : gj_X p s m c args cc nL own Ts D cl tys) {As : List Value} (hM : gj_MI l y ws rm D cl tys w0 wof (.ref b :: As) K) (cw : va_CN R s args own index y host bytes maxL ret ws rm 0 0 n ∧ (Cond.instanceMethod y).before args s = true ∧ (Cond.selects C y y).before args s = true) {ci : Nat} (q0 : Nat) {fs : List Value} {T : u_T} {N : Nat} (hrc : w0[q0]? = some (b, .inr (ci, fs))) (hcl : cl[ci]? = some (C, T, N)) (isC isR : List Nat) (hC : isC.map (fun i => w[i]?) = w0.map some) (hR : isR.map (fun i => w[i]?) = wr.map some) (hnC : va_nd isC = true) (hnR : va_nd isR = true) (hdis : ∀ i ∈ isR, i ∉ isC) (hA : ∀ q : Nat, s.heap.size ≤ q → A q) (hn : As.length = n) (hst : (st.map fun v => v.category).sum ≤ 8) (hf : cells ≤ R.cells ∧ slots ≤ R.slots) (hdg : decode cc pc = .ok (.invokevirtual index, 3)) {stk : List Value} (hstk : stk = As.reverse ++ .ref b :: st) (kk : ∀ r u, K r u → gj_J p l e R s m args below meth c cells slots Q D cl A nL (pc + 3) (L) (.int r :: st) (wr ++ wof u)) : gj_J p l e R s m args below meth c cells slots Q D cl A nL (pc) (L) (stk) (w) := by
  subst hstk
  intro H locs ls hP hD hS hv
  have hPc := gj_subP hP isC hC
  have hDc := hD.sub isC hnC hC
  have hF := va_free hD hS hA isC hC
  refine va_calli (va_runVN ⟨X.1, X.2.1, X.2.2.1, X.2.2.2.1, X.2.2.2.2.1⟩ (hM H.size) cw ⟨gj_blind, va_recv X.2.2.2.2.2.1 hPc hcl hrc, fun U hU hW => ⟨rfl, by rw [hU], by rw [hU]; exact hPc, va_K.moved hW.alike X.2.2.2.2.2.1, hDc.weaken (fun _ _ _ _ => trivial), X.2.2.2.2.2.2.warm hW⟩⟩ rfl hn hv.1 rfl (lv_room hst) hdg hf) hS (fun q _ h => hF q h) hF (fun r u t H1 locs1 ht hvm hw hB hz1 hk1 hS1 => ?_)
  have hP1 := hB.1
  rw [ht] at hP1
  obtain ⟨hP2, hD2⟩ := va_join hP hD isC isR hC hR hnR hdis hk1 hF hP1 hB.2.2
  exact kk r u hw H1 locs1 ls hP2 hD2 hS1 hv
theorem gj_cutSI {K : Int32 → S → Prop} (X : gj_X p s m c args cc nL own Ts D cl tys) {As : List Value} (hM : gj_MI l y ws rm D cl tys w0 wof (As) K) (cw : CallB R s args own index y bytes maxL ret ws rm 0 0 n ∧ (Cond.static y).before args s = true) (isC isR : List Nat) (hC : isC.map (fun i => w[i]?) = w0.map some) (hR : isR.map (fun i => w[i]?) = wr.map some) (hnC : va_nd isC = true) (hnR : va_nd isR = true) (hdis : ∀ i ∈ isR, i ∉ isC) (hA : ∀ q : Nat, s.heap.size ≤ q → A q) (hn : As.length = n) (hst : (st.map fun v => v.category).sum ≤ 8) (hf : cells ≤ R.cells ∧ slots ≤ R.slots) (hdg : decode cc pc = .ok (.invokestatic index, 3)) {stk : List Value} (hstk : stk = As.reverse ++ st) (kk : ∀ r u, K r u → gj_J p l e R s m args below meth c cells slots Q D cl A nL (pc + 3) (L) (.int r :: st) (wr ++ wof u)) : gj_J p l e R s m args below meth c cells slots Q D cl A nL (pc) (L) (stk) (w) := by
  subst hstk
  intro H locs ls hP hD hS hv
  have hPc := gj_subP hP isC hC
  have hDc := hD.sub isC hnC hC
  have hF := va_free hD hS hA isC hC
  refine va_calli (va_runS ⟨X.1, X.2.1, X.2.2.1, X.2.2.2.1, X.2.2.2.2.1⟩ (hM H.size) cw ⟨gj_blind, fun U hU hW => ⟨rfl, by rw [hU], by rw [hU]; exact hPc, va_K.moved hW.alike X.2.2.2.2.2.1, hDc.weaken (fun _ _ _ _ => trivial), X.2.2.2.2.2.2.warm hW⟩⟩ rfl hn hv.1 rfl (lv_room hst) hdg hf) hS (fun q _ h => hF q h) hF (fun r u t H1 locs1 ht hvm hw hB hz1 hk1 hS1 => ?_)
  have hP1 := hB.1
  rw [ht] at hP1
  obtain ⟨hP2, hD2⟩ := va_join hP hD isC isR hC hR hnR hdis hk1 hF hP1 hB.2.2
  exact kk r u hw H1 locs1 ls hP2 hD2 hS1 hv
theorem gj_cutSNI {K : Int32 → S → Prop} {host : String} (X : gj_X p s m c args cc nL own Ts D cl tys) {As : List Value} (hM : gj_MI l y ws rm D cl tys w0 wof (As) K) (cw : va_CN R s args own index y host bytes maxL ret ws rm 0 0 n ∧ (Cond.static y).before args s = true ∧ True) (isC isR : List Nat) (hC : isC.map (fun i => w[i]?) = w0.map some) (hR : isR.map (fun i => w[i]?) = wr.map some) (hnC : va_nd isC = true) (hnR : va_nd isR = true) (hdis : ∀ i ∈ isR, i ∉ isC) (hA : ∀ q : Nat, s.heap.size ≤ q → A q) (hn : As.length = n) (hst : (st.map fun v => v.category).sum ≤ 8) (hf : cells ≤ R.cells ∧ slots ≤ R.slots) (hdg : decode cc pc = .ok (.invokestatic index, 3)) {stk : List Value} (hstk : stk = As.reverse ++ st) (kk : ∀ r u, K r u → gj_J p l e R s m args below meth c cells slots Q D cl A nL (pc + 3) (L) (.int r :: st) (wr ++ wof u)) : gj_J p l e R s m args below meth c cells slots Q D cl A nL (pc) (L) (stk) (w) := by
  subst hstk
  intro H locs ls hP hD hS hv
  have hPc := gj_subP hP isC hC
  have hDc := hD.sub isC hnC hC
  have hF := va_free hD hS hA isC hC
  refine va_calli (va_runSN ⟨X.1, X.2.1, X.2.2.1, X.2.2.2.1, X.2.2.2.2.1⟩ (hM H.size) cw ⟨gj_blind, fun U hU hW => ⟨rfl, by rw [hU], by rw [hU]; exact hPc, va_K.moved hW.alike X.2.2.2.2.2.1, hDc.weaken (fun _ _ _ _ => trivial), X.2.2.2.2.2.2.warm hW⟩⟩ rfl hn hv.1 rfl (lv_room hst) hdg hf) hS (fun q _ h => hF q h) hF (fun r u t H1 locs1 ht hvm hw hB hz1 hk1 hS1 => ?_)
  have hP1 := hB.1
  rw [ht] at hP1
  obtain ⟨hP2, hD2⟩ := va_join hP hD isC isR hC hR hnR hdis hk1 hF hP1 hB.2.2
  exact kk r u hw H1 locs1 ls hP2 hD2 hS1 hv
theorem gj_cutVL {K : Int64 → S → Prop} {C : String} {b : Nat} (X : gj_X p s m c args cc nL own Ts D cl tys) {As : List Value} (hM : gj_ML l y ws rm D cl tys w0 wof (.ref b :: As) K) (cw : CallW R s args own C index y bytes maxL ret ws rm 0 0 n) {ci : Nat} (q0 : Nat) {fs : List Value} {T : u_T} {N : Nat} (hrc : w0[q0]? = some (b, .inr (ci, fs))) (hcl : cl[ci]? = some (C, T, N)) (isC isR : List Nat) (hC : isC.map (fun i => w[i]?) = w0.map some) (hR : isR.map (fun i => w[i]?) = wr.map some) (hnC : va_nd isC = true) (hnR : va_nd isR = true) (hdis : ∀ i ∈ isR, i ∉ isC) (hA : ∀ q : Nat, s.heap.size ≤ q → A q) (hn : As.length = n) (hst : (st.map fun v => v.category).sum ≤ 8) (hf : cells ≤ R.cells ∧ slots ≤ R.slots) (hdg : decode cc pc = .ok (.invokevirtual index, 3)) {stk : List Value} (hstk : stk = As.reverse ++ .ref b :: st) (kk : ∀ r u, K r u → gj_J p l e R s m args below meth c cells slots Q D cl A nL (pc + 3) (L) (.long r :: st) (wr ++ wof u)) : gj_J p l e R s m args below meth c cells slots Q D cl A nL (pc) (L) (stk) (w) := by
  subst hstk
  intro H locs ls hP hD hS hv
  have hPc := gj_subP hP isC hC
  have hDc := hD.sub isC hnC hC
  have hF := va_free hD hS hA isC hC
  refine va_calll (va_runV ⟨X.1, X.2.1, X.2.2.1, X.2.2.2.1, X.2.2.2.2.1⟩ (hM H.size) cw ⟨gj_blind, va_recv X.2.2.2.2.2.1 hPc hcl hrc, fun U hU hW => ⟨rfl, by rw [hU], by rw [hU]; exact hPc, va_K.moved hW.alike X.2.2.2.2.2.1, hDc.weaken (fun _ _ _ _ => trivial), X.2.2.2.2.2.2.warm hW⟩⟩ rfl hn hv.1 rfl (lv_room hst) hdg hf) hS (fun q _ h => hF q h) hF (fun r u t H1 locs1 ht hvm hw hB hz1 hk1 hS1 => ?_)
  have hP1 := hB.1
  rw [ht] at hP1
  obtain ⟨hP2, hD2⟩ := va_join hP hD isC isR hC hR hnR hdis hk1 hF hP1 hB.2.2
  exact kk r u hw H1 locs1 ls hP2 hD2 hS1 hv
theorem gj_cutVNL {K : Int64 → S → Prop} {host : String} {C : String} {b : Nat} (X : gj_X p s m c args cc nL own Ts D cl tys) {As : List Value} (hM : gj_ML l y ws rm D cl tys w0 wof (.ref b :: As) K) (cw : va_CN R s args own index y host bytes maxL ret ws rm 0 0 n ∧ (Cond.instanceMethod y).before args s = true ∧ (Cond.selects C y y).before args s = true) {ci : Nat} (q0 : Nat) {fs : List Value} {T : u_T} {N : Nat} (hrc : w0[q0]? = some (b, .inr (ci, fs))) (hcl : cl[ci]? = some (C, T, N)) (isC isR : List Nat) (hC : isC.map (fun i => w[i]?) = w0.map some) (hR : isR.map (fun i => w[i]?) = wr.map some) (hnC : va_nd isC = true) (hnR : va_nd isR = true) (hdis : ∀ i ∈ isR, i ∉ isC) (hA : ∀ q : Nat, s.heap.size ≤ q → A q) (hn : As.length = n) (hst : (st.map fun v => v.category).sum ≤ 8) (hf : cells ≤ R.cells ∧ slots ≤ R.slots) (hdg : decode cc pc = .ok (.invokevirtual index, 3)) {stk : List Value} (hstk : stk = As.reverse ++ .ref b :: st) (kk : ∀ r u, K r u → gj_J p l e R s m args below meth c cells slots Q D cl A nL (pc + 3) (L) (.long r :: st) (wr ++ wof u)) : gj_J p l e R s m args below meth c cells slots Q D cl A nL (pc) (L) (stk) (w) := by
  subst hstk
  intro H locs ls hP hD hS hv
  have hPc := gj_subP hP isC hC
  have hDc := hD.sub isC hnC hC
  have hF := va_free hD hS hA isC hC
  refine va_calll (va_runVN ⟨X.1, X.2.1, X.2.2.1, X.2.2.2.1, X.2.2.2.2.1⟩ (hM H.size) cw ⟨gj_blind, va_recv X.2.2.2.2.2.1 hPc hcl hrc, fun U hU hW => ⟨rfl, by rw [hU], by rw [hU]; exact hPc, va_K.moved hW.alike X.2.2.2.2.2.1, hDc.weaken (fun _ _ _ _ => trivial), X.2.2.2.2.2.2.warm hW⟩⟩ rfl hn hv.1 rfl (lv_room hst) hdg hf) hS (fun q _ h => hF q h) hF (fun r u t H1 locs1 ht hvm hw hB hz1 hk1 hS1 => ?_)
  have hP1 := hB.1
  rw [ht] at hP1
  obtain ⟨hP2, hD2⟩ := va_join hP hD isC isR hC hR hnR hdis hk1 hF hP1 hB.2.2
  exact kk r u hw H1 locs1 ls hP2 hD2 hS1 hv
theorem gj_cutSL {K : Int64 → S → Prop} (X : gj_X p s m c args cc nL own Ts D cl tys) {As : List Value} (hM : gj_ML l y ws rm D cl tys w0 wof (As) K) (cw : CallB R s args own index y bytes maxL ret ws rm 0 0 n ∧ (Cond.static y).before args s = true) (isC isR : List Nat) (hC : isC.map (fun i => w[i]?) = w0.map some) (hR : isR.map (fun i => w[i]?) = wr.map some) (hnC : va_nd isC = true) (hnR : va_nd isR = true) (hdis : ∀ i ∈ isR, i ∉ isC) (hA : ∀ q : Nat, s.heap.size ≤ q → A q) (hn : As.length = n) (hst : (st.map fun v => v.category).sum ≤ 8) (hf : cells ≤ R.cells ∧ slots ≤ R.slots) (hdg : decode cc pc = .ok (.invokestatic index, 3)) {stk : List Value} (hstk : stk = As.reverse ++ st) (kk : ∀ r u, K r u → gj_J p l e R s m args below meth c cells slots Q D cl A nL (pc + 3) (L) (.long r :: st) (wr ++ wof u)) : gj_J p l e R s m args below meth c cells slots Q D cl A nL (pc) (L) (stk) (w) := by
  subst hstk
  intro H locs ls hP hD hS hv
  have hPc := gj_subP hP isC hC
  have hDc := hD.sub isC hnC hC
  have hF := va_free hD hS hA isC hC
  refine va_calll (va_runS ⟨X.1, X.2.1, X.2.2.1, X.2.2.2.1, X.2.2.2.2.1⟩ (hM H.size) cw ⟨gj_blind, fun U hU hW => ⟨rfl, by rw [hU], by rw [hU]; exact hPc, va_K.moved hW.alike X.2.2.2.2.2.1, hDc.weaken (fun _ _ _ _ => trivial), X.2.2.2.2.2.2.warm hW⟩⟩ rfl hn hv.1 rfl (lv_room hst) hdg hf) hS (fun q _ h => hF q h) hF (fun r u t H1 locs1 ht hvm hw hB hz1 hk1 hS1 => ?_)
  have hP1 := hB.1
  rw [ht] at hP1
  obtain ⟨hP2, hD2⟩ := va_join hP hD isC isR hC hR hnR hdis hk1 hF hP1 hB.2.2
  exact kk r u hw H1 locs1 ls hP2 hD2 hS1 hv
theorem gj_cutSNL {K : Int64 → S → Prop} {host : String} (X : gj_X p s m c args cc nL own Ts D cl tys) {As : List Value} (hM : gj_ML l y ws rm D cl tys w0 wof (As) K) (cw : va_CN R s args own index y host bytes maxL ret ws rm 0 0 n ∧ (Cond.static y).before args s = true ∧ True) (isC isR : List Nat) (hC : isC.map (fun i => w[i]?) = w0.map some) (hR : isR.map (fun i => w[i]?) = wr.map some) (hnC : va_nd isC = true) (hnR : va_nd isR = true) (hdis : ∀ i ∈ isR, i ∉ isC) (hA : ∀ q : Nat, s.heap.size ≤ q → A q) (hn : As.length = n) (hst : (st.map fun v => v.category).sum ≤ 8) (hf : cells ≤ R.cells ∧ slots ≤ R.slots) (hdg : decode cc pc = .ok (.invokestatic index, 3)) {stk : List Value} (hstk : stk = As.reverse ++ st) (kk : ∀ r u, K r u → gj_J p l e R s m args below meth c cells slots Q D cl A nL (pc + 3) (L) (.long r :: st) (wr ++ wof u)) : gj_J p l e R s m args below meth c cells slots Q D cl A nL (pc) (L) (stk) (w) := by
  subst hstk
  intro H locs ls hP hD hS hv
  have hPc := gj_subP hP isC hC
  have hDc := hD.sub isC hnC hC
  have hF := va_free hD hS hA isC hC
  refine va_calll (va_runSN ⟨X.1, X.2.1, X.2.2.1, X.2.2.2.1, X.2.2.2.2.1⟩ (hM H.size) cw ⟨gj_blind, fun U hU hW => ⟨rfl, by rw [hU], by rw [hU]; exact hPc, va_K.moved hW.alike X.2.2.2.2.2.1, hDc.weaken (fun _ _ _ _ => trivial), X.2.2.2.2.2.2.warm hW⟩⟩ rfl hn hv.1 rfl (lv_room hst) hdg hf) hS (fun q _ h => hF q h) hF (fun r u t H1 locs1 ht hvm hw hB hz1 hk1 hS1 => ?_)
  have hP1 := hB.1
  rw [ht] at hP1
  obtain ⟨hP2, hD2⟩ := va_join hP hD isC isR hC hR hnR hdis hk1 hF hP1 hB.2.2
  exact kk r u hw H1 locs1 ls hP2 hD2 hS1 hv
theorem gj_cutVV {K : S → Prop} {mc ms : Nat} {C : String} {b : Nat} (X : gj_X p s m c args cc nL own Ts D cl tys) {As : List Value} (hM : gj_MV mc ms l y ws rm D cl tys w0 wof (.ref b :: As) K) (cw : CallW R s args own C index y bytes maxL ret ws rm mc ms n) {ci : Nat} (q0 : Nat) {fs : List Value} {T : u_T} {N : Nat} (hrc : w0[q0]? = some (b, .inr (ci, fs))) (hcl : cl[ci]? = some (C, T, N)) (isC isR : List Nat) (hC : isC.map (fun i => w[i]?) = w0.map some) (hR : isR.map (fun i => w[i]?) = wr.map some) (hnC : va_nd isC = true) (hnR : va_nd isR = true) (hdis : ∀ i ∈ isR, i ∉ isC) (hA : ∀ q : Nat, s.heap.size ≤ q → A q) (hn : As.length = n) (hst : (st.map fun v => v.category).sum ≤ 8) (hf : cells + mc ≤ R.cells ∧ slots + ms ≤ R.slots) (hdg : decode cc pc = .ok (.invokevirtual index, 3)) {stk : List Value} (hstk : stk = As.reverse ++ .ref b :: st) (kk : ∀ u, K u → gj_J p l e R s m args below meth c (cells + mc) (slots + ms) Q D cl A nL (pc + 3) (L) (st) (wr ++ wof u)) : gj_J p l e R s m args below meth c cells slots Q D cl A nL (pc) (L) (stk) (w) := by
  subst hstk
  intro H locs ls hP hD hS hv
  have hPc := gj_subP hP isC hC
  have hDc := hD.sub isC hnC hC
  have hF := va_free hD hS hA isC hC
  refine va_callv (va_runV ⟨X.1, X.2.1, X.2.2.1, X.2.2.2.1, X.2.2.2.2.1⟩ (hM H.size) cw ⟨gj_blind, va_recv X.2.2.2.2.2.1 hPc hcl hrc, fun U hU hW => ⟨rfl, by rw [hU], by rw [hU]; exact hPc, va_K.moved hW.alike X.2.2.2.2.2.1, hDc.weaken (fun _ _ _ _ => trivial), X.2.2.2.2.2.2.warm hW⟩⟩ rfl hn hv.1 rfl (lv_room hst) hdg hf) hS (fun q _ h => hF q h) hF (fun u t H1 locs1 ht hvm hw hB hz1 hk1 hS1 => ?_)
  have hP1 := hB.1
  rw [ht] at hP1
  obtain ⟨hP2, hD2⟩ := va_join hP hD isC isR hC hR hnR hdis hk1 hF hP1 hB.2.2
  exact kk u hw H1 locs1 ls hP2 hD2 hS1 hv
theorem gj_cutVNV {K : S → Prop} {mc ms : Nat} {host : String} {C : String} {b : Nat} (X : gj_X p s m c args cc nL own Ts D cl tys) {As : List Value} (hM : gj_MV mc ms l y ws rm D cl tys w0 wof (.ref b :: As) K) (cw : va_CN R s args own index y host bytes maxL ret ws rm mc ms n ∧ (Cond.instanceMethod y).before args s = true ∧ (Cond.selects C y y).before args s = true) {ci : Nat} (q0 : Nat) {fs : List Value} {T : u_T} {N : Nat} (hrc : w0[q0]? = some (b, .inr (ci, fs))) (hcl : cl[ci]? = some (C, T, N)) (isC isR : List Nat) (hC : isC.map (fun i => w[i]?) = w0.map some) (hR : isR.map (fun i => w[i]?) = wr.map some) (hnC : va_nd isC = true) (hnR : va_nd isR = true) (hdis : ∀ i ∈ isR, i ∉ isC) (hA : ∀ q : Nat, s.heap.size ≤ q → A q) (hn : As.length = n) (hst : (st.map fun v => v.category).sum ≤ 8) (hf : cells + mc ≤ R.cells ∧ slots + ms ≤ R.slots) (hdg : decode cc pc = .ok (.invokevirtual index, 3)) {stk : List Value} (hstk : stk = As.reverse ++ .ref b :: st) (kk : ∀ u, K u → gj_J p l e R s m args below meth c (cells + mc) (slots + ms) Q D cl A nL (pc + 3) (L) (st) (wr ++ wof u)) : gj_J p l e R s m args below meth c cells slots Q D cl A nL (pc) (L) (stk) (w) := by
  subst hstk
  intro H locs ls hP hD hS hv
  have hPc := gj_subP hP isC hC
  have hDc := hD.sub isC hnC hC
  have hF := va_free hD hS hA isC hC
  refine va_callv (va_runVN ⟨X.1, X.2.1, X.2.2.1, X.2.2.2.1, X.2.2.2.2.1⟩ (hM H.size) cw ⟨gj_blind, va_recv X.2.2.2.2.2.1 hPc hcl hrc, fun U hU hW => ⟨rfl, by rw [hU], by rw [hU]; exact hPc, va_K.moved hW.alike X.2.2.2.2.2.1, hDc.weaken (fun _ _ _ _ => trivial), X.2.2.2.2.2.2.warm hW⟩⟩ rfl hn hv.1 rfl (lv_room hst) hdg hf) hS (fun q _ h => hF q h) hF (fun u t H1 locs1 ht hvm hw hB hz1 hk1 hS1 => ?_)
  have hP1 := hB.1
  rw [ht] at hP1
  obtain ⟨hP2, hD2⟩ := va_join hP hD isC isR hC hR hnR hdis hk1 hF hP1 hB.2.2
  exact kk u hw H1 locs1 ls hP2 hD2 hS1 hv
theorem gj_cutSV {K : S → Prop} {mc ms : Nat} (X : gj_X p s m c args cc nL own Ts D cl tys) {As : List Value} (hM : gj_MV mc ms l y ws rm D cl tys w0 wof (As) K) (cw : CallB R s args own index y bytes maxL ret ws rm mc ms n ∧ (Cond.static y).before args s = true) (isC isR : List Nat) (hC : isC.map (fun i => w[i]?) = w0.map some) (hR : isR.map (fun i => w[i]?) = wr.map some) (hnC : va_nd isC = true) (hnR : va_nd isR = true) (hdis : ∀ i ∈ isR, i ∉ isC) (hA : ∀ q : Nat, s.heap.size ≤ q → A q) (hn : As.length = n) (hst : (st.map fun v => v.category).sum ≤ 8) (hf : cells + mc ≤ R.cells ∧ slots + ms ≤ R.slots) (hdg : decode cc pc = .ok (.invokestatic index, 3)) {stk : List Value} (hstk : stk = As.reverse ++ st) (kk : ∀ u, K u → gj_J p l e R s m args below meth c (cells + mc) (slots + ms) Q D cl A nL (pc + 3) (L) (st) (wr ++ wof u)) : gj_J p l e R s m args below meth c cells slots Q D cl A nL (pc) (L) (stk) (w) := by
  subst hstk
  intro H locs ls hP hD hS hv
  have hPc := gj_subP hP isC hC
  have hDc := hD.sub isC hnC hC
  have hF := va_free hD hS hA isC hC
  refine va_callv (va_runS ⟨X.1, X.2.1, X.2.2.1, X.2.2.2.1, X.2.2.2.2.1⟩ (hM H.size) cw ⟨gj_blind, fun U hU hW => ⟨rfl, by rw [hU], by rw [hU]; exact hPc, va_K.moved hW.alike X.2.2.2.2.2.1, hDc.weaken (fun _ _ _ _ => trivial), X.2.2.2.2.2.2.warm hW⟩⟩ rfl hn hv.1 rfl (lv_room hst) hdg hf) hS (fun q _ h => hF q h) hF (fun u t H1 locs1 ht hvm hw hB hz1 hk1 hS1 => ?_)
  have hP1 := hB.1
  rw [ht] at hP1
  obtain ⟨hP2, hD2⟩ := va_join hP hD isC isR hC hR hnR hdis hk1 hF hP1 hB.2.2
  exact kk u hw H1 locs1 ls hP2 hD2 hS1 hv
theorem gj_cutSNV {K : S → Prop} {mc ms : Nat} {host : String} (X : gj_X p s m c args cc nL own Ts D cl tys) {As : List Value} (hM : gj_MV mc ms l y ws rm D cl tys w0 wof (As) K) (cw : va_CN R s args own index y host bytes maxL ret ws rm mc ms n ∧ (Cond.static y).before args s = true ∧ True) (isC isR : List Nat) (hC : isC.map (fun i => w[i]?) = w0.map some) (hR : isR.map (fun i => w[i]?) = wr.map some) (hnC : va_nd isC = true) (hnR : va_nd isR = true) (hdis : ∀ i ∈ isR, i ∉ isC) (hA : ∀ q : Nat, s.heap.size ≤ q → A q) (hn : As.length = n) (hst : (st.map fun v => v.category).sum ≤ 8) (hf : cells + mc ≤ R.cells ∧ slots + ms ≤ R.slots) (hdg : decode cc pc = .ok (.invokestatic index, 3)) {stk : List Value} (hstk : stk = As.reverse ++ st) (kk : ∀ u, K u → gj_J p l e R s m args below meth c (cells + mc) (slots + ms) Q D cl A nL (pc + 3) (L) (st) (wr ++ wof u)) : gj_J p l e R s m args below meth c cells slots Q D cl A nL (pc) (L) (stk) (w) := by
  subst hstk
  intro H locs ls hP hD hS hv
  have hPc := gj_subP hP isC hC
  have hDc := hD.sub isC hnC hC
  have hF := va_free hD hS hA isC hC
  refine va_callv (va_runSN ⟨X.1, X.2.1, X.2.2.1, X.2.2.2.1, X.2.2.2.2.1⟩ (hM H.size) cw ⟨gj_blind, fun U hU hW => ⟨rfl, by rw [hU], by rw [hU]; exact hPc, va_K.moved hW.alike X.2.2.2.2.2.1, hDc.weaken (fun _ _ _ _ => trivial), X.2.2.2.2.2.2.warm hW⟩⟩ rfl hn hv.1 rfl (lv_room hst) hdg hf) hS (fun q _ h => hF q h) hF (fun u t H1 locs1 ht hvm hw hB hz1 hk1 hS1 => ?_)
  have hP1 := hB.1
  rw [ht] at hP1
  obtain ⟨hP2, hD2⟩ := va_join hP hD isC isR hC hR hnR hdis hk1 hF hP1 hB.2.2
  exact kk u hw H1 locs1 ls hP2 hD2 hS1 hv
theorem gj_cutIV {K : S → Prop} {mc ms : Nat} {b : Nat} (X : gj_X p s m c args cc nL own Ts D cl tys) {As : List Value} (hM : gj_MV mc ms l y ws rm D cl tys w0 wof (.ref b :: As) K) (cw : CallB R s args own index y bytes maxL none ws rm mc ms n ∧ y.name = "<init>" ∧ (Cond.instanceMethod y).before args s = true) (isC isR : List Nat) (hC : isC.map (fun i => w[i]?) = w0.map some) (hR : isR.map (fun i => w[i]?) = wr.map some) (hnC : va_nd isC = true) (hnR : va_nd isR = true) (hdis : ∀ i ∈ isR, i ∉ isC) (hA : ∀ q : Nat, s.heap.size ≤ q → A q) (hn : As.length = n) (hst : (st.map fun v => v.category).sum ≤ 8) (hf : cells + mc ≤ R.cells ∧ slots + ms ≤ R.slots) (hdg : decode cc pc = .ok (.invokespecial index, 3)) {stk : List Value} (hstk : stk = As.reverse ++ .ref b :: st) (kk : ∀ u, K u → gj_J p l e R s m args below meth c (cells + mc) (slots + ms) Q D cl A nL (pc + 3) (L) (st) (wr ++ wof u)) : gj_J p l e R s m args below meth c cells slots Q D cl A nL (pc) (L) (stk) (w) := by
  subst hstk
  intro H locs ls hP hD hS hv
  have hPc := gj_subP hP isC hC
  have hDc := hD.sub isC hnC hC
  have hF := va_free hD hS hA isC hC
  refine va_callv (va_runI ⟨X.1, X.2.1, X.2.2.1, X.2.2.2.1, X.2.2.2.2.1⟩ (hM H.size) cw ⟨gj_blind, fun U hU hW => ⟨rfl, by rw [hU], by rw [hU]; exact hPc, va_K.moved hW.alike X.2.2.2.2.2.1, hDc.weaken (fun _ _ _ _ => trivial), X.2.2.2.2.2.2.warm hW⟩⟩ rfl hn hv.1 rfl (lv_room hst) hdg hf) hS (fun q _ h => hF q h) hF (fun u t H1 locs1 ht hvm hw hB hz1 hk1 hS1 => ?_)
  have hP1 := hB.1
  rw [ht] at hP1
  obtain ⟨hP2, hD2⟩ := va_join hP hD isC isR hC hR hnR hdis hk1 hF hP1 hB.2.2
  exact kk u hw H1 locs1 ls hP2 hD2 hS1 hv
theorem gj_cutINV {K : S → Prop} {mc ms : Nat} {host : String} {b : Nat} (X : gj_X p s m c args cc nL own Ts D cl tys) {As : List Value} (hM : gj_MV mc ms l y ws rm D cl tys w0 wof (.ref b :: As) K) (cw : va_CN R s args own index y host bytes maxL none ws rm mc ms n ∧ y.name = "<init>" ∧ (Cond.instanceMethod y).before args s = true) (isC isR : List Nat) (hC : isC.map (fun i => w[i]?) = w0.map some) (hR : isR.map (fun i => w[i]?) = wr.map some) (hnC : va_nd isC = true) (hnR : va_nd isR = true) (hdis : ∀ i ∈ isR, i ∉ isC) (hA : ∀ q : Nat, s.heap.size ≤ q → A q) (hn : As.length = n) (hst : (st.map fun v => v.category).sum ≤ 8) (hf : cells + mc ≤ R.cells ∧ slots + ms ≤ R.slots) (hdg : decode cc pc = .ok (.invokespecial index, 3)) {stk : List Value} (hstk : stk = As.reverse ++ .ref b :: st) (kk : ∀ u, K u → gj_J p l e R s m args below meth c (cells + mc) (slots + ms) Q D cl A nL (pc + 3) (L) (st) (wr ++ wof u)) : gj_J p l e R s m args below meth c cells slots Q D cl A nL (pc) (L) (stk) (w) := by
  subst hstk
  intro H locs ls hP hD hS hv
  have hPc := gj_subP hP isC hC
  have hDc := hD.sub isC hnC hC
  have hF := va_free hD hS hA isC hC
  refine va_callv (va_runIN ⟨X.1, X.2.1, X.2.2.1, X.2.2.2.1, X.2.2.2.2.1⟩ (hM H.size) cw ⟨gj_blind, fun U hU hW => ⟨rfl, by rw [hU], by rw [hU]; exact hPc, va_K.moved hW.alike X.2.2.2.2.2.1, hDc.weaken (fun _ _ _ _ => trivial), X.2.2.2.2.2.2.warm hW⟩⟩ rfl hn hv.1 rfl (lv_room hst) hdg hf) hS (fun q _ h => hF q h) hF (fun u t H1 locs1 ht hvm hw hB hz1 hk1 hS1 => ?_)
  have hP1 := hB.1
  rw [ht] at hP1
  obtain ⟨hP2, hD2⟩ := va_join hP hD isC isR hC hR hnR hdis hk1 hF hP1 hB.2.2
  exact kk u hw H1 locs1 ls hP2 hD2 hS1 hv
end GJC
theorem inX0 : ∀ w ∈ wsX00, w ∈ gj_tbl := by decide +kernel
theorem inX1 : ∀ w ∈ wsX10, w ∈ gj_tbl := by decide +kernel
theorem inX2 : ∀ w ∈ wsX20, w ∈ gj_tbl := by decide +kernel
theorem inX3 : ∀ w ∈ wsX30, w ∈ gj_tbl := by decide +kernel
theorem inX4 : ∀ w ∈ wsX40, w ∈ gj_tbl := by decide +kernel
theorem inX5 : ∀ w ∈ wsX50, w ∈ gj_tbl := by decide +kernel
theorem inX6 : ∀ w ∈ wsX60, w ∈ gj_tbl := by decide +kernel
theorem inX7 : ∀ w ∈ wsX70, w ∈ gj_tbl := by decide +kernel
theorem inX8 : ∀ w ∈ wsX80, w ∈ gj_tbl := by decide +kernel
theorem inX9 : ∀ w ∈ wsX90, w ∈ gj_tbl := by decide +kernel
end
section
theorem tw_1 : (Cond.initialized "GrammarLoom") ∈ gj_tbl := gj_in (List.mem_append_right _ (List.mem_of_getElem? (i := 1) (by decide +kernel))) rfl
theorem tw_2 : (Cond.initialized "GrammarLoom$Grammar") ∈ gj_tbl := gj_in (List.mem_append_right _ (List.mem_of_getElem? (i := 2) (by decide +kernel))) rfl
theorem tw_3 : (Cond.initialized "GrammarLoom$Lengths") ∈ gj_tbl := gj_in (List.mem_append_right _ (List.mem_of_getElem? (i := 3) (by decide +kernel))) rfl
theorem tw_4 : (Cond.initialized "GrammarLoom$Leads") ∈ gj_tbl := gj_in (List.mem_append_right _ (List.mem_of_getElem? (i := 4) (by decide +kernel))) rfl
theorem tw_5 : (Cond.initialized "GrammarLoom$Counts") ∈ gj_tbl := gj_in (List.mem_append_right _ (List.mem_of_getElem? (i := 5) (by decide +kernel))) rfl
theorem tw_6 : (Cond.initialized "GrammarLoom$Pile") ∈ gj_tbl := gj_in (List.mem_append_right _ (List.mem_of_getElem? (i := 6) (by decide +kernel))) rfl
theorem tw_7 : (Cond.initialized "GrammarLoom$Weaver") ∈ gj_tbl := gj_in (List.mem_append_right _ (List.mem_of_getElem? (i := 7) (by decide +kernel))) rfl
theorem tw_8 : (Cond.initialized "GrammarLoom$Drawing") ∈ gj_tbl := gj_in (List.mem_append_right _ (List.mem_of_getElem? (i := 8) (by decide +kernel))) rfl
theorem tw_9 : (Cond.initialized "GrammarLoom$Listing") ∈ gj_tbl := gj_in (List.mem_append_right _ (List.mem_of_getElem? (i := 9) (by decide +kernel))) rfl
theorem tw_11 : (Cond.initialized "java/lang/System") ∈ gj_tbl := gj_in (List.mem_append_right _ (List.mem_of_getElem? (i := 11) (by decide +kernel))) rfl
theorem tw_12 : (Cond.initialized "java/util/Arrays") ∈ gj_tbl := gj_in (List.mem_append_right _ (List.mem_of_getElem? (i := 12) (by decide +kernel))) rfl
theorem tw_13 : (Cond.initialized "java/lang/Math") ∈ gj_tbl := gj_in (List.mem_append_right _ (List.mem_of_getElem? (i := 13) (by decide +kernel))) rfl
theorem tw_19 : (Cond.methodLink "GrammarLoom" (1 : Nat) ({ cls := "java/lang/Object", name := "<init>", desc := "()V" } : Jvm.MethodName)) ∈ gj_tbl := gj_in (List.mem_append_right _ (List.mem_of_getElem? (i := 19) (by decide +kernel))) rfl
theorem tw_20 : (Cond.instanceMethod ({ cls := "java/lang/Object", name := "<init>", desc := "()V" } : Jvm.MethodName)) ∈ gj_tbl := gj_in (List.mem_append_right _ (List.mem_of_getElem? (i := 20) (by decide +kernel))) rfl
theorem tw_21 : (Cond.code ({ cls := "java/lang/Object", name := "<init>", desc := "()V" } : Jvm.MethodName) object_method_1_code (1 : Nat) (Option.none : Option Jvm.ClassFile.FieldType)) ∈ gj_tbl := gj_in (List.mem_append_right _ (List.mem_of_getElem? (i := 21) (by decide +kernel))) rfl
theorem tw_22 : (Cond.classLink "GrammarLoom" (13 : Nat) "GrammarLoom$Grammar") ∈ gj_tbl := gj_in (List.mem_append_right _ (List.mem_of_getElem? (i := 22) (by decide +kernel))) rfl
theorem tw_23 : (Cond.instantiable "GrammarLoom$Grammar" (4 : Nat)) ∈ gj_tbl := gj_in (List.mem_append_right _ (List.mem_of_getElem? (i := 23) (by decide +kernel))) rfl
theorem tn_24 : (Cond.methodLinkNest "GrammarLoom" (15 : Nat) ({ cls := "GrammarLoom$Grammar", name := "<init>", desc := "()V" } : Jvm.MethodName) "GrammarLoom") ∈ gj_nest := gj_inN (List.mem_of_getElem? (i := 24) (by decide +kernel)) rfl
theorem tw_25 : (Cond.instanceMethod ({ cls := "GrammarLoom$Grammar", name := "<init>", desc := "()V" } : Jvm.MethodName)) ∈ gj_tbl := gj_in (List.mem_append_right _ (List.mem_of_getElem? (i := 25) (by decide +kernel))) rfl
theorem tw_26 : (Cond.code ({ cls := "GrammarLoom$Grammar", name := "<init>", desc := "()V" } : Jvm.MethodName) prog_4_method_1_code (1 : Nat) (Option.none : Option Jvm.ClassFile.FieldType)) ∈ gj_tbl := gj_in (List.mem_append_right _ (List.mem_of_getElem? (i := 26) (by decide +kernel))) rfl
theorem tw_27 : (Cond.methodLink "GrammarLoom$Grammar" (3 : Nat) ({ cls := "java/lang/Object", name := "<init>", desc := "()V" } : Jvm.MethodName)) ∈ gj_tbl := gj_in (List.mem_append_right _ (List.mem_of_getElem? (i := 27) (by decide +kernel))) rfl
theorem tw_28 : (Cond.fieldLink "GrammarLoom$Grammar" (9 : Nat) "GrammarLoom$Grammar" "left" "[I") ∈ gj_tbl := gj_in (List.mem_append_right _ (List.mem_of_getElem? (i := 28) (by decide +kernel))) rfl
theorem tw_29 : (Cond.fieldLink "GrammarLoom$Grammar" (15 : Nat) "GrammarLoom$Grammar" "sizes" "[I") ∈ gj_tbl := gj_in (List.mem_append_right _ (List.mem_of_getElem? (i := 29) (by decide +kernel))) rfl
theorem tw_30 : (Cond.fieldLink "GrammarLoom$Grammar" (18 : Nat) "GrammarLoom$Grammar" "right" "[I") ∈ gj_tbl := gj_in (List.mem_append_right _ (List.mem_of_getElem? (i := 30) (by decide +kernel))) rfl
theorem tw_31 : (Cond.fieldLink "GrammarLoom$Grammar" (21 : Nat) "GrammarLoom$Grammar" "rules" "I") ∈ gj_tbl := gj_in (List.mem_append_right _ (List.mem_of_getElem? (i := 31) (by decide +kernel))) rfl
theorem tn_32 : (Cond.fieldLinkNest "GrammarLoom" (77 : Nat) "GrammarLoom$Grammar" "rules" "I" "GrammarLoom") ∈ gj_nest := gj_inN (List.mem_of_getElem? (i := 32) (by decide +kernel)) rfl
theorem tn_33 : (Cond.fieldLinkNest "GrammarLoom$Leads" (36 : Nat) "GrammarLoom$Grammar" "rules" "I" "GrammarLoom") ∈ gj_nest := gj_inN (List.mem_of_getElem? (i := 33) (by decide +kernel)) rfl
theorem tn_34 : (Cond.fieldLinkNest "GrammarLoom$Weaver" (84 : Nat) "GrammarLoom$Grammar" "rules" "I" "GrammarLoom") ∈ gj_nest := gj_inN (List.mem_of_getElem? (i := 34) (by decide +kernel)) rfl
theorem tn_35 : (Cond.fieldLinkNest "GrammarLoom$Lengths" (42 : Nat) "GrammarLoom$Grammar" "rules" "I" "GrammarLoom") ∈ gj_nest := gj_inN (List.mem_of_getElem? (i := 35) (by decide +kernel)) rfl
theorem tn_36 : (Cond.fieldLinkNest "GrammarLoom$Counts" (63 : Nat) "GrammarLoom$Grammar" "rules" "I" "GrammarLoom") ∈ gj_nest := gj_inN (List.mem_of_getElem? (i := 36) (by decide +kernel)) rfl
theorem tw_46 : (Cond.arrayClass Jvm.ClassFile.FieldType.int) ∈ gj_tbl := gj_in (List.mem_append_right _ (List.mem_of_getElem? (i := 46) (by decide +kernel))) rfl
theorem tw_47 : (Cond.classLink "GrammarLoom" (20 : Nat) "GrammarLoom$Lengths") ∈ gj_tbl := gj_in (List.mem_append_right _ (List.mem_of_getElem? (i := 47) (by decide +kernel))) rfl
theorem tw_48 : (Cond.instantiable "GrammarLoom$Lengths" (3 : Nat)) ∈ gj_tbl := gj_in (List.mem_append_right _ (List.mem_of_getElem? (i := 48) (by decide +kernel))) rfl
theorem tw_49 : (Cond.methodLink "GrammarLoom" (22 : Nat) ({ cls := "GrammarLoom$Lengths", name := "<init>", desc := "(LGrammarLoom$Grammar;)V" } : Jvm.MethodName)) ∈ gj_tbl := gj_in (List.mem_append_right _ (List.mem_of_getElem? (i := 49) (by decide +kernel))) rfl
theorem tw_50 : (Cond.instanceMethod ({ cls := "GrammarLoom$Lengths", name := "<init>", desc := "(LGrammarLoom$Grammar;)V" } : Jvm.MethodName)) ∈ gj_tbl := gj_in (List.mem_append_right _ (List.mem_of_getElem? (i := 50) (by decide +kernel))) rfl
theorem tw_51 : (Cond.code ({ cls := "GrammarLoom$Lengths", name := "<init>", desc := "(LGrammarLoom$Grammar;)V" } : Jvm.MethodName) prog_6_method_1_code (2 : Nat) (Option.none : Option Jvm.ClassFile.FieldType)) ∈ gj_tbl := gj_in (List.mem_append_right _ (List.mem_of_getElem? (i := 51) (by decide +kernel))) rfl
theorem tw_52 : (Cond.methodLink "GrammarLoom$Lengths" (3 : Nat) ({ cls := "java/lang/Object", name := "<init>", desc := "()V" } : Jvm.MethodName)) ∈ gj_tbl := gj_in (List.mem_append_right _ (List.mem_of_getElem? (i := 52) (by decide +kernel))) rfl
theorem tw_53 : (Cond.fieldLink "GrammarLoom$Lengths" (18 : Nat) "GrammarLoom$Lengths" "grammar" "LGrammarLoom$Grammar;") ∈ gj_tbl := gj_in (List.mem_append_right _ (List.mem_of_getElem? (i := 53) (by decide +kernel))) rfl
theorem tw_54 : (Cond.fieldLink "GrammarLoom$Lengths" (9 : Nat) "GrammarLoom$Lengths" "least" "[I") ∈ gj_tbl := gj_in (List.mem_append_right _ (List.mem_of_getElem? (i := 54) (by decide +kernel))) rfl
theorem tw_55 : (Cond.fieldLink "GrammarLoom$Lengths" (15 : Nat) "GrammarLoom$Lengths" "around" "[I") ∈ gj_tbl := gj_in (List.mem_append_right _ (List.mem_of_getElem? (i := 55) (by decide +kernel))) rfl
theorem tw_63 : (Cond.classLink "GrammarLoom" (29 : Nat) "GrammarLoom$Leads") ∈ gj_tbl := gj_in (List.mem_append_right _ (List.mem_of_getElem? (i := 63) (by decide +kernel))) rfl
theorem tw_64 : (Cond.instantiable "GrammarLoom$Leads" (5 : Nat)) ∈ gj_tbl := gj_in (List.mem_append_right _ (List.mem_of_getElem? (i := 64) (by decide +kernel))) rfl
theorem tw_65 : (Cond.methodLink "GrammarLoom" (31 : Nat) ({ cls := "GrammarLoom$Leads", name := "<init>", desc := "(LGrammarLoom$Grammar;LGrammarLoom$Lengths;)V" } : Jvm.MethodName)) ∈ gj_tbl := gj_in (List.mem_append_right _ (List.mem_of_getElem? (i := 65) (by decide +kernel))) rfl
theorem tw_66 : (Cond.instanceMethod ({ cls := "GrammarLoom$Leads", name := "<init>", desc := "(LGrammarLoom$Grammar;LGrammarLoom$Lengths;)V" } : Jvm.MethodName)) ∈ gj_tbl := gj_in (List.mem_append_right _ (List.mem_of_getElem? (i := 66) (by decide +kernel))) rfl
theorem tw_67 : (Cond.code ({ cls := "GrammarLoom$Leads", name := "<init>", desc := "(LGrammarLoom$Grammar;LGrammarLoom$Lengths;)V" } : Jvm.MethodName) prog_5_method_1_code (3 : Nat) (Option.none : Option Jvm.ClassFile.FieldType)) ∈ gj_tbl := gj_in (List.mem_append_right _ (List.mem_of_getElem? (i := 67) (by decide +kernel))) rfl
theorem tw_68 : (Cond.methodLink "GrammarLoom$Leads" (3 : Nat) ({ cls := "java/lang/Object", name := "<init>", desc := "()V" } : Jvm.MethodName)) ∈ gj_tbl := gj_in (List.mem_append_right _ (List.mem_of_getElem? (i := 68) (by decide +kernel))) rfl
theorem tw_69 : (Cond.fieldLink "GrammarLoom$Leads" (18 : Nat) "GrammarLoom$Leads" "grammar" "LGrammarLoom$Grammar;") ∈ gj_tbl := gj_in (List.mem_append_right _ (List.mem_of_getElem? (i := 69) (by decide +kernel))) rfl
theorem tw_70 : (Cond.fieldLink "GrammarLoom$Leads" (22 : Nat) "GrammarLoom$Leads" "lengths" "LGrammarLoom$Lengths;") ∈ gj_tbl := gj_in (List.mem_append_right _ (List.mem_of_getElem? (i := 70) (by decide +kernel))) rfl
theorem tw_71 : (Cond.fieldLink "GrammarLoom$Leads" (9 : Nat) "GrammarLoom$Leads" "targets" "[I") ∈ gj_tbl := gj_in (List.mem_append_right _ (List.mem_of_getElem? (i := 71) (by decide +kernel))) rfl
theorem tw_72 : (Cond.fieldLink "GrammarLoom$Leads" (15 : Nat) "GrammarLoom$Leads" "order" "[I") ∈ gj_tbl := gj_in (List.mem_append_right _ (List.mem_of_getElem? (i := 72) (by decide +kernel))) rfl
theorem tw_73 : (Cond.fieldLink "GrammarLoom$Leads" (26 : Nat) "GrammarLoom$Leads" "ordered" "I") ∈ gj_tbl := gj_in (List.mem_append_right _ (List.mem_of_getElem? (i := 73) (by decide +kernel))) rfl
theorem tw_85 : (Cond.classLink "GrammarLoom" (38 : Nat) "GrammarLoom$Counts") ∈ gj_tbl := gj_in (List.mem_append_right _ (List.mem_of_getElem? (i := 85) (by decide +kernel))) rfl
theorem tw_86 : (Cond.instantiable "GrammarLoom$Counts" (6 : Nat)) ∈ gj_tbl := gj_in (List.mem_append_right _ (List.mem_of_getElem? (i := 86) (by decide +kernel))) rfl
theorem tw_87 : (Cond.methodLink "GrammarLoom" (40 : Nat) ({ cls := "GrammarLoom$Counts", name := "<init>", desc := "(LGrammarLoom$Grammar;LGrammarLoom$Leads;)V" } : Jvm.MethodName)) ∈ gj_tbl := gj_in (List.mem_append_right _ (List.mem_of_getElem? (i := 87) (by decide +kernel))) rfl
theorem tw_88 : (Cond.instanceMethod ({ cls := "GrammarLoom$Counts", name := "<init>", desc := "(LGrammarLoom$Grammar;LGrammarLoom$Leads;)V" } : Jvm.MethodName)) ∈ gj_tbl := gj_in (List.mem_append_right _ (List.mem_of_getElem? (i := 88) (by decide +kernel))) rfl
theorem tw_89 : (Cond.code ({ cls := "GrammarLoom$Counts", name := "<init>", desc := "(LGrammarLoom$Grammar;LGrammarLoom$Leads;)V" } : Jvm.MethodName) prog_2_method_1_code (3 : Nat) (Option.none : Option Jvm.ClassFile.FieldType)) ∈ gj_tbl := gj_in (List.mem_append_right _ (List.mem_of_getElem? (i := 89) (by decide +kernel))) rfl
theorem tw_90 : (Cond.methodLink "GrammarLoom$Counts" (3 : Nat) ({ cls := "java/lang/Object", name := "<init>", desc := "()V" } : Jvm.MethodName)) ∈ gj_tbl := gj_in (List.mem_append_right _ (List.mem_of_getElem? (i := 90) (by decide +kernel))) rfl
theorem tw_91 : (Cond.fieldLink "GrammarLoom$Counts" (22 : Nat) "GrammarLoom$Counts" "grammar" "LGrammarLoom$Grammar;") ∈ gj_tbl := gj_in (List.mem_append_right _ (List.mem_of_getElem? (i := 91) (by decide +kernel))) rfl
theorem tw_92 : (Cond.fieldLink "GrammarLoom$Counts" (26 : Nat) "GrammarLoom$Counts" "leads" "LGrammarLoom$Leads;") ∈ gj_tbl := gj_in (List.mem_append_right _ (List.mem_of_getElem? (i := 92) (by decide +kernel))) rfl
theorem tw_93 : (Cond.fieldLink "GrammarLoom$Counts" (11 : Nat) "GrammarLoom$Counts" "trees" "[J") ∈ gj_tbl := gj_in (List.mem_append_right _ (List.mem_of_getElem? (i := 93) (by decide +kernel))) rfl
theorem tw_94 : (Cond.fieldLink "GrammarLoom$Counts" (15 : Nat) "GrammarLoom$Counts" "endings" "[J") ∈ gj_tbl := gj_in (List.mem_append_right _ (List.mem_of_getElem? (i := 94) (by decide +kernel))) rfl
theorem tw_95 : (Cond.fieldLink "GrammarLoom$Counts" (18 : Nat) "GrammarLoom$Counts" "leftOut" "I") ∈ gj_tbl := gj_in (List.mem_append_right _ (List.mem_of_getElem? (i := 95) (by decide +kernel))) rfl
theorem tw_96 : (Cond.fieldLink "GrammarLoom$Counts" (30 : Nat) "GrammarLoom$Counts" "counted" "I") ∈ gj_tbl := gj_in (List.mem_append_right _ (List.mem_of_getElem? (i := 96) (by decide +kernel))) rfl
theorem tw_110 : (Cond.arrayClass Jvm.ClassFile.FieldType.long) ∈ gj_tbl := gj_in (List.mem_append_right _ (List.mem_of_getElem? (i := 110) (by decide +kernel))) rfl
theorem tw_111 : (Cond.classLink "GrammarLoom" (50 : Nat) "GrammarLoom$Pile") ∈ gj_tbl := gj_in (List.mem_append_right _ (List.mem_of_getElem? (i := 111) (by decide +kernel))) rfl
theorem tw_112 : (Cond.instantiable "GrammarLoom$Pile" (4 : Nat)) ∈ gj_tbl := gj_in (List.mem_append_right _ (List.mem_of_getElem? (i := 112) (by decide +kernel))) rfl
theorem tn_113 : (Cond.methodLinkNest "GrammarLoom" (52 : Nat) ({ cls := "GrammarLoom$Pile", name := "<init>", desc := "()V" } : Jvm.MethodName) "GrammarLoom") ∈ gj_nest := gj_inN (List.mem_of_getElem? (i := 113) (by decide +kernel)) rfl
theorem tw_114 : (Cond.instanceMethod ({ cls := "GrammarLoom$Pile", name := "<init>", desc := "()V" } : Jvm.MethodName)) ∈ gj_tbl := gj_in (List.mem_append_right _ (List.mem_of_getElem? (i := 114) (by decide +kernel))) rfl
theorem tw_115 : (Cond.code ({ cls := "GrammarLoom$Pile", name := "<init>", desc := "()V" } : Jvm.MethodName) prog_8_method_1_code (1 : Nat) (Option.none : Option Jvm.ClassFile.FieldType)) ∈ gj_tbl := gj_in (List.mem_append_right _ (List.mem_of_getElem? (i := 115) (by decide +kernel))) rfl
theorem tw_116 : (Cond.methodLink "GrammarLoom$Pile" (3 : Nat) ({ cls := "java/lang/Object", name := "<init>", desc := "()V" } : Jvm.MethodName)) ∈ gj_tbl := gj_in (List.mem_append_right _ (List.mem_of_getElem? (i := 116) (by decide +kernel))) rfl
theorem tw_117 : (Cond.fieldLink "GrammarLoom$Pile" (11 : Nat) "GrammarLoom$Pile" "symbols" "[I") ∈ gj_tbl := gj_in (List.mem_append_right _ (List.mem_of_getElem? (i := 117) (by decide +kernel))) rfl
theorem tn_118 : (Cond.fieldLinkNest "GrammarLoom$Listing" (52 : Nat) "GrammarLoom$Pile" "symbols" "[I" "GrammarLoom") ∈ gj_nest := gj_inN (List.mem_of_getElem? (i := 118) (by decide +kernel)) rfl
theorem tn_119 : (Cond.fieldLinkNest "GrammarLoom$Weaver" (62 : Nat) "GrammarLoom$Pile" "symbols" "[I" "GrammarLoom") ∈ gj_nest := gj_inN (List.mem_of_getElem? (i := 119) (by decide +kernel)) rfl
theorem tw_120 : (Cond.fieldLink "GrammarLoom$Pile" (15 : Nat) "GrammarLoom$Pile" "lengths" "[I") ∈ gj_tbl := gj_in (List.mem_append_right _ (List.mem_of_getElem? (i := 120) (by decide +kernel))) rfl
theorem tn_121 : (Cond.fieldLinkNest "GrammarLoom$Weaver" (73 : Nat) "GrammarLoom$Pile" "lengths" "[I" "GrammarLoom") ∈ gj_nest := gj_inN (List.mem_of_getElem? (i := 121) (by decide +kernel)) rfl
theorem tn_122 : (Cond.fieldLinkNest "GrammarLoom$Listing" (78 : Nat) "GrammarLoom$Pile" "lengths" "[I" "GrammarLoom") ∈ gj_nest := gj_inN (List.mem_of_getElem? (i := 122) (by decide +kernel)) rfl
theorem tw_123 : (Cond.fieldLink "GrammarLoom$Pile" (18 : Nat) "GrammarLoom$Pile" "numbers" "[J") ∈ gj_tbl := gj_in (List.mem_append_right _ (List.mem_of_getElem? (i := 123) (by decide +kernel))) rfl
theorem tn_124 : (Cond.fieldLinkNest "GrammarLoom$Listing" (55 : Nat) "GrammarLoom$Pile" "numbers" "[J" "GrammarLoom") ∈ gj_nest := gj_inN (List.mem_of_getElem? (i := 124) (by decide +kernel)) rfl
theorem tn_125 : (Cond.fieldLinkNest "GrammarLoom$Weaver" (76 : Nat) "GrammarLoom$Pile" "numbers" "[J" "GrammarLoom") ∈ gj_nest := gj_inN (List.mem_of_getElem? (i := 125) (by decide +kernel)) rfl
theorem tn_126 : (Cond.fieldLinkNest "GrammarLoom$Listing" (45 : Nat) "GrammarLoom$Pile" "size" "I" "GrammarLoom") ∈ gj_nest := gj_inN (List.mem_of_getElem? (i := 126) (by decide +kernel)) rfl
theorem tn_127 : (Cond.fieldLinkNest "GrammarLoom$Weaver" (56 : Nat) "GrammarLoom$Pile" "size" "I" "GrammarLoom") ∈ gj_nest := gj_inN (List.mem_of_getElem? (i := 127) (by decide +kernel)) rfl
theorem tw_137 : (Cond.classLink "GrammarLoom" (53 : Nat) "GrammarLoom$Weaver") ∈ gj_tbl := gj_in (List.mem_append_right _ (List.mem_of_getElem? (i := 137) (by decide +kernel))) rfl
theorem tw_138 : (Cond.instantiable "GrammarLoom$Weaver" (6 : Nat)) ∈ gj_tbl := gj_in (List.mem_append_right _ (List.mem_of_getElem? (i := 138) (by decide +kernel))) rfl
theorem tw_139 : (Cond.methodLink "GrammarLoom" (55 : Nat) ({ cls := "GrammarLoom$Weaver", name := "<init>", desc := "(LGrammarLoom$Grammar;LGrammarLoom$Counts;LGrammarLoom$Pile;)V" } : Jvm.MethodName)) ∈ gj_tbl := gj_in (List.mem_append_right _ (List.mem_of_getElem? (i := 139) (by decide +kernel))) rfl
theorem tw_140 : (Cond.instanceMethod ({ cls := "GrammarLoom$Weaver", name := "<init>", desc := "(LGrammarLoom$Grammar;LGrammarLoom$Counts;LGrammarLoom$Pile;)V" } : Jvm.MethodName)) ∈ gj_tbl := gj_in (List.mem_append_right _ (List.mem_of_getElem? (i := 140) (by decide +kernel))) rfl
theorem tw_141 : (Cond.code ({ cls := "GrammarLoom$Weaver", name := "<init>", desc := "(LGrammarLoom$Grammar;LGrammarLoom$Counts;LGrammarLoom$Pile;)V" } : Jvm.MethodName) prog_9_method_1_code (4 : Nat) (Option.none : Option Jvm.ClassFile.FieldType)) ∈ gj_tbl := gj_in (List.mem_append_right _ (List.mem_of_getElem? (i := 141) (by decide +kernel))) rfl
theorem tw_142 : (Cond.methodLink "GrammarLoom$Weaver" (3 : Nat) ({ cls := "java/lang/Object", name := "<init>", desc := "()V" } : Jvm.MethodName)) ∈ gj_tbl := gj_in (List.mem_append_right _ (List.mem_of_getElem? (i := 142) (by decide +kernel))) rfl
theorem tw_143 : (Cond.classLink "GrammarLoom$Weaver" (9 : Nat) "GrammarLoom$Drawing") ∈ gj_tbl := gj_in (List.mem_append_right _ (List.mem_of_getElem? (i := 143) (by decide +kernel))) rfl
theorem tw_144 : (Cond.instantiable "GrammarLoom$Drawing" (4 : Nat)) ∈ gj_tbl := gj_in (List.mem_append_right _ (List.mem_of_getElem? (i := 144) (by decide +kernel))) rfl
theorem tn_145 : (Cond.methodLinkNest "GrammarLoom$Weaver" (11 : Nat) ({ cls := "GrammarLoom$Drawing", name := "<init>", desc := "()V" } : Jvm.MethodName) "GrammarLoom") ∈ gj_nest := gj_inN (List.mem_of_getElem? (i := 145) (by decide +kernel)) rfl
theorem tw_146 : (Cond.instanceMethod ({ cls := "GrammarLoom$Drawing", name := "<init>", desc := "()V" } : Jvm.MethodName)) ∈ gj_tbl := gj_in (List.mem_append_right _ (List.mem_of_getElem? (i := 146) (by decide +kernel))) rfl
theorem tw_147 : (Cond.code ({ cls := "GrammarLoom$Drawing", name := "<init>", desc := "()V" } : Jvm.MethodName) prog_3_method_1_code (1 : Nat) (Option.none : Option Jvm.ClassFile.FieldType)) ∈ gj_tbl := gj_in (List.mem_append_right _ (List.mem_of_getElem? (i := 147) (by decide +kernel))) rfl
theorem tw_148 : (Cond.methodLink "GrammarLoom$Drawing" (3 : Nat) ({ cls := "java/lang/Object", name := "<init>", desc := "()V" } : Jvm.MethodName)) ∈ gj_tbl := gj_in (List.mem_append_right _ (List.mem_of_getElem? (i := 148) (by decide +kernel))) rfl
theorem tw_149 : (Cond.fieldLink "GrammarLoom$Drawing" (9 : Nat) "GrammarLoom$Drawing" "rules" "[I") ∈ gj_tbl := gj_in (List.mem_append_right _ (List.mem_of_getElem? (i := 149) (by decide +kernel))) rfl
theorem tn_150 : (Cond.fieldLinkNest "GrammarLoom$Weaver" (37 : Nat) "GrammarLoom$Drawing" "rules" "[I" "GrammarLoom") ∈ gj_nest := gj_inN (List.mem_of_getElem? (i := 150) (by decide +kernel)) rfl
theorem tw_151 : (Cond.fieldLink "GrammarLoom$Drawing" (15 : Nat) "GrammarLoom$Drawing" "leaves" "[I") ∈ gj_tbl := gj_in (List.mem_append_right _ (List.mem_of_getElem? (i := 151) (by decide +kernel))) rfl
theorem tn_152 : (Cond.fieldLinkNest "GrammarLoom$Weaver" (44 : Nat) "GrammarLoom$Drawing" "leaves" "[I" "GrammarLoom") ∈ gj_nest := gj_inN (List.mem_of_getElem? (i := 152) (by decide +kernel)) rfl
theorem tw_153 : (Cond.fieldLink "GrammarLoom$Drawing" (18 : Nat) "GrammarLoom$Drawing" "ruleCount" "I") ∈ gj_tbl := gj_in (List.mem_append_right _ (List.mem_of_getElem? (i := 153) (by decide +kernel))) rfl
theorem tn_154 : (Cond.fieldLinkNest "GrammarLoom$Weaver" (33 : Nat) "GrammarLoom$Drawing" "ruleCount" "I" "GrammarLoom") ∈ gj_nest := gj_inN (List.mem_of_getElem? (i := 154) (by decide +kernel)) rfl
theorem tw_155 : (Cond.fieldLink "GrammarLoom$Drawing" (22 : Nat) "GrammarLoom$Drawing" "leafCount" "I") ∈ gj_tbl := gj_in (List.mem_append_right _ (List.mem_of_getElem? (i := 155) (by decide +kernel))) rfl
theorem tn_156 : (Cond.fieldLinkNest "GrammarLoom$Weaver" (41 : Nat) "GrammarLoom$Drawing" "leafCount" "I" "GrammarLoom") ∈ gj_nest := gj_inN (List.mem_of_getElem? (i := 156) (by decide +kernel)) rfl
theorem tw_166 : (Cond.fieldLink "GrammarLoom$Weaver" (21 : Nat) "GrammarLoom$Weaver" "grammar" "LGrammarLoom$Grammar;") ∈ gj_tbl := gj_in (List.mem_append_right _ (List.mem_of_getElem? (i := 166) (by decide +kernel))) rfl
theorem tw_167 : (Cond.fieldLink "GrammarLoom$Weaver" (25 : Nat) "GrammarLoom$Weaver" "counts" "LGrammarLoom$Counts;") ∈ gj_tbl := gj_in (List.mem_append_right _ (List.mem_of_getElem? (i := 167) (by decide +kernel))) rfl
theorem tw_168 : (Cond.fieldLink "GrammarLoom$Weaver" (29 : Nat) "GrammarLoom$Weaver" "pile" "LGrammarLoom$Pile;") ∈ gj_tbl := gj_in (List.mem_append_right _ (List.mem_of_getElem? (i := 168) (by decide +kernel))) rfl
theorem tw_169 : (Cond.fieldLink "GrammarLoom$Weaver" (12 : Nat) "GrammarLoom$Weaver" "latest" "LGrammarLoom$Drawing;") ∈ gj_tbl := gj_in (List.mem_append_right _ (List.mem_of_getElem? (i := 169) (by decide +kernel))) rfl
theorem tw_170 : (Cond.fieldLink "GrammarLoom$Weaver" (18 : Nat) "GrammarLoom$Weaver" "next" "LGrammarLoom$Drawing;") ∈ gj_tbl := gj_in (List.mem_append_right _ (List.mem_of_getElem? (i := 170) (by decide +kernel))) rfl
theorem tw_171 : (Cond.fieldLink "GrammarLoom$Weaver" (59 : Nat) "GrammarLoom$Weaver" "waiting" "I") ∈ gj_tbl := gj_in (List.mem_append_right _ (List.mem_of_getElem? (i := 171) (by decide +kernel))) rfl
theorem tw_185 : (Cond.classLink "GrammarLoom" (62 : Nat) "GrammarLoom$Listing") ∈ gj_tbl := gj_in (List.mem_append_right _ (List.mem_of_getElem? (i := 185) (by decide +kernel))) rfl
theorem tw_186 : (Cond.instantiable "GrammarLoom$Listing" (5 : Nat)) ∈ gj_tbl := gj_in (List.mem_append_right _ (List.mem_of_getElem? (i := 186) (by decide +kernel))) rfl
theorem tw_187 : (Cond.methodLink "GrammarLoom" (64 : Nat) ({ cls := "GrammarLoom$Listing", name := "<init>", desc := "(LGrammarLoom$Grammar;LGrammarLoom$Counts;LGrammarLoom$Pile;)V" } : Jvm.MethodName)) ∈ gj_tbl := gj_in (List.mem_append_right _ (List.mem_of_getElem? (i := 187) (by decide +kernel))) rfl
theorem tw_188 : (Cond.instanceMethod ({ cls := "GrammarLoom$Listing", name := "<init>", desc := "(LGrammarLoom$Grammar;LGrammarLoom$Counts;LGrammarLoom$Pile;)V" } : Jvm.MethodName)) ∈ gj_tbl := gj_in (List.mem_append_right _ (List.mem_of_getElem? (i := 188) (by decide +kernel))) rfl
theorem tw_189 : (Cond.code ({ cls := "GrammarLoom$Listing", name := "<init>", desc := "(LGrammarLoom$Grammar;LGrammarLoom$Counts;LGrammarLoom$Pile;)V" } : Jvm.MethodName) prog_7_method_1_code (4 : Nat) (Option.none : Option Jvm.ClassFile.FieldType)) ∈ gj_tbl := gj_in (List.mem_append_right _ (List.mem_of_getElem? (i := 189) (by decide +kernel))) rfl
theorem tw_190 : (Cond.methodLink "GrammarLoom$Listing" (3 : Nat) ({ cls := "java/lang/Object", name := "<init>", desc := "()V" } : Jvm.MethodName)) ∈ gj_tbl := gj_in (List.mem_append_right _ (List.mem_of_getElem? (i := 190) (by decide +kernel))) rfl
theorem tw_191 : (Cond.fieldLink "GrammarLoom$Listing" (15 : Nat) "GrammarLoom$Listing" "grammar" "LGrammarLoom$Grammar;") ∈ gj_tbl := gj_in (List.mem_append_right _ (List.mem_of_getElem? (i := 191) (by decide +kernel))) rfl
theorem tw_192 : (Cond.fieldLink "GrammarLoom$Listing" (19 : Nat) "GrammarLoom$Listing" "counts" "LGrammarLoom$Counts;") ∈ gj_tbl := gj_in (List.mem_append_right _ (List.mem_of_getElem? (i := 192) (by decide +kernel))) rfl
theorem tw_193 : (Cond.fieldLink "GrammarLoom$Listing" (23 : Nat) "GrammarLoom$Listing" "pile" "LGrammarLoom$Pile;") ∈ gj_tbl := gj_in (List.mem_append_right _ (List.mem_of_getElem? (i := 193) (by decide +kernel))) rfl
theorem tw_194 : (Cond.fieldLink "GrammarLoom$Listing" (9 : Nat) "GrammarLoom$Listing" "rules" "[I") ∈ gj_tbl := gj_in (List.mem_append_right _ (List.mem_of_getElem? (i := 194) (by decide +kernel))) rfl
theorem tw_195 : (Cond.fieldLink "GrammarLoom$Listing" (27 : Nat) "GrammarLoom$Listing" "size" "I") ∈ gj_tbl := gj_in (List.mem_append_right _ (List.mem_of_getElem? (i := 195) (by decide +kernel))) rfl
theorem tn_196 : (Cond.fieldLinkNest "GrammarLoom" (95 : Nat) "GrammarLoom$Listing" "size" "I" "GrammarLoom") ∈ gj_nest := gj_inN (List.mem_of_getElem? (i := 196) (by decide +kernel)) rfl
theorem tw_208 : (Cond.fieldLink "GrammarLoom" (9 : Nat) "GrammarLoom" "text" "[I") ∈ gj_tbl := gj_in (List.mem_append_right _ (List.mem_of_getElem? (i := 208) (by decide +kernel))) rfl
theorem tw_209 : (Cond.fieldLink "GrammarLoom" (69 : Nat) "GrammarLoom" "textSize" "I") ∈ gj_tbl := gj_in (List.mem_append_right _ (List.mem_of_getElem? (i := 209) (by decide +kernel))) rfl
theorem tw_210 : (Cond.fieldLink "GrammarLoom" (16 : Nat) "GrammarLoom" "grammar" "LGrammarLoom$Grammar;") ∈ gj_tbl := gj_in (List.mem_append_right _ (List.mem_of_getElem? (i := 210) (by decide +kernel))) rfl
theorem tw_211 : (Cond.fieldLink "GrammarLoom" (25 : Nat) "GrammarLoom" "lengths" "LGrammarLoom$Lengths;") ∈ gj_tbl := gj_in (List.mem_append_right _ (List.mem_of_getElem? (i := 211) (by decide +kernel))) rfl
theorem tw_212 : (Cond.fieldLink "GrammarLoom" (34 : Nat) "GrammarLoom" "leads" "LGrammarLoom$Leads;") ∈ gj_tbl := gj_in (List.mem_append_right _ (List.mem_of_getElem? (i := 212) (by decide +kernel))) rfl
theorem tw_213 : (Cond.fieldLink "GrammarLoom" (43 : Nat) "GrammarLoom" "all" "LGrammarLoom$Counts;") ∈ gj_tbl := gj_in (List.mem_append_right _ (List.mem_of_getElem? (i := 213) (by decide +kernel))) rfl
theorem tw_214 : (Cond.fieldLink "GrammarLoom" (47 : Nat) "GrammarLoom" "without" "LGrammarLoom$Counts;") ∈ gj_tbl := gj_in (List.mem_append_right _ (List.mem_of_getElem? (i := 214) (by decide +kernel))) rfl
theorem tw_215 : (Cond.fieldLink "GrammarLoom" (58 : Nat) "GrammarLoom" "weaver" "LGrammarLoom$Weaver;") ∈ gj_tbl := gj_in (List.mem_append_right _ (List.mem_of_getElem? (i := 215) (by decide +kernel))) rfl
theorem tw_216 : (Cond.fieldLink "GrammarLoom" (65 : Nat) "GrammarLoom" "listing" "LGrammarLoom$Listing;") ∈ gj_tbl := gj_in (List.mem_append_right _ (List.mem_of_getElem? (i := 216) (by decide +kernel))) rfl
theorem tw_217 : (Cond.fieldLink "GrammarLoom" (80 : Nat) "GrammarLoom" "studied" "Z") ∈ gj_tbl := gj_in (List.mem_append_right _ (List.mem_of_getElem? (i := 217) (by decide +kernel))) rfl
theorem tw_247 : (Cond.methodLink "GrammarLoom" (73 : Nat) ({ cls := "GrammarLoom", name := "isNonterminal", desc := "(I)Z" } : Jvm.MethodName)) ∈ gj_tbl := gj_in (List.mem_append_right _ (List.mem_of_getElem? (i := 247) (by decide +kernel))) rfl
theorem tw_248 : (Cond.static ({ cls := "GrammarLoom", name := "isNonterminal", desc := "(I)Z" } : Jvm.MethodName)) ∈ gj_tbl := gj_in (List.mem_append_right _ (List.mem_of_getElem? (i := 248) (by decide +kernel))) rfl
theorem tw_249 : (Cond.code ({ cls := "GrammarLoom", name := "isNonterminal", desc := "(I)Z" } : Jvm.MethodName) prog_1_method_17_code (1 : Nat) (Option.some Jvm.ClassFile.FieldType.boolean)) ∈ gj_tbl := gj_in (List.mem_append_right _ (List.mem_of_getElem? (i := 249) (by decide +kernel))) rfl
theorem tw_250 : (Cond.methodLink "GrammarLoom" (84 : Nat) ({ cls := "GrammarLoom$Grammar", name := "add", desc := "(I[II)I" } : Jvm.MethodName)) ∈ gj_tbl := gj_in (List.mem_append_right _ (List.mem_of_getElem? (i := 250) (by decide +kernel))) rfl
theorem tw_251 : (Cond.instanceMethod ({ cls := "GrammarLoom$Grammar", name := "add", desc := "(I[II)I" } : Jvm.MethodName)) ∈ gj_tbl := gj_in (List.mem_append_right _ (List.mem_of_getElem? (i := 251) (by decide +kernel))) rfl
theorem tw_252 : (Cond.selects "GrammarLoom$Grammar" ({ cls := "GrammarLoom$Grammar", name := "add", desc := "(I[II)I" } : Jvm.MethodName) ({ cls := "GrammarLoom$Grammar", name := "add", desc := "(I[II)I" } : Jvm.MethodName)) ∈ gj_tbl := gj_in (List.mem_append_right _ (List.mem_of_getElem? (i := 252) (by decide +kernel))) rfl
theorem tw_253 : (Cond.code ({ cls := "GrammarLoom$Grammar", name := "add", desc := "(I[II)I" } : Jvm.MethodName) prog_4_method_7_code (4 : Nat) (Option.some Jvm.ClassFile.FieldType.int)) ∈ gj_tbl := gj_in (List.mem_append_right _ (List.mem_of_getElem? (i := 253) (by decide +kernel))) rfl
theorem tw_254 : (Cond.methodLink "GrammarLoom$Grammar" (33 : Nat) ({ cls := "java/lang/System", name := "arraycopy", desc := "(Ljava/lang/Object;ILjava/lang/Object;II)V" } : Jvm.MethodName)) ∈ gj_tbl := gj_in (List.mem_append_right _ (List.mem_of_getElem? (i := 254) (by decide +kernel))) rfl
theorem tw_255 : (Cond.static ({ cls := "java/lang/System", name := "arraycopy", desc := "(Ljava/lang/Object;ILjava/lang/Object;II)V" } : Jvm.MethodName)) ∈ gj_tbl := gj_in (List.mem_append_right _ (List.mem_of_getElem? (i := 255) (by decide +kernel))) rfl
theorem tw_256 : (Cond.native ({ cls := "java/lang/System", name := "arraycopy", desc := "(Ljava/lang/Object;ILjava/lang/Object;II)V" } : Jvm.MethodName)) ∈ gj_tbl := gj_in (List.mem_append_right _ (List.mem_of_getElem? (i := 256) (by decide +kernel))) rfl
theorem tw_261 : (Cond.methodLink "GrammarLoom" (88 : Nat) ({ cls := "GrammarLoom$Grammar", name := "has", desc := "(I)Z" } : Jvm.MethodName)) ∈ gj_tbl := gj_in (List.mem_append_right _ (List.mem_of_getElem? (i := 261) (by decide +kernel))) rfl
theorem tw_262 : (Cond.instanceMethod ({ cls := "GrammarLoom$Grammar", name := "has", desc := "(I)Z" } : Jvm.MethodName)) ∈ gj_tbl := gj_in (List.mem_append_right _ (List.mem_of_getElem? (i := 262) (by decide +kernel))) rfl
theorem tw_263 : (Cond.selects "GrammarLoom$Grammar" ({ cls := "GrammarLoom$Grammar", name := "has", desc := "(I)Z" } : Jvm.MethodName) ({ cls := "GrammarLoom$Grammar", name := "has", desc := "(I)Z" } : Jvm.MethodName)) ∈ gj_tbl := gj_in (List.mem_append_right _ (List.mem_of_getElem? (i := 263) (by decide +kernel))) rfl
theorem tw_264 : (Cond.code ({ cls := "GrammarLoom$Grammar", name := "has", desc := "(I)Z" } : Jvm.MethodName) prog_4_method_2_code (2 : Nat) (Option.some Jvm.ClassFile.FieldType.boolean)) ∈ gj_tbl := gj_in (List.mem_append_right _ (List.mem_of_getElem? (i := 264) (by decide +kernel))) rfl
theorem tw_265 : (Cond.methodLink "GrammarLoom" (91 : Nat) ({ cls := "GrammarLoom$Grammar", name := "remove", desc := "(I)V" } : Jvm.MethodName)) ∈ gj_tbl := gj_in (List.mem_append_right _ (List.mem_of_getElem? (i := 265) (by decide +kernel))) rfl
theorem tw_266 : (Cond.instanceMethod ({ cls := "GrammarLoom$Grammar", name := "remove", desc := "(I)V" } : Jvm.MethodName)) ∈ gj_tbl := gj_in (List.mem_append_right _ (List.mem_of_getElem? (i := 266) (by decide +kernel))) rfl
theorem tw_267 : (Cond.selects "GrammarLoom$Grammar" ({ cls := "GrammarLoom$Grammar", name := "remove", desc := "(I)V" } : Jvm.MethodName) ({ cls := "GrammarLoom$Grammar", name := "remove", desc := "(I)V" } : Jvm.MethodName)) ∈ gj_tbl := gj_in (List.mem_append_right _ (List.mem_of_getElem? (i := 267) (by decide +kernel))) rfl
theorem tw_268 : (Cond.code ({ cls := "GrammarLoom$Grammar", name := "remove", desc := "(I)V" } : Jvm.MethodName) prog_4_method_8_code (4 : Nat) (Option.none : Option Jvm.ClassFile.FieldType)) ∈ gj_tbl := gj_in (List.mem_append_right _ (List.mem_of_getElem? (i := 268) (by decide +kernel))) rfl
theorem tw_277 : (Cond.methodLink "GrammarLoom" (98 : Nat) ({ cls := "GrammarLoom$Grammar", name := "sizeOf", desc := "(I)I" } : Jvm.MethodName)) ∈ gj_tbl := gj_in (List.mem_append_right _ (List.mem_of_getElem? (i := 277) (by decide +kernel))) rfl
theorem tw_278 : (Cond.instanceMethod ({ cls := "GrammarLoom$Grammar", name := "sizeOf", desc := "(I)I" } : Jvm.MethodName)) ∈ gj_tbl := gj_in (List.mem_append_right _ (List.mem_of_getElem? (i := 278) (by decide +kernel))) rfl
theorem tw_279 : (Cond.selects "GrammarLoom$Grammar" ({ cls := "GrammarLoom$Grammar", name := "sizeOf", desc := "(I)I" } : Jvm.MethodName) ({ cls := "GrammarLoom$Grammar", name := "sizeOf", desc := "(I)I" } : Jvm.MethodName)) ∈ gj_tbl := gj_in (List.mem_append_right _ (List.mem_of_getElem? (i := 279) (by decide +kernel))) rfl
theorem tw_280 : (Cond.code ({ cls := "GrammarLoom$Grammar", name := "sizeOf", desc := "(I)I" } : Jvm.MethodName) prog_4_method_4_code (2 : Nat) (Option.some Jvm.ClassFile.FieldType.int)) ∈ gj_tbl := gj_in (List.mem_append_right _ (List.mem_of_getElem? (i := 280) (by decide +kernel))) rfl
theorem tw_281 : (Cond.methodLink "GrammarLoom" (102 : Nat) ({ cls := "GrammarLoom$Grammar", name := "leftOf", desc := "(I)I" } : Jvm.MethodName)) ∈ gj_tbl := gj_in (List.mem_append_right _ (List.mem_of_getElem? (i := 281) (by decide +kernel))) rfl
theorem tw_282 : (Cond.instanceMethod ({ cls := "GrammarLoom$Grammar", name := "leftOf", desc := "(I)I" } : Jvm.MethodName)) ∈ gj_tbl := gj_in (List.mem_append_right _ (List.mem_of_getElem? (i := 282) (by decide +kernel))) rfl
theorem tw_283 : (Cond.selects "GrammarLoom$Grammar" ({ cls := "GrammarLoom$Grammar", name := "leftOf", desc := "(I)I" } : Jvm.MethodName) ({ cls := "GrammarLoom$Grammar", name := "leftOf", desc := "(I)I" } : Jvm.MethodName)) ∈ gj_tbl := gj_in (List.mem_append_right _ (List.mem_of_getElem? (i := 283) (by decide +kernel))) rfl
theorem tw_284 : (Cond.code ({ cls := "GrammarLoom$Grammar", name := "leftOf", desc := "(I)I" } : Jvm.MethodName) prog_4_method_3_code (2 : Nat) (Option.some Jvm.ClassFile.FieldType.int)) ∈ gj_tbl := gj_in (List.mem_append_right _ (List.mem_of_getElem? (i := 284) (by decide +kernel))) rfl
theorem tw_285 : (Cond.methodLink "GrammarLoom" (105 : Nat) ({ cls := "GrammarLoom$Grammar", name := "symbolAt", desc := "(II)I" } : Jvm.MethodName)) ∈ gj_tbl := gj_in (List.mem_append_right _ (List.mem_of_getElem? (i := 285) (by decide +kernel))) rfl
theorem tw_286 : (Cond.instanceMethod ({ cls := "GrammarLoom$Grammar", name := "symbolAt", desc := "(II)I" } : Jvm.MethodName)) ∈ gj_tbl := gj_in (List.mem_append_right _ (List.mem_of_getElem? (i := 286) (by decide +kernel))) rfl
theorem tw_287 : (Cond.selects "GrammarLoom$Grammar" ({ cls := "GrammarLoom$Grammar", name := "symbolAt", desc := "(II)I" } : Jvm.MethodName) ({ cls := "GrammarLoom$Grammar", name := "symbolAt", desc := "(II)I" } : Jvm.MethodName)) ∈ gj_tbl := gj_in (List.mem_append_right _ (List.mem_of_getElem? (i := 287) (by decide +kernel))) rfl
theorem tw_288 : (Cond.code ({ cls := "GrammarLoom$Grammar", name := "symbolAt", desc := "(II)I" } : Jvm.MethodName) prog_4_method_5_code (3 : Nat) (Option.some Jvm.ClassFile.FieldType.int)) ∈ gj_tbl := gj_in (List.mem_append_right _ (List.mem_of_getElem? (i := 288) (by decide +kernel))) rfl
theorem tw_293 : (Cond.methodLink "GrammarLoom" (109 : Nat) ({ cls := "GrammarLoom", name := "study", desc := "()V" } : Jvm.MethodName)) ∈ gj_tbl := gj_in (List.mem_append_right _ (List.mem_of_getElem? (i := 293) (by decide +kernel))) rfl
theorem tw_295 : (Cond.instanceMethod ({ cls := "GrammarLoom", name := "study", desc := "()V" } : Jvm.MethodName)) ∈ gj_tbl := gj_in (List.mem_append_right _ (List.mem_of_getElem? (i := 295) (by decide +kernel))) rfl
theorem tw_296 : (Cond.code ({ cls := "GrammarLoom", name := "study", desc := "()V" } : Jvm.MethodName) prog_1_method_19_code (1 : Nat) (Option.none : Option Jvm.ClassFile.FieldType)) ∈ gj_tbl := gj_in (List.mem_append_right _ (List.mem_of_getElem? (i := 296) (by decide +kernel))) rfl
theorem tw_297 : (Cond.methodLink "GrammarLoom" (160 : Nat) ({ cls := "GrammarLoom$Lengths", name := "find", desc := "()V" } : Jvm.MethodName)) ∈ gj_tbl := gj_in (List.mem_append_right _ (List.mem_of_getElem? (i := 297) (by decide +kernel))) rfl
theorem tw_298 : (Cond.instanceMethod ({ cls := "GrammarLoom$Lengths", name := "find", desc := "()V" } : Jvm.MethodName)) ∈ gj_tbl := gj_in (List.mem_append_right _ (List.mem_of_getElem? (i := 298) (by decide +kernel))) rfl
theorem tw_299 : (Cond.selects "GrammarLoom$Lengths" ({ cls := "GrammarLoom$Lengths", name := "find", desc := "()V" } : Jvm.MethodName) ({ cls := "GrammarLoom$Lengths", name := "find", desc := "()V" } : Jvm.MethodName)) ∈ gj_tbl := gj_in (List.mem_append_right _ (List.mem_of_getElem? (i := 299) (by decide +kernel))) rfl
theorem tw_300 : (Cond.code ({ cls := "GrammarLoom$Lengths", name := "find", desc := "()V" } : Jvm.MethodName) prog_6_method_5_code (3 : Nat) (Option.none : Option Jvm.ClassFile.FieldType)) ∈ gj_tbl := gj_in (List.mem_append_right _ (List.mem_of_getElem? (i := 300) (by decide +kernel))) rfl
theorem tw_301 : (Cond.methodLink "GrammarLoom$Lengths" (36 : Nat) ({ cls := "java/util/Arrays", name := "fill", desc := "([II)V" } : Jvm.MethodName)) ∈ gj_tbl := gj_in (List.mem_append_right _ (List.mem_of_getElem? (i := 301) (by decide +kernel))) rfl
theorem tw_302 : (Cond.static ({ cls := "java/util/Arrays", name := "fill", desc := "([II)V" } : Jvm.MethodName)) ∈ gj_tbl := gj_in (List.mem_append_right _ (List.mem_of_getElem? (i := 302) (by decide +kernel))) rfl
theorem tw_303 : (Cond.code ({ cls := "java/util/Arrays", name := "fill", desc := "([II)V" } : Jvm.MethodName) prog_14_method_103_code (4 : Nat) (Option.none : Option Jvm.ClassFile.FieldType)) ∈ gj_tbl := gj_in (List.mem_append_right _ (List.mem_of_getElem? (i := 303) (by decide +kernel))) rfl
theorem tw_304 : (Cond.methodLink "GrammarLoom$Lengths" (30 : Nat) ({ cls := "GrammarLoom$Grammar", name := "leftOf", desc := "(I)I" } : Jvm.MethodName)) ∈ gj_tbl := gj_in (List.mem_append_right _ (List.mem_of_getElem? (i := 304) (by decide +kernel))) rfl
theorem tw_305 : (Cond.methodLink "GrammarLoom$Lengths" (26 : Nat) ({ cls := "GrammarLoom$Lengths", name := "leastBut", desc := "(II)I" } : Jvm.MethodName)) ∈ gj_tbl := gj_in (List.mem_append_right _ (List.mem_of_getElem? (i := 305) (by decide +kernel))) rfl
theorem tw_307 : (Cond.instanceMethod ({ cls := "GrammarLoom$Lengths", name := "leastBut", desc := "(II)I" } : Jvm.MethodName)) ∈ gj_tbl := gj_in (List.mem_append_right _ (List.mem_of_getElem? (i := 307) (by decide +kernel))) rfl
theorem tw_308 : (Cond.code ({ cls := "GrammarLoom$Lengths", name := "leastBut", desc := "(II)I" } : Jvm.MethodName) prog_6_method_8_code (7 : Nat) (Option.some Jvm.ClassFile.FieldType.int)) ∈ gj_tbl := gj_in (List.mem_append_right _ (List.mem_of_getElem? (i := 308) (by decide +kernel))) rfl
theorem tw_309 : (Cond.methodLink "GrammarLoom$Lengths" (54 : Nat) ({ cls := "GrammarLoom$Grammar", name := "sizeOf", desc := "(I)I" } : Jvm.MethodName)) ∈ gj_tbl := gj_in (List.mem_append_right _ (List.mem_of_getElem? (i := 309) (by decide +kernel))) rfl
theorem tw_310 : (Cond.methodLink "GrammarLoom$Lengths" (57 : Nat) ({ cls := "GrammarLoom$Grammar", name := "symbolAt", desc := "(II)I" } : Jvm.MethodName)) ∈ gj_tbl := gj_in (List.mem_append_right _ (List.mem_of_getElem? (i := 310) (by decide +kernel))) rfl
theorem tn_311 : (Cond.methodLinkNest "GrammarLoom$Lengths" (22 : Nat) ({ cls := "GrammarLoom", name := "isNonterminal", desc := "(I)Z" } : Jvm.MethodName) "GrammarLoom") ∈ gj_nest := gj_inN (List.mem_of_getElem? (i := 311) (by decide +kernel)) rfl
theorem tw_312 : (Cond.methodLink "GrammarLoom$Lengths" (46 : Nat) ({ cls := "GrammarLoom$Lengths", name := "lower", desc := "([III)V" } : Jvm.MethodName)) ∈ gj_tbl := gj_in (List.mem_append_right _ (List.mem_of_getElem? (i := 312) (by decide +kernel))) rfl
theorem tw_313 : (Cond.static ({ cls := "GrammarLoom$Lengths", name := "lower", desc := "([III)V" } : Jvm.MethodName)) ∈ gj_tbl := gj_in (List.mem_append_right _ (List.mem_of_getElem? (i := 313) (by decide +kernel))) rfl
theorem tw_314 : (Cond.code ({ cls := "GrammarLoom$Lengths", name := "lower", desc := "([III)V" } : Jvm.MethodName) prog_6_method_7_code (4 : Nat) (Option.none : Option Jvm.ClassFile.FieldType)) ∈ gj_tbl := gj_in (List.mem_append_right _ (List.mem_of_getElem? (i := 314) (by decide +kernel))) rfl
theorem tw_315 : (Cond.methodLink "GrammarLoom$Lengths" (50 : Nat) ({ cls := "GrammarLoom$Lengths", name := "lowerAround", desc := "(I)V" } : Jvm.MethodName)) ∈ gj_tbl := gj_in (List.mem_append_right _ (List.mem_of_getElem? (i := 315) (by decide +kernel))) rfl
theorem tw_317 : (Cond.instanceMethod ({ cls := "GrammarLoom$Lengths", name := "lowerAround", desc := "(I)V" } : Jvm.MethodName)) ∈ gj_tbl := gj_in (List.mem_append_right _ (List.mem_of_getElem? (i := 317) (by decide +kernel))) rfl
theorem tw_318 : (Cond.code ({ cls := "GrammarLoom$Lengths", name := "lowerAround", desc := "(I)V" } : Jvm.MethodName) prog_6_method_6_code (6 : Nat) (Option.none : Option Jvm.ClassFile.FieldType)) ∈ gj_tbl := gj_in (List.mem_append_right _ (List.mem_of_getElem? (i := 318) (by decide +kernel))) rfl
theorem tw_319 : (Cond.methodLink "GrammarLoom" (163 : Nat) ({ cls := "GrammarLoom$Leads", name := "find", desc := "()V" } : Jvm.MethodName)) ∈ gj_tbl := gj_in (List.mem_append_right _ (List.mem_of_getElem? (i := 319) (by decide +kernel))) rfl
theorem tw_320 : (Cond.instanceMethod ({ cls := "GrammarLoom$Leads", name := "find", desc := "()V" } : Jvm.MethodName)) ∈ gj_tbl := gj_in (List.mem_append_right _ (List.mem_of_getElem? (i := 320) (by decide +kernel))) rfl
theorem tw_321 : (Cond.selects "GrammarLoom$Leads" ({ cls := "GrammarLoom$Leads", name := "find", desc := "()V" } : Jvm.MethodName) ({ cls := "GrammarLoom$Leads", name := "find", desc := "()V" } : Jvm.MethodName)) ∈ gj_tbl := gj_in (List.mem_append_right _ (List.mem_of_getElem? (i := 321) (by decide +kernel))) rfl
theorem tw_322 : (Cond.code ({ cls := "GrammarLoom$Leads", name := "find", desc := "()V" } : Jvm.MethodName) prog_5_method_4_code (4 : Nat) (Option.none : Option Jvm.ClassFile.FieldType)) ∈ gj_tbl := gj_in (List.mem_append_right _ (List.mem_of_getElem? (i := 322) (by decide +kernel))) rfl
theorem tw_323 : (Cond.methodLink "GrammarLoom$Leads" (30 : Nat) ({ cls := "java/util/Arrays", name := "fill", desc := "([II)V" } : Jvm.MethodName)) ∈ gj_tbl := gj_in (List.mem_append_right _ (List.mem_of_getElem? (i := 323) (by decide +kernel))) rfl
theorem tw_324 : (Cond.methodLink "GrammarLoom$Leads" (41 : Nat) ({ cls := "GrammarLoom$Grammar", name := "sizeOf", desc := "(I)I" } : Jvm.MethodName)) ∈ gj_tbl := gj_in (List.mem_append_right _ (List.mem_of_getElem? (i := 324) (by decide +kernel))) rfl
theorem tw_325 : (Cond.methodLink "GrammarLoom$Leads" (45 : Nat) ({ cls := "GrammarLoom$Grammar", name := "symbolAt", desc := "(II)I" } : Jvm.MethodName)) ∈ gj_tbl := gj_in (List.mem_append_right _ (List.mem_of_getElem? (i := 325) (by decide +kernel))) rfl
theorem tn_326 : (Cond.methodLinkNest "GrammarLoom$Leads" (49 : Nat) ({ cls := "GrammarLoom", name := "isNonterminal", desc := "(I)Z" } : Jvm.MethodName) "GrammarLoom") ∈ gj_nest := gj_inN (List.mem_of_getElem? (i := 326) (by decide +kernel)) rfl
theorem tw_327 : (Cond.methodLink "GrammarLoom$Leads" (53 : Nat) ({ cls := "GrammarLoom$Leads", name := "isEmptyBut", desc := "(II)Z" } : Jvm.MethodName)) ∈ gj_tbl := gj_in (List.mem_append_right _ (List.mem_of_getElem? (i := 327) (by decide +kernel))) rfl
theorem tw_329 : (Cond.instanceMethod ({ cls := "GrammarLoom$Leads", name := "isEmptyBut", desc := "(II)Z" } : Jvm.MethodName)) ∈ gj_tbl := gj_in (List.mem_append_right _ (List.mem_of_getElem? (i := 329) (by decide +kernel))) rfl
theorem tw_330 : (Cond.code ({ cls := "GrammarLoom$Leads", name := "isEmptyBut", desc := "(II)Z" } : Jvm.MethodName) prog_5_method_5_code (4 : Nat) (Option.some Jvm.ClassFile.FieldType.boolean)) ∈ gj_tbl := gj_in (List.mem_append_right _ (List.mem_of_getElem? (i := 330) (by decide +kernel))) rfl
theorem tw_331 : (Cond.methodLink "GrammarLoom$Leads" (63 : Nat) ({ cls := "GrammarLoom$Lengths", name := "isEmpty", desc := "(I)Z" } : Jvm.MethodName)) ∈ gj_tbl := gj_in (List.mem_append_right _ (List.mem_of_getElem? (i := 331) (by decide +kernel))) rfl
theorem tw_332 : (Cond.instanceMethod ({ cls := "GrammarLoom$Lengths", name := "isEmpty", desc := "(I)Z" } : Jvm.MethodName)) ∈ gj_tbl := gj_in (List.mem_append_right _ (List.mem_of_getElem? (i := 332) (by decide +kernel))) rfl
theorem tw_333 : (Cond.selects "GrammarLoom$Lengths" ({ cls := "GrammarLoom$Lengths", name := "isEmpty", desc := "(I)Z" } : Jvm.MethodName) ({ cls := "GrammarLoom$Lengths", name := "isEmpty", desc := "(I)Z" } : Jvm.MethodName)) ∈ gj_tbl := gj_in (List.mem_append_right _ (List.mem_of_getElem? (i := 333) (by decide +kernel))) rfl
theorem tw_334 : (Cond.code ({ cls := "GrammarLoom$Lengths", name := "isEmpty", desc := "(I)Z" } : Jvm.MethodName) prog_6_method_3_code (2 : Nat) (Option.some Jvm.ClassFile.FieldType.boolean)) ∈ gj_tbl := gj_in (List.mem_append_right _ (List.mem_of_getElem? (i := 334) (by decide +kernel))) rfl
theorem tw_335 : (Cond.methodLink "GrammarLoom$Leads" (57 : Nat) ({ cls := "GrammarLoom$Grammar", name := "leftOf", desc := "(I)I" } : Jvm.MethodName)) ∈ gj_tbl := gj_in (List.mem_append_right _ (List.mem_of_getElem? (i := 335) (by decide +kernel))) rfl
theorem tw_336 : (Cond.methodLink "GrammarLoom$Leads" (60 : Nat) ({ cls := "GrammarLoom$Leads", name := "putInOrder", desc := "()V" } : Jvm.MethodName)) ∈ gj_tbl := gj_in (List.mem_append_right _ (List.mem_of_getElem? (i := 336) (by decide +kernel))) rfl
theorem tw_338 : (Cond.instanceMethod ({ cls := "GrammarLoom$Leads", name := "putInOrder", desc := "()V" } : Jvm.MethodName)) ∈ gj_tbl := gj_in (List.mem_append_right _ (List.mem_of_getElem? (i := 338) (by decide +kernel))) rfl
theorem tw_339 : (Cond.code ({ cls := "GrammarLoom$Leads", name := "putInOrder", desc := "()V" } : Jvm.MethodName) prog_5_method_6_code (5 : Nat) (Option.none : Option Jvm.ClassFile.FieldType)) ∈ gj_tbl := gj_in (List.mem_append_right _ (List.mem_of_getElem? (i := 339) (by decide +kernel))) rfl
theorem tw_340 : (Cond.methodLink "GrammarLoom" (164 : Nat) ({ cls := "GrammarLoom$Counts", name := "forget", desc := "()V" } : Jvm.MethodName)) ∈ gj_tbl := gj_in (List.mem_append_right _ (List.mem_of_getElem? (i := 340) (by decide +kernel))) rfl
theorem tw_341 : (Cond.instanceMethod ({ cls := "GrammarLoom$Counts", name := "forget", desc := "()V" } : Jvm.MethodName)) ∈ gj_tbl := gj_in (List.mem_append_right _ (List.mem_of_getElem? (i := 341) (by decide +kernel))) rfl
theorem tw_342 : (Cond.selects "GrammarLoom$Counts" ({ cls := "GrammarLoom$Counts", name := "forget", desc := "()V" } : Jvm.MethodName) ({ cls := "GrammarLoom$Counts", name := "forget", desc := "()V" } : Jvm.MethodName)) ∈ gj_tbl := gj_in (List.mem_append_right _ (List.mem_of_getElem? (i := 342) (by decide +kernel))) rfl
theorem tw_343 : (Cond.code ({ cls := "GrammarLoom$Counts", name := "forget", desc := "()V" } : Jvm.MethodName) prog_2_method_2_code (1 : Nat) (Option.none : Option Jvm.ClassFile.FieldType)) ∈ gj_tbl := gj_in (List.mem_append_right _ (List.mem_of_getElem? (i := 343) (by decide +kernel))) rfl
theorem tw_344 : (Cond.methodLink "GrammarLoom" (112 : Nat) ({ cls := "GrammarLoom$Lengths", name := "leastOf", desc := "(I)I" } : Jvm.MethodName)) ∈ gj_tbl := gj_in (List.mem_append_right _ (List.mem_of_getElem? (i := 344) (by decide +kernel))) rfl
theorem tw_345 : (Cond.instanceMethod ({ cls := "GrammarLoom$Lengths", name := "leastOf", desc := "(I)I" } : Jvm.MethodName)) ∈ gj_tbl := gj_in (List.mem_append_right _ (List.mem_of_getElem? (i := 345) (by decide +kernel))) rfl
theorem tw_346 : (Cond.selects "GrammarLoom$Lengths" ({ cls := "GrammarLoom$Lengths", name := "leastOf", desc := "(I)I" } : Jvm.MethodName) ({ cls := "GrammarLoom$Lengths", name := "leastOf", desc := "(I)I" } : Jvm.MethodName)) ∈ gj_tbl := gj_in (List.mem_append_right _ (List.mem_of_getElem? (i := 346) (by decide +kernel))) rfl
theorem tw_347 : (Cond.code ({ cls := "GrammarLoom$Lengths", name := "leastOf", desc := "(I)I" } : Jvm.MethodName) prog_6_method_2_code (2 : Nat) (Option.some Jvm.ClassFile.FieldType.int)) ∈ gj_tbl := gj_in (List.mem_append_right _ (List.mem_of_getElem? (i := 347) (by decide +kernel))) rfl
theorem tw_352 : (Cond.methodLink "GrammarLoom" (115 : Nat) ({ cls := "GrammarLoom$Lengths", name := "leastWith", desc := "(I)I" } : Jvm.MethodName)) ∈ gj_tbl := gj_in (List.mem_append_right _ (List.mem_of_getElem? (i := 352) (by decide +kernel))) rfl
theorem tw_353 : (Cond.instanceMethod ({ cls := "GrammarLoom$Lengths", name := "leastWith", desc := "(I)I" } : Jvm.MethodName)) ∈ gj_tbl := gj_in (List.mem_append_right _ (List.mem_of_getElem? (i := 353) (by decide +kernel))) rfl
theorem tw_354 : (Cond.selects "GrammarLoom$Lengths" ({ cls := "GrammarLoom$Lengths", name := "leastWith", desc := "(I)I" } : Jvm.MethodName) ({ cls := "GrammarLoom$Lengths", name := "leastWith", desc := "(I)I" } : Jvm.MethodName)) ∈ gj_tbl := gj_in (List.mem_append_right _ (List.mem_of_getElem? (i := 354) (by decide +kernel))) rfl
theorem tw_355 : (Cond.code ({ cls := "GrammarLoom$Lengths", name := "leastWith", desc := "(I)I" } : Jvm.MethodName) prog_6_method_4_code (4 : Nat) (Option.some Jvm.ClassFile.FieldType.int)) ∈ gj_tbl := gj_in (List.mem_append_right _ (List.mem_of_getElem? (i := 355) (by decide +kernel))) rfl
theorem tw_357 : (Cond.instanceMethod ({ cls := "GrammarLoom", name := "circle", desc := "()Z" } : Jvm.MethodName)) ∈ gj_tbl := gj_in (List.mem_append_right _ (List.mem_of_getElem? (i := 357) (by decide +kernel))) rfl
theorem tw_358 : (Cond.selects "GrammarLoom" ({ cls := "GrammarLoom", name := "circle", desc := "()Z" } : Jvm.MethodName) ({ cls := "GrammarLoom", name := "circle", desc := "()Z" } : Jvm.MethodName)) ∈ gj_tbl := gj_in (List.mem_append_right _ (List.mem_of_getElem? (i := 358) (by decide +kernel))) rfl
theorem tw_359 : (Cond.code ({ cls := "GrammarLoom", name := "circle", desc := "()Z" } : Jvm.MethodName) prog_1_method_9_code (1 : Nat) (Option.some Jvm.ClassFile.FieldType.boolean)) ∈ gj_tbl := gj_in (List.mem_append_right _ (List.mem_of_getElem? (i := 359) (by decide +kernel))) rfl
theorem tw_360 : (Cond.methodLink "GrammarLoom" (118 : Nat) ({ cls := "GrammarLoom$Leads", name := "isCircle", desc := "()Z" } : Jvm.MethodName)) ∈ gj_tbl := gj_in (List.mem_append_right _ (List.mem_of_getElem? (i := 360) (by decide +kernel))) rfl
theorem tw_361 : (Cond.instanceMethod ({ cls := "GrammarLoom$Leads", name := "isCircle", desc := "()Z" } : Jvm.MethodName)) ∈ gj_tbl := gj_in (List.mem_append_right _ (List.mem_of_getElem? (i := 361) (by decide +kernel))) rfl
theorem tw_362 : (Cond.selects "GrammarLoom$Leads" ({ cls := "GrammarLoom$Leads", name := "isCircle", desc := "()Z" } : Jvm.MethodName) ({ cls := "GrammarLoom$Leads", name := "isCircle", desc := "()Z" } : Jvm.MethodName)) ∈ gj_tbl := gj_in (List.mem_append_right _ (List.mem_of_getElem? (i := 362) (by decide +kernel))) rfl
theorem tw_363 : (Cond.code ({ cls := "GrammarLoom$Leads", name := "isCircle", desc := "()Z" } : Jvm.MethodName) prog_5_method_2_code (1 : Nat) (Option.some Jvm.ClassFile.FieldType.boolean)) ∈ gj_tbl := gj_in (List.mem_append_right _ (List.mem_of_getElem? (i := 363) (by decide +kernel))) rfl
theorem tw_365 : (Cond.instanceMethod ({ cls := "GrammarLoom", name := "trees", desc := "(II)J" } : Jvm.MethodName)) ∈ gj_tbl := gj_in (List.mem_append_right _ (List.mem_of_getElem? (i := 365) (by decide +kernel))) rfl
theorem tw_366 : (Cond.selects "GrammarLoom" ({ cls := "GrammarLoom", name := "trees", desc := "(II)J" } : Jvm.MethodName) ({ cls := "GrammarLoom", name := "trees", desc := "(II)J" } : Jvm.MethodName)) ∈ gj_tbl := gj_in (List.mem_append_right _ (List.mem_of_getElem? (i := 366) (by decide +kernel))) rfl
theorem tw_367 : (Cond.code ({ cls := "GrammarLoom", name := "trees", desc := "(II)J" } : Jvm.MethodName) prog_1_method_10_code (5 : Nat) (Option.some Jvm.ClassFile.FieldType.long)) ∈ gj_tbl := gj_in (List.mem_append_right _ (List.mem_of_getElem? (i := 367) (by decide +kernel))) rfl
theorem tw_368 : (Cond.methodLink "GrammarLoom" (122 : Nat) ({ cls := "GrammarLoom", name := "isCounted", desc := "(I)Z" } : Jvm.MethodName)) ∈ gj_tbl := gj_in (List.mem_append_right _ (List.mem_of_getElem? (i := 368) (by decide +kernel))) rfl
theorem tw_370 : (Cond.instanceMethod ({ cls := "GrammarLoom", name := "isCounted", desc := "(I)Z" } : Jvm.MethodName)) ∈ gj_tbl := gj_in (List.mem_append_right _ (List.mem_of_getElem? (i := 370) (by decide +kernel))) rfl
theorem tw_371 : (Cond.code ({ cls := "GrammarLoom", name := "isCounted", desc := "(I)Z" } : Jvm.MethodName) prog_1_method_18_code (2 : Nat) (Option.some Jvm.ClassFile.FieldType.boolean)) ∈ gj_tbl := gj_in (List.mem_append_right _ (List.mem_of_getElem? (i := 371) (by decide +kernel))) rfl
theorem tw_372 : (Cond.constantLong "GrammarLoom" (125 : Nat) (-1 : Int64)) ∈ gj_tbl := gj_in (List.mem_append_right _ (List.mem_of_getElem? (i := 372) (by decide +kernel))) rfl
theorem tw_373 : (Cond.methodLink "GrammarLoom" (127 : Nat) ({ cls := "GrammarLoom$Counts", name := "treesOf", desc := "(II)J" } : Jvm.MethodName)) ∈ gj_tbl := gj_in (List.mem_append_right _ (List.mem_of_getElem? (i := 373) (by decide +kernel))) rfl
theorem tw_374 : (Cond.instanceMethod ({ cls := "GrammarLoom$Counts", name := "treesOf", desc := "(II)J" } : Jvm.MethodName)) ∈ gj_tbl := gj_in (List.mem_append_right _ (List.mem_of_getElem? (i := 374) (by decide +kernel))) rfl
theorem tw_375 : (Cond.selects "GrammarLoom$Counts" ({ cls := "GrammarLoom$Counts", name := "treesOf", desc := "(II)J" } : Jvm.MethodName) ({ cls := "GrammarLoom$Counts", name := "treesOf", desc := "(II)J" } : Jvm.MethodName)) ∈ gj_tbl := gj_in (List.mem_append_right _ (List.mem_of_getElem? (i := 375) (by decide +kernel))) rfl
theorem tw_376 : (Cond.code ({ cls := "GrammarLoom$Counts", name := "treesOf", desc := "(II)J" } : Jvm.MethodName) prog_2_method_4_code (4 : Nat) (Option.some Jvm.ClassFile.FieldType.long)) ∈ gj_tbl := gj_in (List.mem_append_right _ (List.mem_of_getElem? (i := 376) (by decide +kernel))) rfl
theorem tw_377 : (Cond.methodLink "GrammarLoom$Counts" (36 : Nat) ({ cls := "GrammarLoom$Counts", name := "countLength", desc := "(I)V" } : Jvm.MethodName)) ∈ gj_tbl := gj_in (List.mem_append_right _ (List.mem_of_getElem? (i := 377) (by decide +kernel))) rfl
theorem tw_379 : (Cond.instanceMethod ({ cls := "GrammarLoom$Counts", name := "countLength", desc := "(I)V" } : Jvm.MethodName)) ∈ gj_tbl := gj_in (List.mem_append_right _ (List.mem_of_getElem? (i := 379) (by decide +kernel))) rfl
theorem tw_380 : (Cond.code ({ cls := "GrammarLoom$Counts", name := "countLength", desc := "(I)V" } : Jvm.MethodName) prog_2_method_7_code (5 : Nat) (Option.none : Option Jvm.ClassFile.FieldType)) ∈ gj_tbl := gj_in (List.mem_append_right _ (List.mem_of_getElem? (i := 380) (by decide +kernel))) rfl
theorem tw_381 : (Cond.methodLink "GrammarLoom$Counts" (57 : Nat) ({ cls := "GrammarLoom$Leads", name := "inOrder", desc := "(I)I" } : Jvm.MethodName)) ∈ gj_tbl := gj_in (List.mem_append_right _ (List.mem_of_getElem? (i := 381) (by decide +kernel))) rfl
theorem tw_382 : (Cond.instanceMethod ({ cls := "GrammarLoom$Leads", name := "inOrder", desc := "(I)I" } : Jvm.MethodName)) ∈ gj_tbl := gj_in (List.mem_append_right _ (List.mem_of_getElem? (i := 382) (by decide +kernel))) rfl
theorem tw_383 : (Cond.selects "GrammarLoom$Leads" ({ cls := "GrammarLoom$Leads", name := "inOrder", desc := "(I)I" } : Jvm.MethodName) ({ cls := "GrammarLoom$Leads", name := "inOrder", desc := "(I)I" } : Jvm.MethodName)) ∈ gj_tbl := gj_in (List.mem_append_right _ (List.mem_of_getElem? (i := 383) (by decide +kernel))) rfl
theorem tw_384 : (Cond.code ({ cls := "GrammarLoom$Leads", name := "inOrder", desc := "(I)I" } : Jvm.MethodName) prog_5_method_3_code (2 : Nat) (Option.some Jvm.ClassFile.FieldType.int)) ∈ gj_tbl := gj_in (List.mem_append_right _ (List.mem_of_getElem? (i := 384) (by decide +kernel))) rfl
theorem tw_385 : (Cond.methodLink "GrammarLoom$Counts" (66 : Nat) ({ cls := "GrammarLoom$Grammar", name := "leftOf", desc := "(I)I" } : Jvm.MethodName)) ∈ gj_tbl := gj_in (List.mem_append_right _ (List.mem_of_getElem? (i := 385) (by decide +kernel))) rfl
theorem tw_386 : (Cond.methodLink "GrammarLoom$Counts" (69 : Nat) ({ cls := "GrammarLoom$Counts", name := "fillEndings", desc := "(II)V" } : Jvm.MethodName)) ∈ gj_tbl := gj_in (List.mem_append_right _ (List.mem_of_getElem? (i := 386) (by decide +kernel))) rfl
theorem tw_388 : (Cond.instanceMethod ({ cls := "GrammarLoom$Counts", name := "fillEndings", desc := "(II)V" } : Jvm.MethodName)) ∈ gj_tbl := gj_in (List.mem_append_right _ (List.mem_of_getElem? (i := 388) (by decide +kernel))) rfl
theorem tw_389 : (Cond.code ({ cls := "GrammarLoom$Counts", name := "fillEndings", desc := "(II)V" } : Jvm.MethodName) prog_2_method_9_code (9 : Nat) (Option.none : Option Jvm.ClassFile.FieldType)) ∈ gj_tbl := gj_in (List.mem_append_right _ (List.mem_of_getElem? (i := 389) (by decide +kernel))) rfl
theorem tw_390 : (Cond.methodLink "GrammarLoom$Counts" (84 : Nat) ({ cls := "GrammarLoom$Grammar", name := "sizeOf", desc := "(I)I" } : Jvm.MethodName)) ∈ gj_tbl := gj_in (List.mem_append_right _ (List.mem_of_getElem? (i := 390) (by decide +kernel))) rfl
theorem tw_391 : (Cond.methodLink "GrammarLoom$Counts" (40 : Nat) ({ cls := "GrammarLoom$Counts", name := "endingsAt", desc := "(II)I" } : Jvm.MethodName)) ∈ gj_tbl := gj_in (List.mem_append_right _ (List.mem_of_getElem? (i := 391) (by decide +kernel))) rfl
theorem tw_392 : (Cond.static ({ cls := "GrammarLoom$Counts", name := "endingsAt", desc := "(II)I" } : Jvm.MethodName)) ∈ gj_tbl := gj_in (List.mem_append_right _ (List.mem_of_getElem? (i := 392) (by decide +kernel))) rfl
theorem tw_393 : (Cond.code ({ cls := "GrammarLoom$Counts", name := "endingsAt", desc := "(II)I" } : Jvm.MethodName) prog_2_method_11_code (2 : Nat) (Option.some Jvm.ClassFile.FieldType.int)) ∈ gj_tbl := gj_in (List.mem_append_right _ (List.mem_of_getElem? (i := 393) (by decide +kernel))) rfl
theorem tw_394 : (Cond.methodLink "GrammarLoom$Counts" (44 : Nat) ({ cls := "GrammarLoom$Grammar", name := "symbolAt", desc := "(II)I" } : Jvm.MethodName)) ∈ gj_tbl := gj_in (List.mem_append_right _ (List.mem_of_getElem? (i := 394) (by decide +kernel))) rfl
theorem tn_395 : (Cond.methodLinkNest "GrammarLoom$Counts" (49 : Nat) ({ cls := "GrammarLoom", name := "isNonterminal", desc := "(I)Z" } : Jvm.MethodName) "GrammarLoom") ∈ gj_nest := gj_inN (List.mem_of_getElem? (i := 395) (by decide +kernel)) rfl
theorem tw_396 : (Cond.methodLink "GrammarLoom$Counts" (87 : Nat) ({ cls := "GrammarLoom$Counts", name := "pairs", desc := "(III)J" } : Jvm.MethodName)) ∈ gj_tbl := gj_in (List.mem_append_right _ (List.mem_of_getElem? (i := 396) (by decide +kernel))) rfl
theorem tw_398 : (Cond.instanceMethod ({ cls := "GrammarLoom$Counts", name := "pairs", desc := "(III)J" } : Jvm.MethodName)) ∈ gj_tbl := gj_in (List.mem_append_right _ (List.mem_of_getElem? (i := 398) (by decide +kernel))) rfl
theorem tw_399 : (Cond.code ({ cls := "GrammarLoom$Counts", name := "pairs", desc := "(III)J" } : Jvm.MethodName) prog_2_method_10_code (9 : Nat) (Option.some Jvm.ClassFile.FieldType.long)) ∈ gj_tbl := gj_in (List.mem_append_right _ (List.mem_of_getElem? (i := 399) (by decide +kernel))) rfl
theorem tw_400 : (Cond.methodLink "GrammarLoom$Counts" (53 : Nat) ({ cls := "GrammarLoom$Counts", name := "times", desc := "(JJ)J" } : Jvm.MethodName)) ∈ gj_tbl := gj_in (List.mem_append_right _ (List.mem_of_getElem? (i := 400) (by decide +kernel))) rfl
theorem tw_401 : (Cond.static ({ cls := "GrammarLoom$Counts", name := "times", desc := "(JJ)J" } : Jvm.MethodName)) ∈ gj_tbl := gj_in (List.mem_append_right _ (List.mem_of_getElem? (i := 401) (by decide +kernel))) rfl
theorem tw_402 : (Cond.code ({ cls := "GrammarLoom$Counts", name := "times", desc := "(JJ)J" } : Jvm.MethodName) prog_2_method_13_code (4 : Nat) (Option.some Jvm.ClassFile.FieldType.long)) ∈ gj_tbl := gj_in (List.mem_append_right _ (List.mem_of_getElem? (i := 402) (by decide +kernel))) rfl
theorem tw_403 : (Cond.constantLong "GrammarLoom$Counts" (97 : Nat) (1000000000000000000 : Int64)) ∈ gj_tbl := gj_in (List.mem_append_right _ (List.mem_of_getElem? (i := 403) (by decide +kernel))) rfl
theorem tw_404 : (Cond.constantLong "GrammarLoom$Counts" (90 : Nat) (1000000000000000001 : Int64)) ∈ gj_tbl := gj_in (List.mem_append_right _ (List.mem_of_getElem? (i := 404) (by decide +kernel))) rfl
theorem tw_405 : (Cond.methodLink "GrammarLoom$Counts" (81 : Nat) ({ cls := "GrammarLoom$Counts", name := "plus", desc := "(JJ)J" } : Jvm.MethodName)) ∈ gj_tbl := gj_in (List.mem_append_right _ (List.mem_of_getElem? (i := 405) (by decide +kernel))) rfl
theorem tw_406 : (Cond.static ({ cls := "GrammarLoom$Counts", name := "plus", desc := "(JJ)J" } : Jvm.MethodName)) ∈ gj_tbl := gj_in (List.mem_append_right _ (List.mem_of_getElem? (i := 406) (by decide +kernel))) rfl
theorem tw_407 : (Cond.code ({ cls := "GrammarLoom$Counts", name := "plus", desc := "(JJ)J" } : Jvm.MethodName) prog_2_method_12_code (4 : Nat) (Option.some Jvm.ClassFile.FieldType.long)) ∈ gj_tbl := gj_in (List.mem_append_right _ (List.mem_of_getElem? (i := 407) (by decide +kernel))) rfl
theorem tw_408 : (Cond.methodLink "GrammarLoom$Counts" (92 : Nat) ({ cls := "java/lang/Math", name := "min", desc := "(JJ)J" } : Jvm.MethodName)) ∈ gj_tbl := gj_in (List.mem_append_right _ (List.mem_of_getElem? (i := 408) (by decide +kernel))) rfl
theorem tw_409 : (Cond.static ({ cls := "java/lang/Math", name := "min", desc := "(JJ)J" } : Jvm.MethodName)) ∈ gj_tbl := gj_in (List.mem_append_right _ (List.mem_of_getElem? (i := 409) (by decide +kernel))) rfl
theorem tw_410 : (Cond.code ({ cls := "java/lang/Math", name := "min", desc := "(JJ)J" } : Jvm.MethodName) prog_12_method_70_code (4 : Nat) (Option.some Jvm.ClassFile.FieldType.long)) ∈ gj_tbl := gj_in (List.mem_append_right _ (List.mem_of_getElem? (i := 410) (by decide +kernel))) rfl
theorem tw_411 : (Cond.methodLink "GrammarLoom$Counts" (73 : Nat) ({ cls := "GrammarLoom$Counts", name := "endingsOf", desc := "(III)J" } : Jvm.MethodName)) ∈ gj_tbl := gj_in (List.mem_append_right _ (List.mem_of_getElem? (i := 411) (by decide +kernel))) rfl
theorem tw_412 : (Cond.instanceMethod ({ cls := "GrammarLoom$Counts", name := "endingsOf", desc := "(III)J" } : Jvm.MethodName)) ∈ gj_tbl := gj_in (List.mem_append_right _ (List.mem_of_getElem? (i := 412) (by decide +kernel))) rfl
theorem tw_413 : (Cond.selects "GrammarLoom$Counts" ({ cls := "GrammarLoom$Counts", name := "endingsOf", desc := "(III)J" } : Jvm.MethodName) ({ cls := "GrammarLoom$Counts", name := "endingsOf", desc := "(III)J" } : Jvm.MethodName)) ∈ gj_tbl := gj_in (List.mem_append_right _ (List.mem_of_getElem? (i := 413) (by decide +kernel))) rfl
theorem tw_414 : (Cond.code ({ cls := "GrammarLoom$Counts", name := "endingsOf", desc := "(III)J" } : Jvm.MethodName) prog_2_method_5_code (4 : Nat) (Option.some Jvm.ClassFile.FieldType.long)) ∈ gj_tbl := gj_in (List.mem_append_right _ (List.mem_of_getElem? (i := 414) (by decide +kernel))) rfl
theorem tw_415 : (Cond.methodLink "GrammarLoom$Counts" (77 : Nat) ({ cls := "GrammarLoom$Counts", name := "addTrees", desc := "(IIJ)V" } : Jvm.MethodName)) ∈ gj_tbl := gj_in (List.mem_append_right _ (List.mem_of_getElem? (i := 415) (by decide +kernel))) rfl
theorem tw_417 : (Cond.instanceMethod ({ cls := "GrammarLoom$Counts", name := "addTrees", desc := "(IIJ)V" } : Jvm.MethodName)) ∈ gj_tbl := gj_in (List.mem_append_right _ (List.mem_of_getElem? (i := 417) (by decide +kernel))) rfl
theorem tw_418 : (Cond.code ({ cls := "GrammarLoom$Counts", name := "addTrees", desc := "(IIJ)V" } : Jvm.MethodName) prog_2_method_8_code (6 : Nat) (Option.none : Option Jvm.ClassFile.FieldType)) ∈ gj_tbl := gj_in (List.mem_append_right _ (List.mem_of_getElem? (i := 418) (by decide +kernel))) rfl
theorem tw_419 : (Cond.constantLong "GrammarLoom" (131 : Nat) (1000000000000000000 : Int64)) ∈ gj_tbl := gj_in (List.mem_append_right _ (List.mem_of_getElem? (i := 419) (by decide +kernel))) rfl
theorem tw_420 : (Cond.constantLong "GrammarLoom" (133 : Nat) (-2 : Int64)) ∈ gj_tbl := gj_in (List.mem_append_right _ (List.mem_of_getElem? (i := 420) (by decide +kernel))) rfl
theorem tw_425 : (Cond.methodLink "GrammarLoom" (135 : Nat) ({ cls := "GrammarLoom$Counts", name := "leaveOut", desc := "(I)V" } : Jvm.MethodName)) ∈ gj_tbl := gj_in (List.mem_append_right _ (List.mem_of_getElem? (i := 425) (by decide +kernel))) rfl
theorem tw_426 : (Cond.instanceMethod ({ cls := "GrammarLoom$Counts", name := "leaveOut", desc := "(I)V" } : Jvm.MethodName)) ∈ gj_tbl := gj_in (List.mem_append_right _ (List.mem_of_getElem? (i := 426) (by decide +kernel))) rfl
theorem tw_427 : (Cond.selects "GrammarLoom$Counts" ({ cls := "GrammarLoom$Counts", name := "leaveOut", desc := "(I)V" } : Jvm.MethodName) ({ cls := "GrammarLoom$Counts", name := "leaveOut", desc := "(I)V" } : Jvm.MethodName)) ∈ gj_tbl := gj_in (List.mem_append_right _ (List.mem_of_getElem? (i := 427) (by decide +kernel))) rfl
theorem tw_428 : (Cond.code ({ cls := "GrammarLoom$Counts", name := "leaveOut", desc := "(I)V" } : Jvm.MethodName) prog_2_method_3_code (2 : Nat) (Option.none : Option Jvm.ClassFile.FieldType)) ∈ gj_tbl := gj_in (List.mem_append_right _ (List.mem_of_getElem? (i := 428) (by decide +kernel))) rfl
theorem tw_429 : (Cond.methodLink "GrammarLoom$Counts" (33 : Nat) ({ cls := "GrammarLoom$Counts", name := "forget", desc := "()V" } : Jvm.MethodName)) ∈ gj_tbl := gj_in (List.mem_append_right _ (List.mem_of_getElem? (i := 429) (by decide +kernel))) rfl
theorem tw_434 : (Cond.methodLink "GrammarLoom" (138 : Nat) ({ cls := "GrammarLoom", name := "trees", desc := "(II)J" } : Jvm.MethodName)) ∈ gj_tbl := gj_in (List.mem_append_right _ (List.mem_of_getElem? (i := 434) (by decide +kernel))) rfl
theorem tw_435 : (Cond.methodLink "GrammarLoom" (141 : Nat) ({ cls := "GrammarLoom$Weaver", name := "weave", desc := "(IIJ)I" } : Jvm.MethodName)) ∈ gj_tbl := gj_in (List.mem_append_right _ (List.mem_of_getElem? (i := 435) (by decide +kernel))) rfl
theorem tw_436 : (Cond.instanceMethod ({ cls := "GrammarLoom$Weaver", name := "weave", desc := "(IIJ)I" } : Jvm.MethodName)) ∈ gj_tbl := gj_in (List.mem_append_right _ (List.mem_of_getElem? (i := 436) (by decide +kernel))) rfl
theorem tw_437 : (Cond.selects "GrammarLoom$Weaver" ({ cls := "GrammarLoom$Weaver", name := "weave", desc := "(IIJ)I" } : Jvm.MethodName) ({ cls := "GrammarLoom$Weaver", name := "weave", desc := "(IIJ)I" } : Jvm.MethodName)) ∈ gj_tbl := gj_in (List.mem_append_right _ (List.mem_of_getElem? (i := 437) (by decide +kernel))) rfl
theorem tw_438 : (Cond.code ({ cls := "GrammarLoom$Weaver", name := "weave", desc := "(IIJ)I" } : Jvm.MethodName) prog_9_method_4_code (7 : Nat) (Option.some Jvm.ClassFile.FieldType.int)) ∈ gj_tbl := gj_in (List.mem_append_right _ (List.mem_of_getElem? (i := 438) (by decide +kernel))) rfl
theorem tw_439 : (Cond.methodLink "GrammarLoom$Weaver" (47 : Nat) ({ cls := "GrammarLoom$Drawing", name := "clear", desc := "()V" } : Jvm.MethodName)) ∈ gj_tbl := gj_in (List.mem_append_right _ (List.mem_of_getElem? (i := 439) (by decide +kernel))) rfl
theorem tw_440 : (Cond.instanceMethod ({ cls := "GrammarLoom$Drawing", name := "clear", desc := "()V" } : Jvm.MethodName)) ∈ gj_tbl := gj_in (List.mem_append_right _ (List.mem_of_getElem? (i := 440) (by decide +kernel))) rfl
theorem tw_441 : (Cond.selects "GrammarLoom$Drawing" ({ cls := "GrammarLoom$Drawing", name := "clear", desc := "()V" } : Jvm.MethodName) ({ cls := "GrammarLoom$Drawing", name := "clear", desc := "()V" } : Jvm.MethodName)) ∈ gj_tbl := gj_in (List.mem_append_right _ (List.mem_of_getElem? (i := 441) (by decide +kernel))) rfl
theorem tw_442 : (Cond.code ({ cls := "GrammarLoom$Drawing", name := "clear", desc := "()V" } : Jvm.MethodName) prog_3_method_2_code (1 : Nat) (Option.none : Option Jvm.ClassFile.FieldType)) ∈ gj_tbl := gj_in (List.mem_append_right _ (List.mem_of_getElem? (i := 442) (by decide +kernel))) rfl
theorem tw_443 : (Cond.methodLink "GrammarLoom$Weaver" (50 : Nat) ({ cls := "GrammarLoom$Pile", name := "put", desc := "(IIIJ)V" } : Jvm.MethodName)) ∈ gj_tbl := gj_in (List.mem_append_right _ (List.mem_of_getElem? (i := 443) (by decide +kernel))) rfl
theorem tw_444 : (Cond.instanceMethod ({ cls := "GrammarLoom$Pile", name := "put", desc := "(IIIJ)V" } : Jvm.MethodName)) ∈ gj_tbl := gj_in (List.mem_append_right _ (List.mem_of_getElem? (i := 444) (by decide +kernel))) rfl
theorem tw_445 : (Cond.selects "GrammarLoom$Pile" ({ cls := "GrammarLoom$Pile", name := "put", desc := "(IIIJ)V" } : Jvm.MethodName) ({ cls := "GrammarLoom$Pile", name := "put", desc := "(IIIJ)V" } : Jvm.MethodName)) ∈ gj_tbl := gj_in (List.mem_append_right _ (List.mem_of_getElem? (i := 445) (by decide +kernel))) rfl
theorem tw_446 : (Cond.code ({ cls := "GrammarLoom$Pile", name := "put", desc := "(IIIJ)V" } : Jvm.MethodName) prog_8_method_2_code (6 : Nat) (Option.none : Option Jvm.ClassFile.FieldType)) ∈ gj_tbl := gj_in (List.mem_append_right _ (List.mem_of_getElem? (i := 446) (by decide +kernel))) rfl
theorem tn_447 : (Cond.methodLinkNest "GrammarLoom$Weaver" (65 : Nat) ({ cls := "GrammarLoom", name := "isNonterminal", desc := "(I)Z" } : Jvm.MethodName) "GrammarLoom") ∈ gj_nest := gj_inN (List.mem_of_getElem? (i := 447) (by decide +kernel)) rfl
theorem tw_448 : (Cond.methodLink "GrammarLoom$Weaver" (69 : Nat) ({ cls := "GrammarLoom$Drawing", name := "addLeaf", desc := "(I)V" } : Jvm.MethodName)) ∈ gj_tbl := gj_in (List.mem_append_right _ (List.mem_of_getElem? (i := 448) (by decide +kernel))) rfl
theorem tw_449 : (Cond.instanceMethod ({ cls := "GrammarLoom$Drawing", name := "addLeaf", desc := "(I)V" } : Jvm.MethodName)) ∈ gj_tbl := gj_in (List.mem_append_right _ (List.mem_of_getElem? (i := 449) (by decide +kernel))) rfl
theorem tw_450 : (Cond.selects "GrammarLoom$Drawing" ({ cls := "GrammarLoom$Drawing", name := "addLeaf", desc := "(I)V" } : Jvm.MethodName) ({ cls := "GrammarLoom$Drawing", name := "addLeaf", desc := "(I)V" } : Jvm.MethodName)) ∈ gj_tbl := gj_in (List.mem_append_right _ (List.mem_of_getElem? (i := 450) (by decide +kernel))) rfl
theorem tw_451 : (Cond.code ({ cls := "GrammarLoom$Drawing", name := "addLeaf", desc := "(I)V" } : Jvm.MethodName) prog_3_method_4_code (2 : Nat) (Option.none : Option Jvm.ClassFile.FieldType)) ∈ gj_tbl := gj_in (List.mem_append_right _ (List.mem_of_getElem? (i := 451) (by decide +kernel))) rfl
theorem tw_452 : (Cond.methodLink "GrammarLoom$Weaver" (80 : Nat) ({ cls := "GrammarLoom$Weaver", name := "unfold", desc := "(IIJ)Z" } : Jvm.MethodName)) ∈ gj_tbl := gj_in (List.mem_append_right _ (List.mem_of_getElem? (i := 452) (by decide +kernel))) rfl
theorem tw_454 : (Cond.instanceMethod ({ cls := "GrammarLoom$Weaver", name := "unfold", desc := "(IIJ)Z" } : Jvm.MethodName)) ∈ gj_tbl := gj_in (List.mem_append_right _ (List.mem_of_getElem? (i := 454) (by decide +kernel))) rfl
theorem tw_455 : (Cond.code ({ cls := "GrammarLoom$Weaver", name := "unfold", desc := "(IIJ)Z" } : Jvm.MethodName) prog_9_method_5_code (10 : Nat) (Option.some Jvm.ClassFile.FieldType.boolean)) ∈ gj_tbl := gj_in (List.mem_append_right _ (List.mem_of_getElem? (i := 455) (by decide +kernel))) rfl
theorem tw_456 : (Cond.methodLink "GrammarLoom$Weaver" (88 : Nat) ({ cls := "GrammarLoom$Grammar", name := "leftOf", desc := "(I)I" } : Jvm.MethodName)) ∈ gj_tbl := gj_in (List.mem_append_right _ (List.mem_of_getElem? (i := 456) (by decide +kernel))) rfl
theorem tw_457 : (Cond.methodLink "GrammarLoom$Weaver" (92 : Nat) ({ cls := "GrammarLoom$Counts", name := "endingsOf", desc := "(III)J" } : Jvm.MethodName)) ∈ gj_tbl := gj_in (List.mem_append_right _ (List.mem_of_getElem? (i := 457) (by decide +kernel))) rfl
theorem tw_458 : (Cond.methodLink "GrammarLoom$Weaver" (98 : Nat) ({ cls := "GrammarLoom$Weaver", name := "unfoldRule", desc := "(IIJ)Z" } : Jvm.MethodName)) ∈ gj_tbl := gj_in (List.mem_append_right _ (List.mem_of_getElem? (i := 458) (by decide +kernel))) rfl
theorem tw_460 : (Cond.instanceMethod ({ cls := "GrammarLoom$Weaver", name := "unfoldRule", desc := "(IIJ)Z" } : Jvm.MethodName)) ∈ gj_tbl := gj_in (List.mem_append_right _ (List.mem_of_getElem? (i := 460) (by decide +kernel))) rfl
theorem tw_461 : (Cond.code ({ cls := "GrammarLoom$Weaver", name := "unfoldRule", desc := "(IIJ)Z" } : Jvm.MethodName) prog_9_method_6_code (15 : Nat) (Option.some Jvm.ClassFile.FieldType.boolean)) ∈ gj_tbl := gj_in (List.mem_append_right _ (List.mem_of_getElem? (i := 461) (by decide +kernel))) rfl
theorem tw_462 : (Cond.methodLink "GrammarLoom$Weaver" (101 : Nat) ({ cls := "GrammarLoom$Grammar", name := "nonterminalsIn", desc := "(I)I" } : Jvm.MethodName)) ∈ gj_tbl := gj_in (List.mem_append_right _ (List.mem_of_getElem? (i := 462) (by decide +kernel))) rfl
theorem tw_463 : (Cond.instanceMethod ({ cls := "GrammarLoom$Grammar", name := "nonterminalsIn", desc := "(I)I" } : Jvm.MethodName)) ∈ gj_tbl := gj_in (List.mem_append_right _ (List.mem_of_getElem? (i := 463) (by decide +kernel))) rfl
theorem tw_464 : (Cond.selects "GrammarLoom$Grammar" ({ cls := "GrammarLoom$Grammar", name := "nonterminalsIn", desc := "(I)I" } : Jvm.MethodName) ({ cls := "GrammarLoom$Grammar", name := "nonterminalsIn", desc := "(I)I" } : Jvm.MethodName)) ∈ gj_tbl := gj_in (List.mem_append_right _ (List.mem_of_getElem? (i := 464) (by decide +kernel))) rfl
theorem tw_465 : (Cond.code ({ cls := "GrammarLoom$Grammar", name := "nonterminalsIn", desc := "(I)I" } : Jvm.MethodName) prog_4_method_6_code (4 : Nat) (Option.some Jvm.ClassFile.FieldType.int)) ∈ gj_tbl := gj_in (List.mem_append_right _ (List.mem_of_getElem? (i := 465) (by decide +kernel))) rfl
theorem tw_466 : (Cond.methodLink "GrammarLoom$Grammar" (25 : Nat) ({ cls := "GrammarLoom$Grammar", name := "symbolAt", desc := "(II)I" } : Jvm.MethodName)) ∈ gj_tbl := gj_in (List.mem_append_right _ (List.mem_of_getElem? (i := 466) (by decide +kernel))) rfl
theorem tn_467 : (Cond.methodLinkNest "GrammarLoom$Grammar" (29 : Nat) ({ cls := "GrammarLoom", name := "isNonterminal", desc := "(I)Z" } : Jvm.MethodName) "GrammarLoom") ∈ gj_nest := gj_inN (List.mem_of_getElem? (i := 467) (by decide +kernel)) rfl
theorem tw_468 : (Cond.methodLink "GrammarLoom$Weaver" (104 : Nat) ({ cls := "GrammarLoom$Drawing", name := "addRule", desc := "(I)V" } : Jvm.MethodName)) ∈ gj_tbl := gj_in (List.mem_append_right _ (List.mem_of_getElem? (i := 468) (by decide +kernel))) rfl
theorem tw_469 : (Cond.instanceMethod ({ cls := "GrammarLoom$Drawing", name := "addRule", desc := "(I)V" } : Jvm.MethodName)) ∈ gj_tbl := gj_in (List.mem_append_right _ (List.mem_of_getElem? (i := 469) (by decide +kernel))) rfl
theorem tw_470 : (Cond.selects "GrammarLoom$Drawing" ({ cls := "GrammarLoom$Drawing", name := "addRule", desc := "(I)V" } : Jvm.MethodName) ({ cls := "GrammarLoom$Drawing", name := "addRule", desc := "(I)V" } : Jvm.MethodName)) ∈ gj_tbl := gj_in (List.mem_append_right _ (List.mem_of_getElem? (i := 470) (by decide +kernel))) rfl
theorem tw_471 : (Cond.code ({ cls := "GrammarLoom$Drawing", name := "addRule", desc := "(I)V" } : Jvm.MethodName) prog_3_method_3_code (2 : Nat) (Option.none : Option Jvm.ClassFile.FieldType)) ∈ gj_tbl := gj_in (List.mem_append_right _ (List.mem_of_getElem? (i := 471) (by decide +kernel))) rfl
theorem tw_472 : (Cond.methodLink "GrammarLoom$Weaver" (107 : Nat) ({ cls := "GrammarLoom$Grammar", name := "sizeOf", desc := "(I)I" } : Jvm.MethodName)) ∈ gj_tbl := gj_in (List.mem_append_right _ (List.mem_of_getElem? (i := 472) (by decide +kernel))) rfl
theorem tw_473 : (Cond.methodLink "GrammarLoom$Weaver" (110 : Nat) ({ cls := "GrammarLoom$Counts", name := "endingsWith", desc := "(IIII)J" } : Jvm.MethodName)) ∈ gj_tbl := gj_in (List.mem_append_right _ (List.mem_of_getElem? (i := 473) (by decide +kernel))) rfl
theorem tw_474 : (Cond.instanceMethod ({ cls := "GrammarLoom$Counts", name := "endingsWith", desc := "(IIII)J" } : Jvm.MethodName)) ∈ gj_tbl := gj_in (List.mem_append_right _ (List.mem_of_getElem? (i := 474) (by decide +kernel))) rfl
theorem tw_475 : (Cond.selects "GrammarLoom$Counts" ({ cls := "GrammarLoom$Counts", name := "endingsWith", desc := "(IIII)J" } : Jvm.MethodName) ({ cls := "GrammarLoom$Counts", name := "endingsWith", desc := "(IIII)J" } : Jvm.MethodName)) ∈ gj_tbl := gj_in (List.mem_append_right _ (List.mem_of_getElem? (i := 475) (by decide +kernel))) rfl
theorem tw_476 : (Cond.code ({ cls := "GrammarLoom$Counts", name := "endingsWith", desc := "(IIII)J" } : Jvm.MethodName) prog_2_method_6_code (8 : Nat) (Option.some Jvm.ClassFile.FieldType.long)) ∈ gj_tbl := gj_in (List.mem_append_right _ (List.mem_of_getElem? (i := 476) (by decide +kernel))) rfl
theorem tw_477 : (Cond.methodLink "GrammarLoom$Weaver" (114 : Nat) ({ cls := "java/lang/Math", name := "max", desc := "(JJ)J" } : Jvm.MethodName)) ∈ gj_tbl := gj_in (List.mem_append_right _ (List.mem_of_getElem? (i := 477) (by decide +kernel))) rfl
theorem tw_478 : (Cond.static ({ cls := "java/lang/Math", name := "max", desc := "(JJ)J" } : Jvm.MethodName)) ∈ gj_tbl := gj_in (List.mem_append_right _ (List.mem_of_getElem? (i := 478) (by decide +kernel))) rfl
theorem tw_479 : (Cond.code ({ cls := "java/lang/Math", name := "max", desc := "(JJ)J" } : Jvm.MethodName) prog_12_method_66_code (4 : Nat) (Option.some Jvm.ClassFile.FieldType.long)) ∈ gj_tbl := gj_in (List.mem_append_right _ (List.mem_of_getElem? (i := 479) (by decide +kernel))) rfl
theorem tw_480 : (Cond.methodLink "GrammarLoom$Weaver" (120 : Nat) ({ cls := "GrammarLoom$Grammar", name := "symbolAt", desc := "(II)I" } : Jvm.MethodName)) ∈ gj_tbl := gj_in (List.mem_append_right _ (List.mem_of_getElem? (i := 480) (by decide +kernel))) rfl
theorem tw_485 : (Cond.methodLink "GrammarLoom" (145 : Nat) ({ cls := "GrammarLoom$Weaver", name := "ruleAt", desc := "(I)I" } : Jvm.MethodName)) ∈ gj_tbl := gj_in (List.mem_append_right _ (List.mem_of_getElem? (i := 485) (by decide +kernel))) rfl
theorem tw_486 : (Cond.instanceMethod ({ cls := "GrammarLoom$Weaver", name := "ruleAt", desc := "(I)I" } : Jvm.MethodName)) ∈ gj_tbl := gj_in (List.mem_append_right _ (List.mem_of_getElem? (i := 486) (by decide +kernel))) rfl
theorem tw_487 : (Cond.selects "GrammarLoom$Weaver" ({ cls := "GrammarLoom$Weaver", name := "ruleAt", desc := "(I)I" } : Jvm.MethodName) ({ cls := "GrammarLoom$Weaver", name := "ruleAt", desc := "(I)I" } : Jvm.MethodName)) ∈ gj_tbl := gj_in (List.mem_append_right _ (List.mem_of_getElem? (i := 487) (by decide +kernel))) rfl
theorem tw_488 : (Cond.code ({ cls := "GrammarLoom$Weaver", name := "ruleAt", desc := "(I)I" } : Jvm.MethodName) prog_9_method_2_code (2 : Nat) (Option.some Jvm.ClassFile.FieldType.int)) ∈ gj_tbl := gj_in (List.mem_append_right _ (List.mem_of_getElem? (i := 488) (by decide +kernel))) rfl
theorem tw_493 : (Cond.methodLink "GrammarLoom" (148 : Nat) ({ cls := "GrammarLoom$Weaver", name := "leafAt", desc := "(I)I" } : Jvm.MethodName)) ∈ gj_tbl := gj_in (List.mem_append_right _ (List.mem_of_getElem? (i := 493) (by decide +kernel))) rfl
theorem tw_494 : (Cond.instanceMethod ({ cls := "GrammarLoom$Weaver", name := "leafAt", desc := "(I)I" } : Jvm.MethodName)) ∈ gj_tbl := gj_in (List.mem_append_right _ (List.mem_of_getElem? (i := 494) (by decide +kernel))) rfl
theorem tw_495 : (Cond.selects "GrammarLoom$Weaver" ({ cls := "GrammarLoom$Weaver", name := "leafAt", desc := "(I)I" } : Jvm.MethodName) ({ cls := "GrammarLoom$Weaver", name := "leafAt", desc := "(I)I" } : Jvm.MethodName)) ∈ gj_tbl := gj_in (List.mem_append_right _ (List.mem_of_getElem? (i := 495) (by decide +kernel))) rfl
theorem tw_496 : (Cond.code ({ cls := "GrammarLoom$Weaver", name := "leafAt", desc := "(I)I" } : Jvm.MethodName) prog_9_method_3_code (2 : Nat) (Option.some Jvm.ClassFile.FieldType.int)) ∈ gj_tbl := gj_in (List.mem_append_right _ (List.mem_of_getElem? (i := 496) (by decide +kernel))) rfl
theorem tw_501 : (Cond.methodLink "GrammarLoom" (151 : Nat) ({ cls := "GrammarLoom$Listing", name := "add", desc := "(I)I" } : Jvm.MethodName)) ∈ gj_tbl := gj_in (List.mem_append_right _ (List.mem_of_getElem? (i := 501) (by decide +kernel))) rfl
theorem tw_502 : (Cond.instanceMethod ({ cls := "GrammarLoom$Listing", name := "add", desc := "(I)I" } : Jvm.MethodName)) ∈ gj_tbl := gj_in (List.mem_append_right _ (List.mem_of_getElem? (i := 502) (by decide +kernel))) rfl
theorem tw_503 : (Cond.selects "GrammarLoom$Listing" ({ cls := "GrammarLoom$Listing", name := "add", desc := "(I)I" } : Jvm.MethodName) ({ cls := "GrammarLoom$Listing", name := "add", desc := "(I)I" } : Jvm.MethodName)) ∈ gj_tbl := gj_in (List.mem_append_right _ (List.mem_of_getElem? (i := 503) (by decide +kernel))) rfl
theorem tw_504 : (Cond.code ({ cls := "GrammarLoom$Listing", name := "add", desc := "(I)I" } : Jvm.MethodName) prog_7_method_2_code (2 : Nat) (Option.some Jvm.ClassFile.FieldType.int)) ∈ gj_tbl := gj_in (List.mem_append_right _ (List.mem_of_getElem? (i := 504) (by decide +kernel))) rfl
theorem tw_509 : (Cond.methodLink "GrammarLoom" (153 : Nat) ({ cls := "GrammarLoom", name := "circle", desc := "()Z" } : Jvm.MethodName)) ∈ gj_tbl := gj_in (List.mem_append_right _ (List.mem_of_getElem? (i := 509) (by decide +kernel))) rfl
theorem tw_510 : (Cond.methodLink "GrammarLoom" (156 : Nat) ({ cls := "GrammarLoom$Listing", name := "numberOf", desc := "(I)J" } : Jvm.MethodName)) ∈ gj_tbl := gj_in (List.mem_append_right _ (List.mem_of_getElem? (i := 510) (by decide +kernel))) rfl
theorem tw_511 : (Cond.instanceMethod ({ cls := "GrammarLoom$Listing", name := "numberOf", desc := "(I)J" } : Jvm.MethodName)) ∈ gj_tbl := gj_in (List.mem_append_right _ (List.mem_of_getElem? (i := 511) (by decide +kernel))) rfl
theorem tw_512 : (Cond.selects "GrammarLoom$Listing" ({ cls := "GrammarLoom$Listing", name := "numberOf", desc := "(I)J" } : Jvm.MethodName) ({ cls := "GrammarLoom$Listing", name := "numberOf", desc := "(I)J" } : Jvm.MethodName)) ∈ gj_tbl := gj_in (List.mem_append_right _ (List.mem_of_getElem? (i := 512) (by decide +kernel))) rfl
theorem tw_513 : (Cond.code ({ cls := "GrammarLoom$Listing", name := "numberOf", desc := "(I)J" } : Jvm.MethodName) prog_7_method_3_code (4 : Nat) (Option.some Jvm.ClassFile.FieldType.long)) ∈ gj_tbl := gj_in (List.mem_append_right _ (List.mem_of_getElem? (i := 513) (by decide +kernel))) rfl
theorem tw_514 : (Cond.methodLink "GrammarLoom$Listing" (31 : Nat) ({ cls := "GrammarLoom$Listing", name := "terminals", desc := "()I" } : Jvm.MethodName)) ∈ gj_tbl := gj_in (List.mem_append_right _ (List.mem_of_getElem? (i := 514) (by decide +kernel))) rfl
theorem tw_516 : (Cond.instanceMethod ({ cls := "GrammarLoom$Listing", name := "terminals", desc := "()I" } : Jvm.MethodName)) ∈ gj_tbl := gj_in (List.mem_append_right _ (List.mem_of_getElem? (i := 516) (by decide +kernel))) rfl
theorem tw_517 : (Cond.code ({ cls := "GrammarLoom$Listing", name := "terminals", desc := "()I" } : Jvm.MethodName) prog_7_method_4_code (3 : Nat) (Option.some Jvm.ClassFile.FieldType.int)) ∈ gj_tbl := gj_in (List.mem_append_right _ (List.mem_of_getElem? (i := 517) (by decide +kernel))) rfl
theorem tw_518 : (Cond.methodLink "GrammarLoom$Listing" (59 : Nat) ({ cls := "GrammarLoom$Grammar", name := "has", desc := "(I)Z" } : Jvm.MethodName)) ∈ gj_tbl := gj_in (List.mem_append_right _ (List.mem_of_getElem? (i := 518) (by decide +kernel))) rfl
theorem tw_519 : (Cond.methodLink "GrammarLoom$Listing" (64 : Nat) ({ cls := "GrammarLoom$Grammar", name := "sizeOf", desc := "(I)I" } : Jvm.MethodName)) ∈ gj_tbl := gj_in (List.mem_append_right _ (List.mem_of_getElem? (i := 519) (by decide +kernel))) rfl
theorem tw_520 : (Cond.methodLink "GrammarLoom$Listing" (68 : Nat) ({ cls := "GrammarLoom$Grammar", name := "nonterminalsIn", desc := "(I)I" } : Jvm.MethodName)) ∈ gj_tbl := gj_in (List.mem_append_right _ (List.mem_of_getElem? (i := 520) (by decide +kernel))) rfl
theorem tw_521 : (Cond.methodLink "GrammarLoom$Listing" (35 : Nat) ({ cls := "GrammarLoom$Counts", name := "treesOf", desc := "(II)J" } : Jvm.MethodName)) ∈ gj_tbl := gj_in (List.mem_append_right _ (List.mem_of_getElem? (i := 521) (by decide +kernel))) rfl
theorem tw_522 : (Cond.constantLong "GrammarLoom$Listing" (41 : Nat) (1000000000000000000 : Int64)) ∈ gj_tbl := gj_in (List.mem_append_right _ (List.mem_of_getElem? (i := 522) (by decide +kernel))) rfl
theorem tw_523 : (Cond.constantLong "GrammarLoom$Listing" (43 : Nat) (-1 : Int64)) ∈ gj_tbl := gj_in (List.mem_append_right _ (List.mem_of_getElem? (i := 523) (by decide +kernel))) rfl
theorem tw_524 : (Cond.methodLink "GrammarLoom$Listing" (48 : Nat) ({ cls := "GrammarLoom$Listing", name := "fold", desc := "(I)Z" } : Jvm.MethodName)) ∈ gj_tbl := gj_in (List.mem_append_right _ (List.mem_of_getElem? (i := 524) (by decide +kernel))) rfl
theorem tw_526 : (Cond.instanceMethod ({ cls := "GrammarLoom$Listing", name := "fold", desc := "(I)Z" } : Jvm.MethodName)) ∈ gj_tbl := gj_in (List.mem_append_right _ (List.mem_of_getElem? (i := 526) (by decide +kernel))) rfl
theorem tw_527 : (Cond.code ({ cls := "GrammarLoom$Listing", name := "fold", desc := "(I)Z" } : Jvm.MethodName) prog_7_method_5_code (6 : Nat) (Option.some Jvm.ClassFile.FieldType.boolean)) ∈ gj_tbl := gj_in (List.mem_append_right _ (List.mem_of_getElem? (i := 527) (by decide +kernel))) rfl
theorem tw_528 : (Cond.methodLink "GrammarLoom$Listing" (71 : Nat) ({ cls := "GrammarLoom$Grammar", name := "symbolAt", desc := "(II)I" } : Jvm.MethodName)) ∈ gj_tbl := gj_in (List.mem_append_right _ (List.mem_of_getElem? (i := 528) (by decide +kernel))) rfl
theorem tn_529 : (Cond.methodLinkNest "GrammarLoom$Listing" (75 : Nat) ({ cls := "GrammarLoom", name := "isNonterminal", desc := "(I)Z" } : Jvm.MethodName) "GrammarLoom") ∈ gj_nest := gj_inN (List.mem_of_getElem? (i := 529) (by decide +kernel)) rfl
theorem tw_530 : (Cond.methodLink "GrammarLoom$Listing" (81 : Nat) ({ cls := "GrammarLoom$Listing", name := "treesBefore", desc := "(II)J" } : Jvm.MethodName)) ∈ gj_tbl := gj_in (List.mem_append_right _ (List.mem_of_getElem? (i := 530) (by decide +kernel))) rfl
theorem tw_532 : (Cond.instanceMethod ({ cls := "GrammarLoom$Listing", name := "treesBefore", desc := "(II)J" } : Jvm.MethodName)) ∈ gj_tbl := gj_in (List.mem_append_right _ (List.mem_of_getElem? (i := 532) (by decide +kernel))) rfl
theorem tw_533 : (Cond.code ({ cls := "GrammarLoom$Listing", name := "treesBefore", desc := "(II)J" } : Jvm.MethodName) prog_7_method_6_code (6 : Nat) (Option.some Jvm.ClassFile.FieldType.long)) ∈ gj_tbl := gj_in (List.mem_append_right _ (List.mem_of_getElem? (i := 533) (by decide +kernel))) rfl
theorem tw_534 : (Cond.methodLink "GrammarLoom$Listing" (87 : Nat) ({ cls := "GrammarLoom$Grammar", name := "leftOf", desc := "(I)I" } : Jvm.MethodName)) ∈ gj_tbl := gj_in (List.mem_append_right _ (List.mem_of_getElem? (i := 534) (by decide +kernel))) rfl
theorem tw_535 : (Cond.methodLink "GrammarLoom$Listing" (94 : Nat) ({ cls := "GrammarLoom$Counts", name := "endingsOf", desc := "(III)J" } : Jvm.MethodName)) ∈ gj_tbl := gj_in (List.mem_append_right _ (List.mem_of_getElem? (i := 535) (by decide +kernel))) rfl
theorem tw_536 : (Cond.methodLink "GrammarLoom$Listing" (84 : Nat) ({ cls := "GrammarLoom$Listing", name := "numberInRule", desc := "(II)J" } : Jvm.MethodName)) ∈ gj_tbl := gj_in (List.mem_append_right _ (List.mem_of_getElem? (i := 536) (by decide +kernel))) rfl
theorem tw_538 : (Cond.instanceMethod ({ cls := "GrammarLoom$Listing", name := "numberInRule", desc := "(II)J" } : Jvm.MethodName)) ∈ gj_tbl := gj_in (List.mem_append_right _ (List.mem_of_getElem? (i := 538) (by decide +kernel))) rfl
theorem tw_539 : (Cond.code ({ cls := "GrammarLoom$Listing", name := "numberInRule", desc := "(II)J" } : Jvm.MethodName) prog_7_method_7_code (12 : Nat) (Option.some Jvm.ClassFile.FieldType.long)) ∈ gj_tbl := gj_in (List.mem_append_right _ (List.mem_of_getElem? (i := 539) (by decide +kernel))) rfl
theorem tw_540 : (Cond.methodLink "GrammarLoom$Listing" (98 : Nat) ({ cls := "GrammarLoom$Counts", name := "endingsWith", desc := "(IIII)J" } : Jvm.MethodName)) ∈ gj_tbl := gj_in (List.mem_append_right _ (List.mem_of_getElem? (i := 540) (by decide +kernel))) rfl
theorem tw_541 : (Cond.methodLink "GrammarLoom$Listing" (90 : Nat) ({ cls := "GrammarLoom$Pile", name := "put", desc := "(IIIJ)V" } : Jvm.MethodName)) ∈ gj_tbl := gj_in (List.mem_append_right _ (List.mem_of_getElem? (i := 541) (by decide +kernel))) rfl
theorem ts_0 : Cond.selects "GrammarLoom" (⟨"GrammarLoom", "study", "()V"⟩ : MethodName) (⟨"GrammarLoom", "study", "()V"⟩ : MethodName) ∈ gj_tbl := gj_in (List.mem_append_left _ (List.mem_of_getElem? (i := 0) (by decide +kernel))) rfl
theorem ts_1 : Cond.selects "GrammarLoom$Lengths" (⟨"GrammarLoom$Lengths", "leastBut", "(II)I"⟩ : MethodName) (⟨"GrammarLoom$Lengths", "leastBut", "(II)I"⟩ : MethodName) ∈ gj_tbl := gj_in (List.mem_append_left _ (List.mem_of_getElem? (i := 1) (by decide +kernel))) rfl
theorem ts_2 : Cond.selects "GrammarLoom$Lengths" (⟨"GrammarLoom$Lengths", "lowerAround", "(I)V"⟩ : MethodName) (⟨"GrammarLoom$Lengths", "lowerAround", "(I)V"⟩ : MethodName) ∈ gj_tbl := gj_in (List.mem_append_left _ (List.mem_of_getElem? (i := 2) (by decide +kernel))) rfl
theorem ts_3 : Cond.selects "GrammarLoom$Leads" (⟨"GrammarLoom$Leads", "isEmptyBut", "(II)Z"⟩ : MethodName) (⟨"GrammarLoom$Leads", "isEmptyBut", "(II)Z"⟩ : MethodName) ∈ gj_tbl := gj_in (List.mem_append_left _ (List.mem_of_getElem? (i := 3) (by decide +kernel))) rfl
theorem ts_4 : Cond.selects "GrammarLoom$Leads" (⟨"GrammarLoom$Leads", "putInOrder", "()V"⟩ : MethodName) (⟨"GrammarLoom$Leads", "putInOrder", "()V"⟩ : MethodName) ∈ gj_tbl := gj_in (List.mem_append_left _ (List.mem_of_getElem? (i := 4) (by decide +kernel))) rfl
theorem ts_5 : Cond.selects "GrammarLoom" (⟨"GrammarLoom", "isCounted", "(I)Z"⟩ : MethodName) (⟨"GrammarLoom", "isCounted", "(I)Z"⟩ : MethodName) ∈ gj_tbl := gj_in (List.mem_append_left _ (List.mem_of_getElem? (i := 5) (by decide +kernel))) rfl
theorem ts_6 : Cond.selects "GrammarLoom$Counts" (⟨"GrammarLoom$Counts", "countLength", "(I)V"⟩ : MethodName) (⟨"GrammarLoom$Counts", "countLength", "(I)V"⟩ : MethodName) ∈ gj_tbl := gj_in (List.mem_append_left _ (List.mem_of_getElem? (i := 6) (by decide +kernel))) rfl
theorem ts_7 : Cond.selects "GrammarLoom$Counts" (⟨"GrammarLoom$Counts", "fillEndings", "(II)V"⟩ : MethodName) (⟨"GrammarLoom$Counts", "fillEndings", "(II)V"⟩ : MethodName) ∈ gj_tbl := gj_in (List.mem_append_left _ (List.mem_of_getElem? (i := 7) (by decide +kernel))) rfl
theorem ts_8 : Cond.selects "GrammarLoom$Counts" (⟨"GrammarLoom$Counts", "pairs", "(III)J"⟩ : MethodName) (⟨"GrammarLoom$Counts", "pairs", "(III)J"⟩ : MethodName) ∈ gj_tbl := gj_in (List.mem_append_left _ (List.mem_of_getElem? (i := 8) (by decide +kernel))) rfl
theorem ts_9 : Cond.selects "GrammarLoom$Counts" (⟨"GrammarLoom$Counts", "addTrees", "(IIJ)V"⟩ : MethodName) (⟨"GrammarLoom$Counts", "addTrees", "(IIJ)V"⟩ : MethodName) ∈ gj_tbl := gj_in (List.mem_append_left _ (List.mem_of_getElem? (i := 9) (by decide +kernel))) rfl
theorem ts_10 : Cond.selects "GrammarLoom$Weaver" (⟨"GrammarLoom$Weaver", "unfold", "(IIJ)Z"⟩ : MethodName) (⟨"GrammarLoom$Weaver", "unfold", "(IIJ)Z"⟩ : MethodName) ∈ gj_tbl := gj_in (List.mem_append_left _ (List.mem_of_getElem? (i := 10) (by decide +kernel))) rfl
theorem ts_11 : Cond.selects "GrammarLoom$Weaver" (⟨"GrammarLoom$Weaver", "unfoldRule", "(IIJ)Z"⟩ : MethodName) (⟨"GrammarLoom$Weaver", "unfoldRule", "(IIJ)Z"⟩ : MethodName) ∈ gj_tbl := gj_in (List.mem_append_left _ (List.mem_of_getElem? (i := 11) (by decide +kernel))) rfl
theorem ts_12 : Cond.selects "GrammarLoom$Listing" (⟨"GrammarLoom$Listing", "terminals", "()I"⟩ : MethodName) (⟨"GrammarLoom$Listing", "terminals", "()I"⟩ : MethodName) ∈ gj_tbl := gj_in (List.mem_append_left _ (List.mem_of_getElem? (i := 12) (by decide +kernel))) rfl
theorem ts_13 : Cond.selects "GrammarLoom$Listing" (⟨"GrammarLoom$Listing", "fold", "(I)Z"⟩ : MethodName) (⟨"GrammarLoom$Listing", "fold", "(I)Z"⟩ : MethodName) ∈ gj_tbl := gj_in (List.mem_append_left _ (List.mem_of_getElem? (i := 13) (by decide +kernel))) rfl
theorem ts_14 : Cond.selects "GrammarLoom$Listing" (⟨"GrammarLoom$Listing", "treesBefore", "(II)J"⟩ : MethodName) (⟨"GrammarLoom$Listing", "treesBefore", "(II)J"⟩ : MethodName) ∈ gj_tbl := gj_in (List.mem_append_left _ (List.mem_of_getElem? (i := 14) (by decide +kernel))) rfl
theorem ts_15 : Cond.selects "GrammarLoom$Listing" (⟨"GrammarLoom$Listing", "numberInRule", "(II)J"⟩ : MethodName) (⟨"GrammarLoom$Listing", "numberInRule", "(II)J"⟩ : MethodName) ∈ gj_tbl := gj_in (List.mem_append_left _ (List.mem_of_getElem? (i := 15) (by decide +kernel))) rfl
end
section
abbrev b_Co_init : ByteArray := prog_2_method_1_code
def y_Co_init : MethodName := ⟨"GrammarLoom$Counts", "<init>", "(LGrammarLoom$Grammar;LGrammarLoom$Leads;)V"⟩
theorem hd_Co_init : gj_hd y_Co_init 2 := by unfold gj_hd; decide +kernel
abbrev b_Co_addTrees : ByteArray := prog_2_method_8_code
def y_Co_addTrees : MethodName := ⟨"GrammarLoom$Counts", "addTrees", "(IIJ)V"⟩
theorem hd_Co_addTrees : gj_hd y_Co_addTrees 3 := by unfold gj_hd; decide +kernel
abbrev b_Co_countLength : ByteArray := prog_2_method_7_code
def y_Co_countLength : MethodName := ⟨"GrammarLoom$Counts", "countLength", "(I)V"⟩
theorem hd_Co_countLength : gj_hd y_Co_countLength 1 := by unfold gj_hd; decide +kernel
abbrev b_Co_endingsAt : ByteArray := prog_2_method_11_code
def y_Co_endingsAt : MethodName := ⟨"GrammarLoom$Counts", "endingsAt", "(II)I"⟩
theorem hd_Co_endingsAt : gj_hd y_Co_endingsAt 2 := by unfold gj_hd; decide +kernel
abbrev b_Co_endingsOf : ByteArray := prog_2_method_5_code
def y_Co_endingsOf : MethodName := ⟨"GrammarLoom$Counts", "endingsOf", "(III)J"⟩
theorem hd_Co_endingsOf : gj_hd y_Co_endingsOf 3 := by unfold gj_hd; decide +kernel
abbrev b_Co_endingsWith : ByteArray := prog_2_method_6_code
def y_Co_endingsWith : MethodName := ⟨"GrammarLoom$Counts", "endingsWith", "(IIII)J"⟩
theorem hd_Co_endingsWith : gj_hd y_Co_endingsWith 4 := by unfold gj_hd; decide +kernel
abbrev b_Co_fillEndings : ByteArray := prog_2_method_9_code
def y_Co_fillEndings : MethodName := ⟨"GrammarLoom$Counts", "fillEndings", "(II)V"⟩
theorem hd_Co_fillEndings : gj_hd y_Co_fillEndings 2 := by unfold gj_hd; decide +kernel
abbrev b_Co_forget : ByteArray := prog_2_method_2_code
def y_Co_forget : MethodName := ⟨"GrammarLoom$Counts", "forget", "()V"⟩
theorem hd_Co_forget : gj_hd y_Co_forget 0 := by unfold gj_hd; decide +kernel
abbrev b_Co_leaveOut : ByteArray := prog_2_method_3_code
def y_Co_leaveOut : MethodName := ⟨"GrammarLoom$Counts", "leaveOut", "(I)V"⟩
theorem hd_Co_leaveOut : gj_hd y_Co_leaveOut 1 := by unfold gj_hd; decide +kernel
abbrev b_Co_pairs : ByteArray := prog_2_method_10_code
def y_Co_pairs : MethodName := ⟨"GrammarLoom$Counts", "pairs", "(III)J"⟩
theorem hd_Co_pairs : gj_hd y_Co_pairs 3 := by unfold gj_hd; decide +kernel
abbrev b_Co_plus : ByteArray := prog_2_method_12_code
def y_Co_plus : MethodName := ⟨"GrammarLoom$Counts", "plus", "(JJ)J"⟩
theorem hd_Co_plus : gj_hd y_Co_plus 2 := by unfold gj_hd; decide +kernel
abbrev b_Co_times : ByteArray := prog_2_method_13_code
def y_Co_times : MethodName := ⟨"GrammarLoom$Counts", "times", "(JJ)J"⟩
theorem hd_Co_times : gj_hd y_Co_times 2 := by unfold gj_hd; decide +kernel
abbrev b_Co_treesOf : ByteArray := prog_2_method_4_code
def y_Co_treesOf : MethodName := ⟨"GrammarLoom$Counts", "treesOf", "(II)J"⟩
theorem hd_Co_treesOf : gj_hd y_Co_treesOf 2 := by unfold gj_hd; decide +kernel
abbrev b_Dr_init : ByteArray := prog_3_method_1_code
def y_Dr_init : MethodName := ⟨"GrammarLoom$Drawing", "<init>", "()V"⟩
theorem hd_Dr_init : gj_hd y_Dr_init 0 := by unfold gj_hd; decide +kernel
abbrev b_Dr_addLeaf : ByteArray := prog_3_method_4_code
def y_Dr_addLeaf : MethodName := ⟨"GrammarLoom$Drawing", "addLeaf", "(I)V"⟩
theorem hd_Dr_addLeaf : gj_hd y_Dr_addLeaf 1 := by unfold gj_hd; decide +kernel
abbrev b_Dr_addRule : ByteArray := prog_3_method_3_code
def y_Dr_addRule : MethodName := ⟨"GrammarLoom$Drawing", "addRule", "(I)V"⟩
theorem hd_Dr_addRule : gj_hd y_Dr_addRule 1 := by unfold gj_hd; decide +kernel
abbrev b_Dr_clear : ByteArray := prog_3_method_2_code
def y_Dr_clear : MethodName := ⟨"GrammarLoom$Drawing", "clear", "()V"⟩
theorem hd_Dr_clear : gj_hd y_Dr_clear 0 := by unfold gj_hd; decide +kernel
abbrev b_Gr_init : ByteArray := prog_4_method_1_code
def y_Gr_init : MethodName := ⟨"GrammarLoom$Grammar", "<init>", "()V"⟩
theorem hd_Gr_init : gj_hd y_Gr_init 0 := by unfold gj_hd; decide +kernel
abbrev b_Gr_add : ByteArray := prog_4_method_7_code
def y_Gr_add : MethodName := ⟨"GrammarLoom$Grammar", "add", "(I[II)I"⟩
theorem hd_Gr_add : gj_hd y_Gr_add 3 := by unfold gj_hd; decide +kernel
abbrev b_Gr_has : ByteArray := prog_4_method_2_code
def y_Gr_has : MethodName := ⟨"GrammarLoom$Grammar", "has", "(I)Z"⟩
theorem hd_Gr_has : gj_hd y_Gr_has 1 := by unfold gj_hd; decide +kernel
abbrev b_Gr_leftOf : ByteArray := prog_4_method_3_code
def y_Gr_leftOf : MethodName := ⟨"GrammarLoom$Grammar", "leftOf", "(I)I"⟩
theorem hd_Gr_leftOf : gj_hd y_Gr_leftOf 1 := by unfold gj_hd; decide +kernel
abbrev b_Gr_nonterminalsIn : ByteArray := prog_4_method_6_code
def y_Gr_nonterminalsIn : MethodName := ⟨"GrammarLoom$Grammar", "nonterminalsIn", "(I)I"⟩
theorem hd_Gr_nonterminalsIn : gj_hd y_Gr_nonterminalsIn 1 := by unfold gj_hd; decide +kernel
abbrev b_Gr_remove : ByteArray := prog_4_method_8_code
def y_Gr_remove : MethodName := ⟨"GrammarLoom$Grammar", "remove", "(I)V"⟩
theorem hd_Gr_remove : gj_hd y_Gr_remove 1 := by unfold gj_hd; decide +kernel
abbrev b_Gr_sizeOf : ByteArray := prog_4_method_4_code
def y_Gr_sizeOf : MethodName := ⟨"GrammarLoom$Grammar", "sizeOf", "(I)I"⟩
theorem hd_Gr_sizeOf : gj_hd y_Gr_sizeOf 1 := by unfold gj_hd; decide +kernel
abbrev b_Gr_symbolAt : ByteArray := prog_4_method_5_code
def y_Gr_symbolAt : MethodName := ⟨"GrammarLoom$Grammar", "symbolAt", "(II)I"⟩
theorem hd_Gr_symbolAt : gj_hd y_Gr_symbolAt 2 := by unfold gj_hd; decide +kernel
abbrev b_Ld_init : ByteArray := prog_5_method_1_code
def y_Ld_init : MethodName := ⟨"GrammarLoom$Leads", "<init>", "(LGrammarLoom$Grammar;LGrammarLoom$Lengths;)V"⟩
theorem hd_Ld_init : gj_hd y_Ld_init 2 := by unfold gj_hd; decide +kernel
abbrev b_Ld_find : ByteArray := prog_5_method_4_code
def y_Ld_find : MethodName := ⟨"GrammarLoom$Leads", "find", "()V"⟩
theorem hd_Ld_find : gj_hd y_Ld_find 0 := by unfold gj_hd; decide +kernel
abbrev b_Ld_inOrder : ByteArray := prog_5_method_3_code
def y_Ld_inOrder : MethodName := ⟨"GrammarLoom$Leads", "inOrder", "(I)I"⟩
theorem hd_Ld_inOrder : gj_hd y_Ld_inOrder 1 := by unfold gj_hd; decide +kernel
abbrev b_Ld_isCircle : ByteArray := prog_5_method_2_code
def y_Ld_isCircle : MethodName := ⟨"GrammarLoom$Leads", "isCircle", "()Z"⟩
theorem hd_Ld_isCircle : gj_hd y_Ld_isCircle 0 := by unfold gj_hd; decide +kernel
abbrev b_Ld_isEmptyBut : ByteArray := prog_5_method_5_code
def y_Ld_isEmptyBut : MethodName := ⟨"GrammarLoom$Leads", "isEmptyBut", "(II)Z"⟩
theorem hd_Ld_isEmptyBut : gj_hd y_Ld_isEmptyBut 2 := by unfold gj_hd; decide +kernel
abbrev b_Ld_putInOrder : ByteArray := prog_5_method_6_code
def y_Ld_putInOrder : MethodName := ⟨"GrammarLoom$Leads", "putInOrder", "()V"⟩
theorem hd_Ld_putInOrder : gj_hd y_Ld_putInOrder 0 := by unfold gj_hd; decide +kernel
abbrev b_Le_init : ByteArray := prog_6_method_1_code
def y_Le_init : MethodName := ⟨"GrammarLoom$Lengths", "<init>", "(LGrammarLoom$Grammar;)V"⟩
theorem hd_Le_init : gj_hd y_Le_init 1 := by unfold gj_hd; decide +kernel
abbrev b_Le_find : ByteArray := prog_6_method_5_code
def y_Le_find : MethodName := ⟨"GrammarLoom$Lengths", "find", "()V"⟩
theorem hd_Le_find : gj_hd y_Le_find 0 := by unfold gj_hd; decide +kernel
abbrev b_Le_isEmpty : ByteArray := prog_6_method_3_code
def y_Le_isEmpty : MethodName := ⟨"GrammarLoom$Lengths", "isEmpty", "(I)Z"⟩
theorem hd_Le_isEmpty : gj_hd y_Le_isEmpty 1 := by unfold gj_hd; decide +kernel
abbrev b_Le_leastBut : ByteArray := prog_6_method_8_code
def y_Le_leastBut : MethodName := ⟨"GrammarLoom$Lengths", "leastBut", "(II)I"⟩
theorem hd_Le_leastBut : gj_hd y_Le_leastBut 2 := by unfold gj_hd; decide +kernel
abbrev b_Le_leastOf : ByteArray := prog_6_method_2_code
def y_Le_leastOf : MethodName := ⟨"GrammarLoom$Lengths", "leastOf", "(I)I"⟩
theorem hd_Le_leastOf : gj_hd y_Le_leastOf 1 := by unfold gj_hd; decide +kernel
abbrev b_Le_leastWith : ByteArray := prog_6_method_4_code
def y_Le_leastWith : MethodName := ⟨"GrammarLoom$Lengths", "leastWith", "(I)I"⟩
theorem hd_Le_leastWith : gj_hd y_Le_leastWith 1 := by unfold gj_hd; decide +kernel
abbrev b_Le_lower : ByteArray := prog_6_method_7_code
def y_Le_lower : MethodName := ⟨"GrammarLoom$Lengths", "lower", "([III)V"⟩
theorem hd_Le_lower : gj_hd y_Le_lower 3 := by unfold gj_hd; decide +kernel
abbrev b_Le_lowerAround : ByteArray := prog_6_method_6_code
def y_Le_lowerAround : MethodName := ⟨"GrammarLoom$Lengths", "lowerAround", "(I)V"⟩
theorem hd_Le_lowerAround : gj_hd y_Le_lowerAround 1 := by unfold gj_hd; decide +kernel
abbrev b_Li_init : ByteArray := prog_7_method_1_code
def y_Li_init : MethodName := ⟨"GrammarLoom$Listing", "<init>", "(LGrammarLoom$Grammar;LGrammarLoom$Counts;LGrammarLoom$Pile;)V"⟩
theorem hd_Li_init : gj_hd y_Li_init 3 := by unfold gj_hd; decide +kernel
abbrev b_Li_add : ByteArray := prog_7_method_2_code
def y_Li_add : MethodName := ⟨"GrammarLoom$Listing", "add", "(I)I"⟩
theorem hd_Li_add : gj_hd y_Li_add 1 := by unfold gj_hd; decide +kernel
abbrev b_Li_fold : ByteArray := prog_7_method_5_code
def y_Li_fold : MethodName := ⟨"GrammarLoom$Listing", "fold", "(I)Z"⟩
theorem hd_Li_fold : gj_hd y_Li_fold 1 := by unfold gj_hd; decide +kernel
abbrev b_Li_numberInRule : ByteArray := prog_7_method_7_code
def y_Li_numberInRule : MethodName := ⟨"GrammarLoom$Listing", "numberInRule", "(II)J"⟩
theorem hd_Li_numberInRule : gj_hd y_Li_numberInRule 2 := by unfold gj_hd; decide +kernel
abbrev b_Li_numberOf : ByteArray := prog_7_method_3_code
def y_Li_numberOf : MethodName := ⟨"GrammarLoom$Listing", "numberOf", "(I)J"⟩
theorem hd_Li_numberOf : gj_hd y_Li_numberOf 1 := by unfold gj_hd; decide +kernel
abbrev b_Li_terminals : ByteArray := prog_7_method_4_code
def y_Li_terminals : MethodName := ⟨"GrammarLoom$Listing", "terminals", "()I"⟩
theorem hd_Li_terminals : gj_hd y_Li_terminals 0 := by unfold gj_hd; decide +kernel
abbrev b_Li_treesBefore : ByteArray := prog_7_method_6_code
def y_Li_treesBefore : MethodName := ⟨"GrammarLoom$Listing", "treesBefore", "(II)J"⟩
theorem hd_Li_treesBefore : gj_hd y_Li_treesBefore 2 := by unfold gj_hd; decide +kernel
abbrev b_Pi_init : ByteArray := prog_8_method_1_code
def y_Pi_init : MethodName := ⟨"GrammarLoom$Pile", "<init>", "()V"⟩
theorem hd_Pi_init : gj_hd y_Pi_init 0 := by unfold gj_hd; decide +kernel
abbrev b_Pi_put : ByteArray := prog_8_method_2_code
def y_Pi_put : MethodName := ⟨"GrammarLoom$Pile", "put", "(IIIJ)V"⟩
theorem hd_Pi_put : gj_hd y_Pi_put 4 := by unfold gj_hd; decide +kernel
abbrev b_We_init : ByteArray := prog_9_method_1_code
def y_We_init : MethodName := ⟨"GrammarLoom$Weaver", "<init>", "(LGrammarLoom$Grammar;LGrammarLoom$Counts;LGrammarLoom$Pile;)V"⟩
theorem hd_We_init : gj_hd y_We_init 3 := by unfold gj_hd; decide +kernel
abbrev b_We_leafAt : ByteArray := prog_9_method_3_code
def y_We_leafAt : MethodName := ⟨"GrammarLoom$Weaver", "leafAt", "(I)I"⟩
theorem hd_We_leafAt : gj_hd y_We_leafAt 1 := by unfold gj_hd; decide +kernel
abbrev b_We_ruleAt : ByteArray := prog_9_method_2_code
def y_We_ruleAt : MethodName := ⟨"GrammarLoom$Weaver", "ruleAt", "(I)I"⟩
theorem hd_We_ruleAt : gj_hd y_We_ruleAt 1 := by unfold gj_hd; decide +kernel
abbrev b_We_unfold : ByteArray := prog_9_method_5_code
def y_We_unfold : MethodName := ⟨"GrammarLoom$Weaver", "unfold", "(IIJ)Z"⟩
theorem hd_We_unfold : gj_hd y_We_unfold 3 := by unfold gj_hd; decide +kernel
abbrev b_We_unfoldRule : ByteArray := prog_9_method_6_code
def y_We_unfoldRule : MethodName := ⟨"GrammarLoom$Weaver", "unfoldRule", "(IIJ)Z"⟩
theorem hd_We_unfoldRule : gj_hd y_We_unfoldRule 3 := by unfold gj_hd; decide +kernel
abbrev b_We_weave : ByteArray := prog_9_method_4_code
def y_We_weave : MethodName := ⟨"GrammarLoom$Weaver", "weave", "(IIJ)I"⟩
theorem hd_We_weave : gj_hd y_We_weave 3 := by unfold gj_hd; decide +kernel
abbrev b_Gl_init : ByteArray := prog_1_method_1_code
def y_Gl_init : MethodName := ⟨"GrammarLoom", "<init>", "()V"⟩
abbrev b_Gl_about : ByteArray := prog_1_method_6_code
def y_Gl_about : MethodName := ⟨"GrammarLoom", "about", "(II)I"⟩
abbrev b_Gl_circle : ByteArray := prog_1_method_9_code
def y_Gl_circle : MethodName := ⟨"GrammarLoom", "circle", "()Z"⟩
theorem hd_Gl_circle : gj_hd y_Gl_circle 0 := by unfold gj_hd; decide +kernel
abbrev b_Gl_count : ByteArray := prog_1_method_5_code
def y_Gl_count : MethodName := ⟨"GrammarLoom", "count", "(I)I"⟩
abbrev b_Gl_draw : ByteArray := prog_1_method_12_code
def y_Gl_draw : MethodName := ⟨"GrammarLoom", "draw", "(IIJ)I"⟩
abbrev b_Gl_drop : ByteArray := prog_1_method_4_code
def y_Gl_drop : MethodName := ⟨"GrammarLoom", "drop", "(I)Z"⟩
abbrev b_Gl_isCounted : ByteArray := prog_1_method_18_code
def y_Gl_isCounted : MethodName := ⟨"GrammarLoom", "isCounted", "(I)Z"⟩
theorem hd_Gl_isCounted : gj_hd y_Gl_isCounted 1 := by unfold gj_hd; decide +kernel
abbrev b_Gl_isNonterminal : ByteArray := prog_1_method_17_code
def y_Gl_isNonterminal : MethodName := ⟨"GrammarLoom", "isNonterminal", "(I)Z"⟩
theorem hd_Gl_isNonterminal : gj_hd y_Gl_isNonterminal 1 := by unfold gj_hd; decide +kernel
abbrev b_Gl_leaf : ByteArray := prog_1_method_14_code
def y_Gl_leaf : MethodName := ⟨"GrammarLoom", "leaf", "(I)I"⟩
abbrev b_Gl_list : ByteArray := prog_1_method_15_code
def y_Gl_list : MethodName := ⟨"GrammarLoom", "list", "(I)I"⟩
abbrev b_Gl_number : ByteArray := prog_1_method_16_code
def y_Gl_number : MethodName := ⟨"GrammarLoom", "number", "(I)J"⟩
abbrev b_Gl_row : ByteArray := prog_1_method_13_code
def y_Gl_row : MethodName := ⟨"GrammarLoom", "row", "(I)I"⟩
abbrev b_Gl_rule : ByteArray := prog_1_method_3_code
def y_Gl_rule : MethodName := ⟨"GrammarLoom", "rule", "(I)I"⟩
abbrev b_Gl_shortest : ByteArray := prog_1_method_7_code
def y_Gl_shortest : MethodName := ⟨"GrammarLoom", "shortest", "(I)I"⟩
abbrev b_Gl_shortestWith : ByteArray := prog_1_method_8_code
def y_Gl_shortestWith : MethodName := ⟨"GrammarLoom", "shortestWith", "(I)I"⟩
abbrev b_Gl_study : ByteArray := prog_1_method_19_code
def y_Gl_study : MethodName := ⟨"GrammarLoom", "study", "()V"⟩
theorem hd_Gl_study : gj_hd y_Gl_study 0 := by unfold gj_hd; decide +kernel
abbrev b_Gl_symbol : ByteArray := prog_1_method_2_code
def y_Gl_symbol : MethodName := ⟨"GrammarLoom", "symbol", "(I)I"⟩
abbrev b_Gl_trees : ByteArray := prog_1_method_10_code
def y_Gl_trees : MethodName := ⟨"GrammarLoom", "trees", "(II)J"⟩
theorem hd_Gl_trees : gj_hd y_Gl_trees 2 := by unfold gj_hd; decide +kernel
abbrev b_Gl_treesWith : ByteArray := prog_1_method_11_code
def y_Gl_treesWith : MethodName := ⟨"GrammarLoom", "treesWith", "(II)J"⟩
abbrev b_Ar_fill : ByteArray := prog_14_method_103_code
def y_Ar_fill : MethodName := ⟨"java/util/Arrays", "fill", "([II)V"⟩
theorem hd_Ar_fill : gj_hd y_Ar_fill 2 := by unfold gj_hd; decide +kernel
end
section
theorem d_Co_init_0 : decode b_Co_init 0 = .ok (.aload_n 0, 1) := by decide +kernel
theorem d_Co_init_1 : decode b_Co_init 1 = .ok (.invokespecial 3, 3) := by decide +kernel
theorem d_Co_init_4 : decode b_Co_init 4 = .ok (.aload_n 0, 1) := by decide +kernel
theorem d_Co_init_5 : decode b_Co_init 5 = .ok (.sipush 136, 3) := by decide +kernel
theorem d_Co_init_8 : decode b_Co_init 8 = .ok (.newarray .long, 2) := by decide +kernel
theorem d_Co_init_10 : decode b_Co_init 10 = .ok (.putfield 11, 3) := by decide +kernel
theorem d_Co_init_13 : decode b_Co_init 13 = .ok (.aload_n 0, 1) := by decide +kernel
theorem d_Co_init_14 : decode b_Co_init 14 = .ok (.sipush 2856, 3) := by decide +kernel
theorem d_Co_init_17 : decode b_Co_init 17 = .ok (.newarray .long, 2) := by decide +kernel
theorem d_Co_init_19 : decode b_Co_init 19 = .ok (.putfield 15, 3) := by decide +kernel
theorem d_Co_init_22 : decode b_Co_init 22 = .ok (.aload_n 0, 1) := by decide +kernel
theorem d_Co_init_23 : decode b_Co_init 23 = .ok (.iconst (-1), 1) := by decide +kernel
theorem d_Co_init_24 : decode b_Co_init 24 = .ok (.putfield 18, 3) := by decide +kernel
theorem d_Co_init_27 : decode b_Co_init 27 = .ok (.aload_n 0, 1) := by decide +kernel
theorem d_Co_init_28 : decode b_Co_init 28 = .ok (.aload_n 1, 1) := by decide +kernel
theorem d_Co_init_29 : decode b_Co_init 29 = .ok (.putfield 22, 3) := by decide +kernel
theorem d_Co_init_32 : decode b_Co_init 32 = .ok (.aload_n 0, 1) := by decide +kernel
theorem d_Co_init_33 : decode b_Co_init 33 = .ok (.aload_n 2, 1) := by decide +kernel
theorem d_Co_init_34 : decode b_Co_init 34 = .ok (.putfield 26, 3) := by decide +kernel
theorem d_Co_init_37 : decode b_Co_init 37 = .ok (.return_, 1) := by decide +kernel
theorem d_Co_addTrees_0 : decode b_Co_addTrees 0 = .ok (.iload_n 1, 1) := by decide +kernel
theorem d_Co_addTrees_1 : decode b_Co_addTrees 1 = .ok (.bipush 17, 2) := by decide +kernel
theorem d_Co_addTrees_3 : decode b_Co_addTrees 3 = .ok (.imul, 1) := by decide +kernel
theorem d_Co_addTrees_4 : decode b_Co_addTrees 4 = .ok (.iload_n 2, 1) := by decide +kernel
theorem d_Co_addTrees_5 : decode b_Co_addTrees 5 = .ok (.iadd, 1) := by decide +kernel
theorem d_Co_addTrees_6 : decode b_Co_addTrees 6 = .ok (.istore 5, 2) := by decide +kernel
theorem d_Co_addTrees_8 : decode b_Co_addTrees 8 = .ok (.aload_n 0, 1) := by decide +kernel
theorem d_Co_addTrees_9 : decode b_Co_addTrees 9 = .ok (.getfield 11, 3) := by decide +kernel
theorem d_Co_addTrees_12 : decode b_Co_addTrees 12 = .ok (.iload 5, 2) := by decide +kernel
theorem d_Co_addTrees_14 : decode b_Co_addTrees 14 = .ok (.aload_n 0, 1) := by decide +kernel
theorem d_Co_addTrees_15 : decode b_Co_addTrees 15 = .ok (.getfield 11, 3) := by decide +kernel
theorem d_Co_addTrees_18 : decode b_Co_addTrees 18 = .ok (.iload 5, 2) := by decide +kernel
theorem d_Co_addTrees_20 : decode b_Co_addTrees 20 = .ok (.laload, 1) := by decide +kernel
theorem d_Co_addTrees_21 : decode b_Co_addTrees 21 = .ok (.lload_n 3, 1) := by decide +kernel
theorem d_Co_addTrees_22 : decode b_Co_addTrees 22 = .ok (.invokestatic 81, 3) := by decide +kernel
theorem d_Co_addTrees_25 : decode b_Co_addTrees 25 = .ok (.lastore, 1) := by decide +kernel
theorem d_Co_addTrees_26 : decode b_Co_addTrees 26 = .ok (.return_, 1) := by decide +kernel
theorem d_Co_countLength_0 : decode b_Co_countLength 0 = .ok (.iconst 0, 1) := by decide +kernel
theorem d_Co_countLength_1 : decode b_Co_countLength 1 = .ok (.istore_n 2, 1) := by decide +kernel
theorem d_Co_countLength_2 : decode b_Co_countLength 2 = .ok (.iload_n 2, 1) := by decide +kernel
theorem d_Co_countLength_3 : decode b_Co_countLength 3 = .ok (.bipush 8, 2) := by decide +kernel
theorem d_Co_countLength_5 : decode b_Co_countLength 5 = .ok (.if_icmp .ge 21, 3) := by decide +kernel
theorem d_Co_countLength_8 : decode b_Co_countLength 8 = .ok (.aload_n 0, 1) := by decide +kernel
theorem d_Co_countLength_9 : decode b_Co_countLength 9 = .ok (.getfield 11, 3) := by decide +kernel
theorem d_Co_countLength_12 : decode b_Co_countLength 12 = .ok (.iload_n 2, 1) := by decide +kernel
theorem d_Co_countLength_13 : decode b_Co_countLength 13 = .ok (.bipush 17, 2) := by decide +kernel
theorem d_Co_countLength_15 : decode b_Co_countLength 15 = .ok (.imul, 1) := by decide +kernel
theorem d_Co_countLength_16 : decode b_Co_countLength 16 = .ok (.iload_n 1, 1) := by decide +kernel
theorem d_Co_countLength_17 : decode b_Co_countLength 17 = .ok (.iadd, 1) := by decide +kernel
theorem d_Co_countLength_18 : decode b_Co_countLength 18 = .ok (.lconst 0, 1) := by decide +kernel
theorem d_Co_countLength_19 : decode b_Co_countLength 19 = .ok (.lastore, 1) := by decide +kernel
theorem d_Co_countLength_20 : decode b_Co_countLength 20 = .ok (.iinc 2 1, 3) := by decide +kernel
theorem d_Co_countLength_23 : decode b_Co_countLength 23 = .ok (.goto (-21), 3) := by decide +kernel
theorem d_Co_countLength_26 : decode b_Co_countLength 26 = .ok (.iconst 0, 1) := by decide +kernel
theorem d_Co_countLength_27 : decode b_Co_countLength 27 = .ok (.istore_n 2, 1) := by decide +kernel
theorem d_Co_countLength_28 : decode b_Co_countLength 28 = .ok (.iload_n 2, 1) := by decide +kernel
theorem d_Co_countLength_29 : decode b_Co_countLength 29 = .ok (.bipush 8, 2) := by decide +kernel
theorem d_Co_countLength_31 : decode b_Co_countLength 31 = .ok (.if_icmp .ge 82, 3) := by decide +kernel
theorem d_Co_countLength_34 : decode b_Co_countLength 34 = .ok (.aload_n 0, 1) := by decide +kernel
theorem d_Co_countLength_35 : decode b_Co_countLength 35 = .ok (.getfield 26, 3) := by decide +kernel
theorem d_Co_countLength_38 : decode b_Co_countLength 38 = .ok (.iload_n 2, 1) := by decide +kernel
theorem d_Co_countLength_39 : decode b_Co_countLength 39 = .ok (.invokevirtual 57, 3) := by decide +kernel
theorem d_Co_countLength_42 : decode b_Co_countLength 42 = .ok (.istore_n 3, 1) := by decide +kernel
theorem d_Co_countLength_43 : decode b_Co_countLength 43 = .ok (.iconst 0, 1) := by decide +kernel
theorem d_Co_countLength_44 : decode b_Co_countLength 44 = .ok (.istore 4, 2) := by decide +kernel
theorem d_Co_countLength_46 : decode b_Co_countLength 46 = .ok (.iload 4, 2) := by decide +kernel
theorem d_Co_countLength_48 : decode b_Co_countLength 48 = .ok (.aload_n 0, 1) := by decide +kernel
theorem d_Co_countLength_49 : decode b_Co_countLength 49 = .ok (.getfield 22, 3) := by decide +kernel
theorem d_Co_countLength_52 : decode b_Co_countLength 52 = .ok (.getfield 63, 3) := by decide +kernel
theorem d_Co_countLength_55 : decode b_Co_countLength 55 = .ok (.if_icmp .ge 52, 3) := by decide +kernel
theorem d_Co_countLength_58 : decode b_Co_countLength 58 = .ok (.iload 4, 2) := by decide +kernel
theorem d_Co_countLength_60 : decode b_Co_countLength 60 = .ok (.aload_n 0, 1) := by decide +kernel
theorem d_Co_countLength_61 : decode b_Co_countLength 61 = .ok (.getfield 18, 3) := by decide +kernel
theorem d_Co_countLength_64 : decode b_Co_countLength 64 = .ok (.if_icmp .eq 37, 3) := by decide +kernel
theorem d_Co_countLength_67 : decode b_Co_countLength 67 = .ok (.aload_n 0, 1) := by decide +kernel
theorem d_Co_countLength_68 : decode b_Co_countLength 68 = .ok (.getfield 22, 3) := by decide +kernel
theorem d_Co_countLength_71 : decode b_Co_countLength 71 = .ok (.iload 4, 2) := by decide +kernel
theorem d_Co_countLength_73 : decode b_Co_countLength 73 = .ok (.invokevirtual 66, 3) := by decide +kernel
theorem d_Co_countLength_76 : decode b_Co_countLength 76 = .ok (.iload_n 3, 1) := by decide +kernel
theorem d_Co_countLength_77 : decode b_Co_countLength 77 = .ok (.if_icmp .ne 24, 3) := by decide +kernel
theorem d_Co_countLength_80 : decode b_Co_countLength 80 = .ok (.aload_n 0, 1) := by decide +kernel
theorem d_Co_countLength_81 : decode b_Co_countLength 81 = .ok (.iload 4, 2) := by decide +kernel
theorem d_Co_countLength_83 : decode b_Co_countLength 83 = .ok (.iload_n 1, 1) := by decide +kernel
theorem d_Co_countLength_84 : decode b_Co_countLength 84 = .ok (.invokevirtual 69, 3) := by decide +kernel
theorem d_Co_countLength_87 : decode b_Co_countLength 87 = .ok (.aload_n 0, 1) := by decide +kernel
theorem d_Co_countLength_88 : decode b_Co_countLength 88 = .ok (.iload_n 3, 1) := by decide +kernel
theorem d_Co_countLength_89 : decode b_Co_countLength 89 = .ok (.iload_n 1, 1) := by decide +kernel
theorem d_Co_countLength_90 : decode b_Co_countLength 90 = .ok (.aload_n 0, 1) := by decide +kernel
theorem d_Co_countLength_91 : decode b_Co_countLength 91 = .ok (.iload 4, 2) := by decide +kernel
theorem d_Co_countLength_93 : decode b_Co_countLength 93 = .ok (.iconst 0, 1) := by decide +kernel
theorem d_Co_countLength_94 : decode b_Co_countLength 94 = .ok (.iload_n 1, 1) := by decide +kernel
theorem d_Co_countLength_95 : decode b_Co_countLength 95 = .ok (.invokevirtual 73, 3) := by decide +kernel
theorem d_Co_countLength_98 : decode b_Co_countLength 98 = .ok (.invokevirtual 77, 3) := by decide +kernel
theorem d_Co_countLength_101 : decode b_Co_countLength 101 = .ok (.iinc 4 1, 3) := by decide +kernel
theorem d_Co_countLength_104 : decode b_Co_countLength 104 = .ok (.goto (-58), 3) := by decide +kernel
theorem d_Co_countLength_107 : decode b_Co_countLength 107 = .ok (.iinc 2 1, 3) := by decide +kernel
theorem d_Co_countLength_110 : decode b_Co_countLength 110 = .ok (.goto (-82), 3) := by decide +kernel
theorem d_Co_countLength_113 : decode b_Co_countLength 113 = .ok (.iconst 0, 1) := by decide +kernel
theorem d_Co_countLength_114 : decode b_Co_countLength 114 = .ok (.istore_n 2, 1) := by decide +kernel
theorem d_Co_countLength_115 : decode b_Co_countLength 115 = .ok (.iload_n 2, 1) := by decide +kernel
theorem d_Co_countLength_116 : decode b_Co_countLength 116 = .ok (.aload_n 0, 1) := by decide +kernel
theorem d_Co_countLength_117 : decode b_Co_countLength 117 = .ok (.getfield 22, 3) := by decide +kernel
theorem d_Co_countLength_120 : decode b_Co_countLength 120 = .ok (.getfield 63, 3) := by decide +kernel
theorem d_Co_countLength_123 : decode b_Co_countLength 123 = .ok (.if_icmp .ge 23, 3) := by decide +kernel
theorem d_Co_countLength_126 : decode b_Co_countLength 126 = .ok (.iload_n 2, 1) := by decide +kernel
theorem d_Co_countLength_127 : decode b_Co_countLength 127 = .ok (.aload_n 0, 1) := by decide +kernel
theorem d_Co_countLength_128 : decode b_Co_countLength 128 = .ok (.getfield 18, 3) := by decide +kernel
theorem d_Co_countLength_131 : decode b_Co_countLength 131 = .ok (.if_icmp .eq 9, 3) := by decide +kernel
theorem d_Co_countLength_134 : decode b_Co_countLength 134 = .ok (.aload_n 0, 1) := by decide +kernel
theorem d_Co_countLength_135 : decode b_Co_countLength 135 = .ok (.iload_n 2, 1) := by decide +kernel
theorem d_Co_countLength_136 : decode b_Co_countLength 136 = .ok (.iload_n 1, 1) := by decide +kernel
theorem d_Co_countLength_137 : decode b_Co_countLength 137 = .ok (.invokevirtual 69, 3) := by decide +kernel
theorem d_Co_countLength_140 : decode b_Co_countLength 140 = .ok (.iinc 2 1, 3) := by decide +kernel
theorem d_Co_countLength_143 : decode b_Co_countLength 143 = .ok (.goto (-28), 3) := by decide +kernel
theorem d_Co_countLength_146 : decode b_Co_countLength 146 = .ok (.return_, 1) := by decide +kernel
theorem d_Co_endingsAt_0 : decode b_Co_endingsAt 0 = .ok (.iload_n 0, 1) := by decide +kernel
theorem d_Co_endingsAt_1 : decode b_Co_endingsAt 1 = .ok (.bipush 7, 2) := by decide +kernel
theorem d_Co_endingsAt_3 : decode b_Co_endingsAt 3 = .ok (.imul, 1) := by decide +kernel
theorem d_Co_endingsAt_4 : decode b_Co_endingsAt 4 = .ok (.iload_n 1, 1) := by decide +kernel
theorem d_Co_endingsAt_5 : decode b_Co_endingsAt 5 = .ok (.iadd, 1) := by decide +kernel
theorem d_Co_endingsAt_6 : decode b_Co_endingsAt 6 = .ok (.bipush 17, 2) := by decide +kernel
theorem d_Co_endingsAt_8 : decode b_Co_endingsAt 8 = .ok (.imul, 1) := by decide +kernel
theorem d_Co_endingsAt_9 : decode b_Co_endingsAt 9 = .ok (.ireturn, 1) := by decide +kernel
theorem d_Co_endingsOf_0 : decode b_Co_endingsOf 0 = .ok (.aload_n 0, 1) := by decide +kernel
theorem d_Co_endingsOf_1 : decode b_Co_endingsOf 1 = .ok (.getfield 15, 3) := by decide +kernel
theorem d_Co_endingsOf_4 : decode b_Co_endingsOf 4 = .ok (.iload_n 1, 1) := by decide +kernel
theorem d_Co_endingsOf_5 : decode b_Co_endingsOf 5 = .ok (.iload_n 2, 1) := by decide +kernel
theorem d_Co_endingsOf_6 : decode b_Co_endingsOf 6 = .ok (.invokestatic 40, 3) := by decide +kernel
theorem d_Co_endingsOf_9 : decode b_Co_endingsOf 9 = .ok (.iload_n 3, 1) := by decide +kernel
theorem d_Co_endingsOf_10 : decode b_Co_endingsOf 10 = .ok (.iadd, 1) := by decide +kernel
theorem d_Co_endingsOf_11 : decode b_Co_endingsOf 11 = .ok (.laload, 1) := by decide +kernel
theorem d_Co_endingsOf_12 : decode b_Co_endingsOf 12 = .ok (.lreturn, 1) := by decide +kernel
theorem d_Co_endingsWith_0 : decode b_Co_endingsWith 0 = .ok (.aload_n 0, 1) := by decide +kernel
theorem d_Co_endingsWith_1 : decode b_Co_endingsWith 1 = .ok (.getfield 22, 3) := by decide +kernel
theorem d_Co_endingsWith_4 : decode b_Co_endingsWith 4 = .ok (.iload_n 1, 1) := by decide +kernel
theorem d_Co_endingsWith_5 : decode b_Co_endingsWith 5 = .ok (.iload_n 2, 1) := by decide +kernel
theorem d_Co_endingsWith_6 : decode b_Co_endingsWith 6 = .ok (.invokevirtual 44, 3) := by decide +kernel
theorem d_Co_endingsWith_9 : decode b_Co_endingsWith 9 = .ok (.istore 5, 2) := by decide +kernel
theorem d_Co_endingsWith_11 : decode b_Co_endingsWith 11 = .ok (.iload_n 3, 1) := by decide +kernel
theorem d_Co_endingsWith_12 : decode b_Co_endingsWith 12 = .ok (.iconst 1, 1) := by decide +kernel
theorem d_Co_endingsWith_13 : decode b_Co_endingsWith 13 = .ok (.if_icmp .ne 7, 3) := by decide +kernel
theorem d_Co_endingsWith_16 : decode b_Co_endingsWith 16 = .ok (.lconst 1, 1) := by decide +kernel
theorem d_Co_endingsWith_17 : decode b_Co_endingsWith 17 = .ok (.goto 4, 3) := by decide +kernel
theorem d_Co_endingsWith_20 : decode b_Co_endingsWith 20 = .ok (.lconst 0, 1) := by decide +kernel
theorem d_Co_endingsWith_21 : decode b_Co_endingsWith 21 = .ok (.lstore 6, 2) := by decide +kernel
theorem d_Co_endingsWith_23 : decode b_Co_endingsWith 23 = .ok (.iload 5, 2) := by decide +kernel
theorem d_Co_endingsWith_25 : decode b_Co_endingsWith 25 = .ok (.invokestatic 49, 3) := by decide +kernel
theorem d_Co_endingsWith_28 : decode b_Co_endingsWith 28 = .ok (.ifCond .eq 17, 3) := by decide +kernel
theorem d_Co_endingsWith_31 : decode b_Co_endingsWith 31 = .ok (.aload_n 0, 1) := by decide +kernel
theorem d_Co_endingsWith_32 : decode b_Co_endingsWith 32 = .ok (.getfield 11, 3) := by decide +kernel
theorem d_Co_endingsWith_35 : decode b_Co_endingsWith 35 = .ok (.iload 5, 2) := by decide +kernel
theorem d_Co_endingsWith_37 : decode b_Co_endingsWith 37 = .ok (.bipush 17, 2) := by decide +kernel
theorem d_Co_endingsWith_39 : decode b_Co_endingsWith 39 = .ok (.imul, 1) := by decide +kernel
theorem d_Co_endingsWith_40 : decode b_Co_endingsWith 40 = .ok (.iload_n 3, 1) := by decide +kernel
theorem d_Co_endingsWith_41 : decode b_Co_endingsWith 41 = .ok (.iadd, 1) := by decide +kernel
theorem d_Co_endingsWith_42 : decode b_Co_endingsWith 42 = .ok (.laload, 1) := by decide +kernel
theorem d_Co_endingsWith_43 : decode b_Co_endingsWith 43 = .ok (.lstore 6, 2) := by decide +kernel
theorem d_Co_endingsWith_45 : decode b_Co_endingsWith 45 = .ok (.lload 6, 2) := by decide +kernel
theorem d_Co_endingsWith_47 : decode b_Co_endingsWith 47 = .ok (.aload_n 0, 1) := by decide +kernel
theorem d_Co_endingsWith_48 : decode b_Co_endingsWith 48 = .ok (.getfield 15, 3) := by decide +kernel
theorem d_Co_endingsWith_51 : decode b_Co_endingsWith 51 = .ok (.iload_n 1, 1) := by decide +kernel
theorem d_Co_endingsWith_52 : decode b_Co_endingsWith 52 = .ok (.iload_n 2, 1) := by decide +kernel
theorem d_Co_endingsWith_53 : decode b_Co_endingsWith 53 = .ok (.iconst 1, 1) := by decide +kernel
theorem d_Co_endingsWith_54 : decode b_Co_endingsWith 54 = .ok (.iadd, 1) := by decide +kernel
theorem d_Co_endingsWith_55 : decode b_Co_endingsWith 55 = .ok (.invokestatic 40, 3) := by decide +kernel
theorem d_Co_endingsWith_58 : decode b_Co_endingsWith 58 = .ok (.iload 4, 2) := by decide +kernel
theorem d_Co_endingsWith_60 : decode b_Co_endingsWith 60 = .ok (.iadd, 1) := by decide +kernel
theorem d_Co_endingsWith_61 : decode b_Co_endingsWith 61 = .ok (.iload_n 3, 1) := by decide +kernel
theorem d_Co_endingsWith_62 : decode b_Co_endingsWith 62 = .ok (.isub, 1) := by decide +kernel
theorem d_Co_endingsWith_63 : decode b_Co_endingsWith 63 = .ok (.laload, 1) := by decide +kernel
theorem d_Co_endingsWith_64 : decode b_Co_endingsWith 64 = .ok (.invokestatic 53, 3) := by decide +kernel
theorem d_Co_endingsWith_67 : decode b_Co_endingsWith 67 = .ok (.lreturn, 1) := by decide +kernel
theorem d_Co_fillEndings_0 : decode b_Co_fillEndings 0 = .ok (.aload_n 0, 1) := by decide +kernel
theorem d_Co_fillEndings_1 : decode b_Co_fillEndings 1 = .ok (.getfield 22, 3) := by decide +kernel
theorem d_Co_fillEndings_4 : decode b_Co_fillEndings 4 = .ok (.iload_n 1, 1) := by decide +kernel
theorem d_Co_fillEndings_5 : decode b_Co_fillEndings 5 = .ok (.invokevirtual 84, 3) := by decide +kernel
theorem d_Co_fillEndings_8 : decode b_Co_fillEndings 8 = .ok (.istore_n 3, 1) := by decide +kernel
theorem d_Co_fillEndings_9 : decode b_Co_fillEndings 9 = .ok (.aload_n 0, 1) := by decide +kernel
theorem d_Co_fillEndings_10 : decode b_Co_fillEndings 10 = .ok (.getfield 15, 3) := by decide +kernel
theorem d_Co_fillEndings_13 : decode b_Co_fillEndings 13 = .ok (.iload_n 1, 1) := by decide +kernel
theorem d_Co_fillEndings_14 : decode b_Co_fillEndings 14 = .ok (.iload_n 3, 1) := by decide +kernel
theorem d_Co_fillEndings_15 : decode b_Co_fillEndings 15 = .ok (.invokestatic 40, 3) := by decide +kernel
theorem d_Co_fillEndings_18 : decode b_Co_fillEndings 18 = .ok (.iload_n 2, 1) := by decide +kernel
theorem d_Co_fillEndings_19 : decode b_Co_fillEndings 19 = .ok (.iadd, 1) := by decide +kernel
theorem d_Co_fillEndings_20 : decode b_Co_fillEndings 20 = .ok (.iload_n 2, 1) := by decide +kernel
theorem d_Co_fillEndings_21 : decode b_Co_fillEndings 21 = .ok (.ifCond .ne 7, 3) := by decide +kernel
theorem d_Co_fillEndings_24 : decode b_Co_fillEndings 24 = .ok (.lconst 1, 1) := by decide +kernel
theorem d_Co_fillEndings_25 : decode b_Co_fillEndings 25 = .ok (.goto 4, 3) := by decide +kernel
theorem d_Co_fillEndings_28 : decode b_Co_fillEndings 28 = .ok (.lconst 0, 1) := by decide +kernel
theorem d_Co_fillEndings_29 : decode b_Co_fillEndings 29 = .ok (.lastore, 1) := by decide +kernel
theorem d_Co_fillEndings_30 : decode b_Co_fillEndings 30 = .ok (.iload_n 3, 1) := by decide +kernel
theorem d_Co_fillEndings_31 : decode b_Co_fillEndings 31 = .ok (.iconst 1, 1) := by decide +kernel
theorem d_Co_fillEndings_32 : decode b_Co_fillEndings 32 = .ok (.isub, 1) := by decide +kernel
theorem d_Co_fillEndings_33 : decode b_Co_fillEndings 33 = .ok (.istore 4, 2) := by decide +kernel
theorem d_Co_fillEndings_35 : decode b_Co_fillEndings 35 = .ok (.iload 4, 2) := by decide +kernel
theorem d_Co_fillEndings_37 : decode b_Co_fillEndings 37 = .ok (.ifCond .lt 91, 3) := by decide +kernel
theorem d_Co_fillEndings_40 : decode b_Co_fillEndings 40 = .ok (.aload_n 0, 1) := by decide +kernel
theorem d_Co_fillEndings_41 : decode b_Co_fillEndings 41 = .ok (.getfield 22, 3) := by decide +kernel
theorem d_Co_fillEndings_44 : decode b_Co_fillEndings 44 = .ok (.iload_n 1, 1) := by decide +kernel
theorem d_Co_fillEndings_45 : decode b_Co_fillEndings 45 = .ok (.iload 4, 2) := by decide +kernel
theorem d_Co_fillEndings_47 : decode b_Co_fillEndings 47 = .ok (.invokevirtual 44, 3) := by decide +kernel
theorem d_Co_fillEndings_50 : decode b_Co_fillEndings 50 = .ok (.istore 5, 2) := by decide +kernel
theorem d_Co_fillEndings_52 : decode b_Co_fillEndings 52 = .ok (.iload_n 1, 1) := by decide +kernel
theorem d_Co_fillEndings_53 : decode b_Co_fillEndings 53 = .ok (.iload 4, 2) := by decide +kernel
theorem d_Co_fillEndings_55 : decode b_Co_fillEndings 55 = .ok (.iconst 1, 1) := by decide +kernel
theorem d_Co_fillEndings_56 : decode b_Co_fillEndings 56 = .ok (.iadd, 1) := by decide +kernel
theorem d_Co_fillEndings_57 : decode b_Co_fillEndings 57 = .ok (.invokestatic 40, 3) := by decide +kernel
theorem d_Co_fillEndings_60 : decode b_Co_fillEndings 60 = .ok (.iload_n 2, 1) := by decide +kernel
theorem d_Co_fillEndings_61 : decode b_Co_fillEndings 61 = .ok (.iadd, 1) := by decide +kernel
theorem d_Co_fillEndings_62 : decode b_Co_fillEndings 62 = .ok (.istore 6, 2) := by decide +kernel
theorem d_Co_fillEndings_64 : decode b_Co_fillEndings 64 = .ok (.lconst 0, 1) := by decide +kernel
theorem d_Co_fillEndings_65 : decode b_Co_fillEndings 65 = .ok (.lstore 7, 2) := by decide +kernel
theorem d_Co_fillEndings_67 : decode b_Co_fillEndings 67 = .ok (.iload 5, 2) := by decide +kernel
theorem d_Co_fillEndings_69 : decode b_Co_fillEndings 69 = .ok (.invokestatic 49, 3) := by decide +kernel
theorem d_Co_fillEndings_72 : decode b_Co_fillEndings 72 = .ok (.ifCond .eq 20, 3) := by decide +kernel
theorem d_Co_fillEndings_75 : decode b_Co_fillEndings 75 = .ok (.aload_n 0, 1) := by decide +kernel
theorem d_Co_fillEndings_76 : decode b_Co_fillEndings 76 = .ok (.iload 5, 2) := by decide +kernel
theorem d_Co_fillEndings_78 : decode b_Co_fillEndings 78 = .ok (.bipush 17, 2) := by decide +kernel
theorem d_Co_fillEndings_80 : decode b_Co_fillEndings 80 = .ok (.imul, 1) := by decide +kernel
theorem d_Co_fillEndings_81 : decode b_Co_fillEndings 81 = .ok (.iload 6, 2) := by decide +kernel
theorem d_Co_fillEndings_83 : decode b_Co_fillEndings 83 = .ok (.iload_n 2, 1) := by decide +kernel
theorem d_Co_fillEndings_84 : decode b_Co_fillEndings 84 = .ok (.invokevirtual 87, 3) := by decide +kernel
theorem d_Co_fillEndings_87 : decode b_Co_fillEndings 87 = .ok (.lstore 7, 2) := by decide +kernel
theorem d_Co_fillEndings_89 : decode b_Co_fillEndings 89 = .ok (.goto 18, 3) := by decide +kernel
theorem d_Co_fillEndings_92 : decode b_Co_fillEndings 92 = .ok (.iload_n 2, 1) := by decide +kernel
theorem d_Co_fillEndings_93 : decode b_Co_fillEndings 93 = .ok (.ifCond .le 14, 3) := by decide +kernel
theorem d_Co_fillEndings_96 : decode b_Co_fillEndings 96 = .ok (.aload_n 0, 1) := by decide +kernel
theorem d_Co_fillEndings_97 : decode b_Co_fillEndings 97 = .ok (.getfield 15, 3) := by decide +kernel
theorem d_Co_fillEndings_100 : decode b_Co_fillEndings 100 = .ok (.iload 6, 2) := by decide +kernel
theorem d_Co_fillEndings_102 : decode b_Co_fillEndings 102 = .ok (.iconst 1, 1) := by decide +kernel
theorem d_Co_fillEndings_103 : decode b_Co_fillEndings 103 = .ok (.isub, 1) := by decide +kernel
theorem d_Co_fillEndings_104 : decode b_Co_fillEndings 104 = .ok (.laload, 1) := by decide +kernel
theorem d_Co_fillEndings_105 : decode b_Co_fillEndings 105 = .ok (.lstore 7, 2) := by decide +kernel
theorem d_Co_fillEndings_107 : decode b_Co_fillEndings 107 = .ok (.aload_n 0, 1) := by decide +kernel
theorem d_Co_fillEndings_108 : decode b_Co_fillEndings 108 = .ok (.getfield 15, 3) := by decide +kernel
theorem d_Co_fillEndings_111 : decode b_Co_fillEndings 111 = .ok (.iload_n 1, 1) := by decide +kernel
theorem d_Co_fillEndings_112 : decode b_Co_fillEndings 112 = .ok (.iload 4, 2) := by decide +kernel
theorem d_Co_fillEndings_114 : decode b_Co_fillEndings 114 = .ok (.invokestatic 40, 3) := by decide +kernel
theorem d_Co_fillEndings_117 : decode b_Co_fillEndings 117 = .ok (.iload_n 2, 1) := by decide +kernel
theorem d_Co_fillEndings_118 : decode b_Co_fillEndings 118 = .ok (.iadd, 1) := by decide +kernel
theorem d_Co_fillEndings_119 : decode b_Co_fillEndings 119 = .ok (.lload 7, 2) := by decide +kernel
theorem d_Co_fillEndings_121 : decode b_Co_fillEndings 121 = .ok (.lastore, 1) := by decide +kernel
theorem d_Co_fillEndings_122 : decode b_Co_fillEndings 122 = .ok (.iinc 4 (-1), 3) := by decide +kernel
theorem d_Co_fillEndings_125 : decode b_Co_fillEndings 125 = .ok (.goto (-90), 3) := by decide +kernel
theorem d_Co_fillEndings_128 : decode b_Co_fillEndings 128 = .ok (.return_, 1) := by decide +kernel
theorem d_Co_forget_0 : decode b_Co_forget 0 = .ok (.aload_n 0, 1) := by decide +kernel
theorem d_Co_forget_1 : decode b_Co_forget 1 = .ok (.iconst 0, 1) := by decide +kernel
theorem d_Co_forget_2 : decode b_Co_forget 2 = .ok (.putfield 30, 3) := by decide +kernel
theorem d_Co_forget_5 : decode b_Co_forget 5 = .ok (.return_, 1) := by decide +kernel
theorem d_Co_leaveOut_0 : decode b_Co_leaveOut 0 = .ok (.aload_n 0, 1) := by decide +kernel
end
section
theorem d_Co_leaveOut_1 : decode b_Co_leaveOut 1 = .ok (.getfield 18, 3) := by decide +kernel
theorem d_Co_leaveOut_4 : decode b_Co_leaveOut 4 = .ok (.iload_n 1, 1) := by decide +kernel
theorem d_Co_leaveOut_5 : decode b_Co_leaveOut 5 = .ok (.if_icmp .eq 12, 3) := by decide +kernel
theorem d_Co_leaveOut_8 : decode b_Co_leaveOut 8 = .ok (.aload_n 0, 1) := by decide +kernel
theorem d_Co_leaveOut_9 : decode b_Co_leaveOut 9 = .ok (.iload_n 1, 1) := by decide +kernel
theorem d_Co_leaveOut_10 : decode b_Co_leaveOut 10 = .ok (.putfield 18, 3) := by decide +kernel
theorem d_Co_leaveOut_13 : decode b_Co_leaveOut 13 = .ok (.aload_n 0, 1) := by decide +kernel
theorem d_Co_leaveOut_14 : decode b_Co_leaveOut 14 = .ok (.invokevirtual 33, 3) := by decide +kernel
theorem d_Co_leaveOut_17 : decode b_Co_leaveOut 17 = .ok (.return_, 1) := by decide +kernel
theorem d_Co_pairs_0 : decode b_Co_pairs 0 = .ok (.lconst 0, 1) := by decide +kernel
theorem d_Co_pairs_1 : decode b_Co_pairs 1 = .ok (.lstore 4, 2) := by decide +kernel
theorem d_Co_pairs_3 : decode b_Co_pairs 3 = .ok (.iconst 0, 1) := by decide +kernel
theorem d_Co_pairs_4 : decode b_Co_pairs 4 = .ok (.istore 6, 2) := by decide +kernel
theorem d_Co_pairs_6 : decode b_Co_pairs 6 = .ok (.iload 6, 2) := by decide +kernel
theorem d_Co_pairs_8 : decode b_Co_pairs 8 = .ok (.iload_n 3, 1) := by decide +kernel
theorem d_Co_pairs_9 : decode b_Co_pairs 9 = .ok (.if_icmp .gt 48, 3) := by decide +kernel
theorem d_Co_pairs_12 : decode b_Co_pairs 12 = .ok (.aload_n 0, 1) := by decide +kernel
theorem d_Co_pairs_13 : decode b_Co_pairs 13 = .ok (.getfield 11, 3) := by decide +kernel
theorem d_Co_pairs_16 : decode b_Co_pairs 16 = .ok (.iload_n 1, 1) := by decide +kernel
theorem d_Co_pairs_17 : decode b_Co_pairs 17 = .ok (.iload 6, 2) := by decide +kernel
theorem d_Co_pairs_19 : decode b_Co_pairs 19 = .ok (.iadd, 1) := by decide +kernel
theorem d_Co_pairs_20 : decode b_Co_pairs 20 = .ok (.laload, 1) := by decide +kernel
theorem d_Co_pairs_21 : decode b_Co_pairs 21 = .ok (.lstore 7, 2) := by decide +kernel
theorem d_Co_pairs_23 : decode b_Co_pairs 23 = .ok (.lload 7, 2) := by decide +kernel
theorem d_Co_pairs_25 : decode b_Co_pairs 25 = .ok (.lconst 0, 1) := by decide +kernel
theorem d_Co_pairs_26 : decode b_Co_pairs 26 = .ok (.lcmp, 1) := by decide +kernel
theorem d_Co_pairs_27 : decode b_Co_pairs 27 = .ok (.ifCond .eq 24, 3) := by decide +kernel
theorem d_Co_pairs_30 : decode b_Co_pairs 30 = .ok (.lload 4, 2) := by decide +kernel
theorem d_Co_pairs_32 : decode b_Co_pairs 32 = .ok (.lload 7, 2) := by decide +kernel
theorem d_Co_pairs_34 : decode b_Co_pairs 34 = .ok (.aload_n 0, 1) := by decide +kernel
theorem d_Co_pairs_35 : decode b_Co_pairs 35 = .ok (.getfield 15, 3) := by decide +kernel
theorem d_Co_pairs_38 : decode b_Co_pairs 38 = .ok (.iload_n 2, 1) := by decide +kernel
theorem d_Co_pairs_39 : decode b_Co_pairs 39 = .ok (.iload 6, 2) := by decide +kernel
theorem d_Co_pairs_41 : decode b_Co_pairs 41 = .ok (.isub, 1) := by decide +kernel
theorem d_Co_pairs_42 : decode b_Co_pairs 42 = .ok (.laload, 1) := by decide +kernel
theorem d_Co_pairs_43 : decode b_Co_pairs 43 = .ok (.invokestatic 53, 3) := by decide +kernel
theorem d_Co_pairs_46 : decode b_Co_pairs 46 = .ok (.invokestatic 81, 3) := by decide +kernel
theorem d_Co_pairs_49 : decode b_Co_pairs 49 = .ok (.lstore 4, 2) := by decide +kernel
theorem d_Co_pairs_51 : decode b_Co_pairs 51 = .ok (.iinc 6 1, 3) := by decide +kernel
theorem d_Co_pairs_54 : decode b_Co_pairs 54 = .ok (.goto (-48), 3) := by decide +kernel
theorem d_Co_pairs_57 : decode b_Co_pairs 57 = .ok (.lload 4, 2) := by decide +kernel
theorem d_Co_pairs_59 : decode b_Co_pairs 59 = .ok (.lreturn, 1) := by decide +kernel
theorem d_Co_plus_0 : decode b_Co_plus 0 = .ok (.lload_n 0, 1) := by decide +kernel
theorem d_Co_plus_1 : decode b_Co_plus 1 = .ok (.lload_n 2, 1) := by decide +kernel
theorem d_Co_plus_2 : decode b_Co_plus 2 = .ok (.ladd, 1) := by decide +kernel
theorem d_Co_plus_3 : decode b_Co_plus 3 = .ok (.ldc2_w 90, 3) := by decide +kernel
theorem d_Co_plus_6 : decode b_Co_plus 6 = .ok (.invokestatic 92, 3) := by decide +kernel
theorem d_Co_plus_9 : decode b_Co_plus 9 = .ok (.lreturn, 1) := by decide +kernel
theorem d_Co_times_0 : decode b_Co_times 0 = .ok (.lload_n 2, 1) := by decide +kernel
theorem d_Co_times_1 : decode b_Co_times 1 = .ok (.lconst 0, 1) := by decide +kernel
theorem d_Co_times_2 : decode b_Co_times 2 = .ok (.lcmp, 1) := by decide +kernel
theorem d_Co_times_3 : decode b_Co_times 3 = .ok (.ifCond .ne 5, 3) := by decide +kernel
theorem d_Co_times_6 : decode b_Co_times 6 = .ok (.lconst 0, 1) := by decide +kernel
theorem d_Co_times_7 : decode b_Co_times 7 = .ok (.lreturn, 1) := by decide +kernel
theorem d_Co_times_8 : decode b_Co_times 8 = .ok (.lload_n 0, 1) := by decide +kernel
theorem d_Co_times_9 : decode b_Co_times 9 = .ok (.ldc2_w 97, 3) := by decide +kernel
theorem d_Co_times_12 : decode b_Co_times 12 = .ok (.lload_n 2, 1) := by decide +kernel
theorem d_Co_times_13 : decode b_Co_times 13 = .ok (.ldiv, 1) := by decide +kernel
theorem d_Co_times_14 : decode b_Co_times 14 = .ok (.lcmp, 1) := by decide +kernel
theorem d_Co_times_15 : decode b_Co_times 15 = .ok (.ifCond .le 9, 3) := by decide +kernel
theorem d_Co_times_18 : decode b_Co_times 18 = .ok (.ldc2_w 90, 3) := by decide +kernel
theorem d_Co_times_21 : decode b_Co_times 21 = .ok (.goto 6, 3) := by decide +kernel
theorem d_Co_times_24 : decode b_Co_times 24 = .ok (.lload_n 0, 1) := by decide +kernel
theorem d_Co_times_25 : decode b_Co_times 25 = .ok (.lload_n 2, 1) := by decide +kernel
theorem d_Co_times_26 : decode b_Co_times 26 = .ok (.lmul, 1) := by decide +kernel
theorem d_Co_times_27 : decode b_Co_times 27 = .ok (.lreturn, 1) := by decide +kernel
theorem d_Co_treesOf_0 : decode b_Co_treesOf 0 = .ok (.aload_n 0, 1) := by decide +kernel
theorem d_Co_treesOf_1 : decode b_Co_treesOf 1 = .ok (.getfield 30, 3) := by decide +kernel
theorem d_Co_treesOf_4 : decode b_Co_treesOf 4 = .ok (.istore_n 3, 1) := by decide +kernel
theorem d_Co_treesOf_5 : decode b_Co_treesOf 5 = .ok (.iload_n 3, 1) := by decide +kernel
theorem d_Co_treesOf_6 : decode b_Co_treesOf 6 = .ok (.iload_n 2, 1) := by decide +kernel
theorem d_Co_treesOf_7 : decode b_Co_treesOf 7 = .ok (.if_icmp .gt 21, 3) := by decide +kernel
theorem d_Co_treesOf_10 : decode b_Co_treesOf 10 = .ok (.aload_n 0, 1) := by decide +kernel
theorem d_Co_treesOf_11 : decode b_Co_treesOf 11 = .ok (.iload_n 3, 1) := by decide +kernel
theorem d_Co_treesOf_12 : decode b_Co_treesOf 12 = .ok (.invokevirtual 36, 3) := by decide +kernel
theorem d_Co_treesOf_15 : decode b_Co_treesOf 15 = .ok (.aload_n 0, 1) := by decide +kernel
theorem d_Co_treesOf_16 : decode b_Co_treesOf 16 = .ok (.iload_n 3, 1) := by decide +kernel
theorem d_Co_treesOf_17 : decode b_Co_treesOf 17 = .ok (.iconst 1, 1) := by decide +kernel
theorem d_Co_treesOf_18 : decode b_Co_treesOf 18 = .ok (.iadd, 1) := by decide +kernel
theorem d_Co_treesOf_19 : decode b_Co_treesOf 19 = .ok (.putfield 30, 3) := by decide +kernel
theorem d_Co_treesOf_22 : decode b_Co_treesOf 22 = .ok (.iinc 3 1, 3) := by decide +kernel
theorem d_Co_treesOf_25 : decode b_Co_treesOf 25 = .ok (.goto (-20), 3) := by decide +kernel
theorem d_Co_treesOf_28 : decode b_Co_treesOf 28 = .ok (.aload_n 0, 1) := by decide +kernel
theorem d_Co_treesOf_29 : decode b_Co_treesOf 29 = .ok (.getfield 11, 3) := by decide +kernel
theorem d_Co_treesOf_32 : decode b_Co_treesOf 32 = .ok (.iload_n 1, 1) := by decide +kernel
theorem d_Co_treesOf_33 : decode b_Co_treesOf 33 = .ok (.bipush 17, 2) := by decide +kernel
theorem d_Co_treesOf_35 : decode b_Co_treesOf 35 = .ok (.imul, 1) := by decide +kernel
theorem d_Co_treesOf_36 : decode b_Co_treesOf 36 = .ok (.iload_n 2, 1) := by decide +kernel
theorem d_Co_treesOf_37 : decode b_Co_treesOf 37 = .ok (.iadd, 1) := by decide +kernel
theorem d_Co_treesOf_38 : decode b_Co_treesOf 38 = .ok (.laload, 1) := by decide +kernel
theorem d_Co_treesOf_39 : decode b_Co_treesOf 39 = .ok (.lreturn, 1) := by decide +kernel
theorem d_Dr_init_0 : decode b_Dr_init 0 = .ok (.aload_n 0, 1) := by decide +kernel
theorem d_Dr_init_1 : decode b_Dr_init 1 = .ok (.invokespecial 3, 3) := by decide +kernel
theorem d_Dr_init_4 : decode b_Dr_init 4 = .ok (.aload_n 0, 1) := by decide +kernel
theorem d_Dr_init_5 : decode b_Dr_init 5 = .ok (.sipush 200, 3) := by decide +kernel
theorem d_Dr_init_8 : decode b_Dr_init 8 = .ok (.newarray .int, 2) := by decide +kernel
theorem d_Dr_init_10 : decode b_Dr_init 10 = .ok (.putfield 9, 3) := by decide +kernel
theorem d_Dr_init_13 : decode b_Dr_init 13 = .ok (.aload_n 0, 1) := by decide +kernel
theorem d_Dr_init_14 : decode b_Dr_init 14 = .ok (.bipush 16, 2) := by decide +kernel
theorem d_Dr_init_16 : decode b_Dr_init 16 = .ok (.newarray .int, 2) := by decide +kernel
theorem d_Dr_init_18 : decode b_Dr_init 18 = .ok (.putfield 15, 3) := by decide +kernel
theorem d_Dr_init_21 : decode b_Dr_init 21 = .ok (.return_, 1) := by decide +kernel
theorem d_Dr_addLeaf_0 : decode b_Dr_addLeaf 0 = .ok (.aload_n 0, 1) := by decide +kernel
theorem d_Dr_addLeaf_1 : decode b_Dr_addLeaf 1 = .ok (.getfield 22, 3) := by decide +kernel
theorem d_Dr_addLeaf_4 : decode b_Dr_addLeaf 4 = .ok (.bipush 16, 2) := by decide +kernel
theorem d_Dr_addLeaf_6 : decode b_Dr_addLeaf 6 = .ok (.if_icmp .ge 23, 3) := by decide +kernel
theorem d_Dr_addLeaf_9 : decode b_Dr_addLeaf 9 = .ok (.aload_n 0, 1) := by decide +kernel
theorem d_Dr_addLeaf_10 : decode b_Dr_addLeaf 10 = .ok (.getfield 15, 3) := by decide +kernel
theorem d_Dr_addLeaf_13 : decode b_Dr_addLeaf 13 = .ok (.aload_n 0, 1) := by decide +kernel
theorem d_Dr_addLeaf_14 : decode b_Dr_addLeaf 14 = .ok (.getfield 22, 3) := by decide +kernel
theorem d_Dr_addLeaf_17 : decode b_Dr_addLeaf 17 = .ok (.iload_n 1, 1) := by decide +kernel
theorem d_Dr_addLeaf_18 : decode b_Dr_addLeaf 18 = .ok (.iastore, 1) := by decide +kernel
theorem d_Dr_addLeaf_19 : decode b_Dr_addLeaf 19 = .ok (.aload_n 0, 1) := by decide +kernel
theorem d_Dr_addLeaf_20 : decode b_Dr_addLeaf 20 = .ok (.dup, 1) := by decide +kernel
theorem d_Dr_addLeaf_21 : decode b_Dr_addLeaf 21 = .ok (.getfield 22, 3) := by decide +kernel
theorem d_Dr_addLeaf_24 : decode b_Dr_addLeaf 24 = .ok (.iconst 1, 1) := by decide +kernel
theorem d_Dr_addLeaf_25 : decode b_Dr_addLeaf 25 = .ok (.iadd, 1) := by decide +kernel
theorem d_Dr_addLeaf_26 : decode b_Dr_addLeaf 26 = .ok (.putfield 22, 3) := by decide +kernel
theorem d_Dr_addLeaf_29 : decode b_Dr_addLeaf 29 = .ok (.return_, 1) := by decide +kernel
theorem d_Dr_addRule_0 : decode b_Dr_addRule 0 = .ok (.aload_n 0, 1) := by decide +kernel
theorem d_Dr_addRule_1 : decode b_Dr_addRule 1 = .ok (.getfield 18, 3) := by decide +kernel
theorem d_Dr_addRule_4 : decode b_Dr_addRule 4 = .ok (.sipush 200, 3) := by decide +kernel
theorem d_Dr_addRule_7 : decode b_Dr_addRule 7 = .ok (.if_icmp .ge 23, 3) := by decide +kernel
theorem d_Dr_addRule_10 : decode b_Dr_addRule 10 = .ok (.aload_n 0, 1) := by decide +kernel
theorem d_Dr_addRule_11 : decode b_Dr_addRule 11 = .ok (.getfield 9, 3) := by decide +kernel
theorem d_Dr_addRule_14 : decode b_Dr_addRule 14 = .ok (.aload_n 0, 1) := by decide +kernel
theorem d_Dr_addRule_15 : decode b_Dr_addRule 15 = .ok (.getfield 18, 3) := by decide +kernel
theorem d_Dr_addRule_18 : decode b_Dr_addRule 18 = .ok (.iload_n 1, 1) := by decide +kernel
theorem d_Dr_addRule_19 : decode b_Dr_addRule 19 = .ok (.iastore, 1) := by decide +kernel
theorem d_Dr_addRule_20 : decode b_Dr_addRule 20 = .ok (.aload_n 0, 1) := by decide +kernel
theorem d_Dr_addRule_21 : decode b_Dr_addRule 21 = .ok (.dup, 1) := by decide +kernel
theorem d_Dr_addRule_22 : decode b_Dr_addRule 22 = .ok (.getfield 18, 3) := by decide +kernel
theorem d_Dr_addRule_25 : decode b_Dr_addRule 25 = .ok (.iconst 1, 1) := by decide +kernel
theorem d_Dr_addRule_26 : decode b_Dr_addRule 26 = .ok (.iadd, 1) := by decide +kernel
theorem d_Dr_addRule_27 : decode b_Dr_addRule 27 = .ok (.putfield 18, 3) := by decide +kernel
theorem d_Dr_addRule_30 : decode b_Dr_addRule 30 = .ok (.return_, 1) := by decide +kernel
theorem d_Dr_clear_0 : decode b_Dr_clear 0 = .ok (.aload_n 0, 1) := by decide +kernel
theorem d_Dr_clear_1 : decode b_Dr_clear 1 = .ok (.iconst 0, 1) := by decide +kernel
theorem d_Dr_clear_2 : decode b_Dr_clear 2 = .ok (.putfield 18, 3) := by decide +kernel
theorem d_Dr_clear_5 : decode b_Dr_clear 5 = .ok (.aload_n 0, 1) := by decide +kernel
theorem d_Dr_clear_6 : decode b_Dr_clear 6 = .ok (.iconst 0, 1) := by decide +kernel
theorem d_Dr_clear_7 : decode b_Dr_clear 7 = .ok (.putfield 22, 3) := by decide +kernel
theorem d_Dr_clear_10 : decode b_Dr_clear 10 = .ok (.return_, 1) := by decide +kernel
theorem d_Gr_init_0 : decode b_Gr_init 0 = .ok (.aload_n 0, 1) := by decide +kernel
theorem d_Gr_init_1 : decode b_Gr_init 1 = .ok (.invokespecial 3, 3) := by decide +kernel
theorem d_Gr_init_4 : decode b_Gr_init 4 = .ok (.aload_n 0, 1) := by decide +kernel
theorem d_Gr_init_5 : decode b_Gr_init 5 = .ok (.bipush 24, 2) := by decide +kernel
theorem d_Gr_init_7 : decode b_Gr_init 7 = .ok (.newarray .int, 2) := by decide +kernel
theorem d_Gr_init_9 : decode b_Gr_init 9 = .ok (.putfield 9, 3) := by decide +kernel
theorem d_Gr_init_12 : decode b_Gr_init 12 = .ok (.aload_n 0, 1) := by decide +kernel
theorem d_Gr_init_13 : decode b_Gr_init 13 = .ok (.bipush 24, 2) := by decide +kernel
theorem d_Gr_init_15 : decode b_Gr_init 15 = .ok (.newarray .int, 2) := by decide +kernel
theorem d_Gr_init_17 : decode b_Gr_init 17 = .ok (.putfield 15, 3) := by decide +kernel
theorem d_Gr_init_20 : decode b_Gr_init 20 = .ok (.aload_n 0, 1) := by decide +kernel
theorem d_Gr_init_21 : decode b_Gr_init 21 = .ok (.sipush 144, 3) := by decide +kernel
theorem d_Gr_init_24 : decode b_Gr_init 24 = .ok (.newarray .int, 2) := by decide +kernel
theorem d_Gr_init_26 : decode b_Gr_init 26 = .ok (.putfield 18, 3) := by decide +kernel
theorem d_Gr_init_29 : decode b_Gr_init 29 = .ok (.return_, 1) := by decide +kernel
theorem d_Gr_add_0 : decode b_Gr_add 0 = .ok (.aload_n 0, 1) := by decide +kernel
theorem d_Gr_add_1 : decode b_Gr_add 1 = .ok (.getfield 9, 3) := by decide +kernel
theorem d_Gr_add_4 : decode b_Gr_add 4 = .ok (.aload_n 0, 1) := by decide +kernel
theorem d_Gr_add_5 : decode b_Gr_add 5 = .ok (.getfield 21, 3) := by decide +kernel
theorem d_Gr_add_8 : decode b_Gr_add 8 = .ok (.iload_n 1, 1) := by decide +kernel
theorem d_Gr_add_9 : decode b_Gr_add 9 = .ok (.iastore, 1) := by decide +kernel
theorem d_Gr_add_10 : decode b_Gr_add 10 = .ok (.aload_n 0, 1) := by decide +kernel
theorem d_Gr_add_11 : decode b_Gr_add 11 = .ok (.getfield 15, 3) := by decide +kernel
theorem d_Gr_add_14 : decode b_Gr_add 14 = .ok (.aload_n 0, 1) := by decide +kernel
theorem d_Gr_add_15 : decode b_Gr_add 15 = .ok (.getfield 21, 3) := by decide +kernel
theorem d_Gr_add_18 : decode b_Gr_add 18 = .ok (.iload_n 3, 1) := by decide +kernel
theorem d_Gr_add_19 : decode b_Gr_add 19 = .ok (.iastore, 1) := by decide +kernel
theorem d_Gr_add_20 : decode b_Gr_add 20 = .ok (.aload_n 2, 1) := by decide +kernel
theorem d_Gr_add_21 : decode b_Gr_add 21 = .ok (.iconst 0, 1) := by decide +kernel
theorem d_Gr_add_22 : decode b_Gr_add 22 = .ok (.aload_n 0, 1) := by decide +kernel
theorem d_Gr_add_23 : decode b_Gr_add 23 = .ok (.getfield 18, 3) := by decide +kernel
theorem d_Gr_add_26 : decode b_Gr_add 26 = .ok (.aload_n 0, 1) := by decide +kernel
theorem d_Gr_add_27 : decode b_Gr_add 27 = .ok (.getfield 21, 3) := by decide +kernel
theorem d_Gr_add_30 : decode b_Gr_add 30 = .ok (.bipush 6, 2) := by decide +kernel
theorem d_Gr_add_32 : decode b_Gr_add 32 = .ok (.imul, 1) := by decide +kernel
theorem d_Gr_add_33 : decode b_Gr_add 33 = .ok (.iload_n 3, 1) := by decide +kernel
theorem d_Gr_add_34 : decode b_Gr_add 34 = .ok (.invokestatic 33, 3) := by decide +kernel
theorem d_Gr_add_37 : decode b_Gr_add 37 = .ok (.aload_n 0, 1) := by decide +kernel
theorem d_Gr_add_38 : decode b_Gr_add 38 = .ok (.dup, 1) := by decide +kernel
theorem d_Gr_add_39 : decode b_Gr_add 39 = .ok (.getfield 21, 3) := by decide +kernel
theorem d_Gr_add_42 : decode b_Gr_add 42 = .ok (.iconst 1, 1) := by decide +kernel
theorem d_Gr_add_43 : decode b_Gr_add 43 = .ok (.iadd, 1) := by decide +kernel
theorem d_Gr_add_44 : decode b_Gr_add 44 = .ok (.putfield 21, 3) := by decide +kernel
theorem d_Gr_add_47 : decode b_Gr_add 47 = .ok (.aload_n 0, 1) := by decide +kernel
theorem d_Gr_add_48 : decode b_Gr_add 48 = .ok (.getfield 21, 3) := by decide +kernel
theorem d_Gr_add_51 : decode b_Gr_add 51 = .ok (.iconst 1, 1) := by decide +kernel
theorem d_Gr_add_52 : decode b_Gr_add 52 = .ok (.isub, 1) := by decide +kernel
theorem d_Gr_add_53 : decode b_Gr_add 53 = .ok (.ireturn, 1) := by decide +kernel
theorem d_Gr_has_0 : decode b_Gr_has 0 = .ok (.iload_n 1, 1) := by decide +kernel
theorem d_Gr_has_1 : decode b_Gr_has 1 = .ok (.ifCond .lt 15, 3) := by decide +kernel
theorem d_Gr_has_4 : decode b_Gr_has 4 = .ok (.iload_n 1, 1) := by decide +kernel
theorem d_Gr_has_5 : decode b_Gr_has 5 = .ok (.aload_n 0, 1) := by decide +kernel
theorem d_Gr_has_6 : decode b_Gr_has 6 = .ok (.getfield 21, 3) := by decide +kernel
theorem d_Gr_has_9 : decode b_Gr_has 9 = .ok (.if_icmp .ge 7, 3) := by decide +kernel
theorem d_Gr_has_12 : decode b_Gr_has 12 = .ok (.iconst 1, 1) := by decide +kernel
theorem d_Gr_has_13 : decode b_Gr_has 13 = .ok (.goto 4, 3) := by decide +kernel
theorem d_Gr_has_16 : decode b_Gr_has 16 = .ok (.iconst 0, 1) := by decide +kernel
theorem d_Gr_has_17 : decode b_Gr_has 17 = .ok (.ireturn, 1) := by decide +kernel
theorem d_Gr_leftOf_0 : decode b_Gr_leftOf 0 = .ok (.aload_n 0, 1) := by decide +kernel
theorem d_Gr_leftOf_1 : decode b_Gr_leftOf 1 = .ok (.getfield 9, 3) := by decide +kernel
theorem d_Gr_leftOf_4 : decode b_Gr_leftOf 4 = .ok (.iload_n 1, 1) := by decide +kernel
theorem d_Gr_leftOf_5 : decode b_Gr_leftOf 5 = .ok (.iaload, 1) := by decide +kernel
theorem d_Gr_leftOf_6 : decode b_Gr_leftOf 6 = .ok (.ireturn, 1) := by decide +kernel
theorem d_Gr_nonterminalsIn_0 : decode b_Gr_nonterminalsIn 0 = .ok (.iconst 0, 1) := by decide +kernel
theorem d_Gr_nonterminalsIn_1 : decode b_Gr_nonterminalsIn 1 = .ok (.istore_n 2, 1) := by decide +kernel
theorem d_Gr_nonterminalsIn_2 : decode b_Gr_nonterminalsIn 2 = .ok (.iconst 0, 1) := by decide +kernel
theorem d_Gr_nonterminalsIn_3 : decode b_Gr_nonterminalsIn 3 = .ok (.istore_n 3, 1) := by decide +kernel
theorem d_Gr_nonterminalsIn_4 : decode b_Gr_nonterminalsIn 4 = .ok (.iload_n 3, 1) := by decide +kernel
theorem d_Gr_nonterminalsIn_5 : decode b_Gr_nonterminalsIn 5 = .ok (.aload_n 0, 1) := by decide +kernel
theorem d_Gr_nonterminalsIn_6 : decode b_Gr_nonterminalsIn 6 = .ok (.getfield 15, 3) := by decide +kernel
theorem d_Gr_nonterminalsIn_9 : decode b_Gr_nonterminalsIn 9 = .ok (.iload_n 1, 1) := by decide +kernel
theorem d_Gr_nonterminalsIn_10 : decode b_Gr_nonterminalsIn 10 = .ok (.iaload, 1) := by decide +kernel
theorem d_Gr_nonterminalsIn_11 : decode b_Gr_nonterminalsIn 11 = .ok (.if_icmp .ge 24, 3) := by decide +kernel
theorem d_Gr_nonterminalsIn_14 : decode b_Gr_nonterminalsIn 14 = .ok (.aload_n 0, 1) := by decide +kernel
theorem d_Gr_nonterminalsIn_15 : decode b_Gr_nonterminalsIn 15 = .ok (.iload_n 1, 1) := by decide +kernel
theorem d_Gr_nonterminalsIn_16 : decode b_Gr_nonterminalsIn 16 = .ok (.iload_n 3, 1) := by decide +kernel
theorem d_Gr_nonterminalsIn_17 : decode b_Gr_nonterminalsIn 17 = .ok (.invokevirtual 25, 3) := by decide +kernel
theorem d_Gr_nonterminalsIn_20 : decode b_Gr_nonterminalsIn 20 = .ok (.invokestatic 29, 3) := by decide +kernel
theorem d_Gr_nonterminalsIn_23 : decode b_Gr_nonterminalsIn 23 = .ok (.ifCond .eq 6, 3) := by decide +kernel
theorem d_Gr_nonterminalsIn_26 : decode b_Gr_nonterminalsIn 26 = .ok (.iinc 2 1, 3) := by decide +kernel
theorem d_Gr_nonterminalsIn_29 : decode b_Gr_nonterminalsIn 29 = .ok (.iinc 3 1, 3) := by decide +kernel
theorem d_Gr_nonterminalsIn_32 : decode b_Gr_nonterminalsIn 32 = .ok (.goto (-28), 3) := by decide +kernel
theorem d_Gr_nonterminalsIn_35 : decode b_Gr_nonterminalsIn 35 = .ok (.iload_n 2, 1) := by decide +kernel
theorem d_Gr_nonterminalsIn_36 : decode b_Gr_nonterminalsIn 36 = .ok (.ireturn, 1) := by decide +kernel
theorem d_Gr_remove_0 : decode b_Gr_remove 0 = .ok (.iload_n 1, 1) := by decide +kernel
theorem d_Gr_remove_1 : decode b_Gr_remove 1 = .ok (.iconst 1, 1) := by decide +kernel
theorem d_Gr_remove_2 : decode b_Gr_remove 2 = .ok (.iadd, 1) := by decide +kernel
theorem d_Gr_remove_3 : decode b_Gr_remove 3 = .ok (.istore_n 2, 1) := by decide +kernel
theorem d_Gr_remove_4 : decode b_Gr_remove 4 = .ok (.aload_n 0, 1) := by decide +kernel
theorem d_Gr_remove_5 : decode b_Gr_remove 5 = .ok (.getfield 21, 3) := by decide +kernel
theorem d_Gr_remove_8 : decode b_Gr_remove 8 = .ok (.iload_n 2, 1) := by decide +kernel
theorem d_Gr_remove_9 : decode b_Gr_remove 9 = .ok (.isub, 1) := by decide +kernel
theorem d_Gr_remove_10 : decode b_Gr_remove 10 = .ok (.istore_n 3, 1) := by decide +kernel
theorem d_Gr_remove_11 : decode b_Gr_remove 11 = .ok (.aload_n 0, 1) := by decide +kernel
theorem d_Gr_remove_12 : decode b_Gr_remove 12 = .ok (.getfield 9, 3) := by decide +kernel
theorem d_Gr_remove_15 : decode b_Gr_remove 15 = .ok (.iload_n 2, 1) := by decide +kernel
theorem d_Gr_remove_16 : decode b_Gr_remove 16 = .ok (.aload_n 0, 1) := by decide +kernel
theorem d_Gr_remove_17 : decode b_Gr_remove 17 = .ok (.getfield 9, 3) := by decide +kernel
theorem d_Gr_remove_20 : decode b_Gr_remove 20 = .ok (.iload_n 1, 1) := by decide +kernel
theorem d_Gr_remove_21 : decode b_Gr_remove 21 = .ok (.iload_n 3, 1) := by decide +kernel
theorem d_Gr_remove_22 : decode b_Gr_remove 22 = .ok (.invokestatic 33, 3) := by decide +kernel
theorem d_Gr_remove_25 : decode b_Gr_remove 25 = .ok (.aload_n 0, 1) := by decide +kernel
theorem d_Gr_remove_26 : decode b_Gr_remove 26 = .ok (.getfield 15, 3) := by decide +kernel
theorem d_Gr_remove_29 : decode b_Gr_remove 29 = .ok (.iload_n 2, 1) := by decide +kernel
theorem d_Gr_remove_30 : decode b_Gr_remove 30 = .ok (.aload_n 0, 1) := by decide +kernel
theorem d_Gr_remove_31 : decode b_Gr_remove 31 = .ok (.getfield 15, 3) := by decide +kernel
theorem d_Gr_remove_34 : decode b_Gr_remove 34 = .ok (.iload_n 1, 1) := by decide +kernel
end
section
theorem d_Gr_remove_35 : decode b_Gr_remove 35 = .ok (.iload_n 3, 1) := by decide +kernel
theorem d_Gr_remove_36 : decode b_Gr_remove 36 = .ok (.invokestatic 33, 3) := by decide +kernel
theorem d_Gr_remove_39 : decode b_Gr_remove 39 = .ok (.aload_n 0, 1) := by decide +kernel
theorem d_Gr_remove_40 : decode b_Gr_remove 40 = .ok (.getfield 18, 3) := by decide +kernel
theorem d_Gr_remove_43 : decode b_Gr_remove 43 = .ok (.iload_n 2, 1) := by decide +kernel
theorem d_Gr_remove_44 : decode b_Gr_remove 44 = .ok (.bipush 6, 2) := by decide +kernel
theorem d_Gr_remove_46 : decode b_Gr_remove 46 = .ok (.imul, 1) := by decide +kernel
theorem d_Gr_remove_47 : decode b_Gr_remove 47 = .ok (.aload_n 0, 1) := by decide +kernel
theorem d_Gr_remove_48 : decode b_Gr_remove 48 = .ok (.getfield 18, 3) := by decide +kernel
theorem d_Gr_remove_51 : decode b_Gr_remove 51 = .ok (.iload_n 1, 1) := by decide +kernel
theorem d_Gr_remove_52 : decode b_Gr_remove 52 = .ok (.bipush 6, 2) := by decide +kernel
theorem d_Gr_remove_54 : decode b_Gr_remove 54 = .ok (.imul, 1) := by decide +kernel
theorem d_Gr_remove_55 : decode b_Gr_remove 55 = .ok (.iload_n 3, 1) := by decide +kernel
theorem d_Gr_remove_56 : decode b_Gr_remove 56 = .ok (.bipush 6, 2) := by decide +kernel
theorem d_Gr_remove_58 : decode b_Gr_remove 58 = .ok (.imul, 1) := by decide +kernel
theorem d_Gr_remove_59 : decode b_Gr_remove 59 = .ok (.invokestatic 33, 3) := by decide +kernel
theorem d_Gr_remove_62 : decode b_Gr_remove 62 = .ok (.aload_n 0, 1) := by decide +kernel
theorem d_Gr_remove_63 : decode b_Gr_remove 63 = .ok (.dup, 1) := by decide +kernel
theorem d_Gr_remove_64 : decode b_Gr_remove 64 = .ok (.getfield 21, 3) := by decide +kernel
theorem d_Gr_remove_67 : decode b_Gr_remove 67 = .ok (.iconst 1, 1) := by decide +kernel
theorem d_Gr_remove_68 : decode b_Gr_remove 68 = .ok (.isub, 1) := by decide +kernel
theorem d_Gr_remove_69 : decode b_Gr_remove 69 = .ok (.putfield 21, 3) := by decide +kernel
theorem d_Gr_remove_72 : decode b_Gr_remove 72 = .ok (.return_, 1) := by decide +kernel
theorem d_Gr_sizeOf_0 : decode b_Gr_sizeOf 0 = .ok (.aload_n 0, 1) := by decide +kernel
theorem d_Gr_sizeOf_1 : decode b_Gr_sizeOf 1 = .ok (.getfield 15, 3) := by decide +kernel
theorem d_Gr_sizeOf_4 : decode b_Gr_sizeOf 4 = .ok (.iload_n 1, 1) := by decide +kernel
theorem d_Gr_sizeOf_5 : decode b_Gr_sizeOf 5 = .ok (.iaload, 1) := by decide +kernel
theorem d_Gr_sizeOf_6 : decode b_Gr_sizeOf 6 = .ok (.ireturn, 1) := by decide +kernel
theorem d_Gr_symbolAt_0 : decode b_Gr_symbolAt 0 = .ok (.aload_n 0, 1) := by decide +kernel
theorem d_Gr_symbolAt_1 : decode b_Gr_symbolAt 1 = .ok (.getfield 18, 3) := by decide +kernel
theorem d_Gr_symbolAt_4 : decode b_Gr_symbolAt 4 = .ok (.iload_n 1, 1) := by decide +kernel
theorem d_Gr_symbolAt_5 : decode b_Gr_symbolAt 5 = .ok (.bipush 6, 2) := by decide +kernel
theorem d_Gr_symbolAt_7 : decode b_Gr_symbolAt 7 = .ok (.imul, 1) := by decide +kernel
theorem d_Gr_symbolAt_8 : decode b_Gr_symbolAt 8 = .ok (.iload_n 2, 1) := by decide +kernel
theorem d_Gr_symbolAt_9 : decode b_Gr_symbolAt 9 = .ok (.iadd, 1) := by decide +kernel
theorem d_Gr_symbolAt_10 : decode b_Gr_symbolAt 10 = .ok (.iaload, 1) := by decide +kernel
theorem d_Gr_symbolAt_11 : decode b_Gr_symbolAt 11 = .ok (.ireturn, 1) := by decide +kernel
theorem d_Ld_init_0 : decode b_Ld_init 0 = .ok (.aload_n 0, 1) := by decide +kernel
theorem d_Ld_init_1 : decode b_Ld_init 1 = .ok (.invokespecial 3, 3) := by decide +kernel
theorem d_Ld_init_4 : decode b_Ld_init 4 = .ok (.aload_n 0, 1) := by decide +kernel
theorem d_Ld_init_5 : decode b_Ld_init 5 = .ok (.bipush 8, 2) := by decide +kernel
theorem d_Ld_init_7 : decode b_Ld_init 7 = .ok (.newarray .int, 2) := by decide +kernel
theorem d_Ld_init_9 : decode b_Ld_init 9 = .ok (.putfield 9, 3) := by decide +kernel
theorem d_Ld_init_12 : decode b_Ld_init 12 = .ok (.aload_n 0, 1) := by decide +kernel
theorem d_Ld_init_13 : decode b_Ld_init 13 = .ok (.bipush 8, 2) := by decide +kernel
theorem d_Ld_init_15 : decode b_Ld_init 15 = .ok (.newarray .int, 2) := by decide +kernel
theorem d_Ld_init_17 : decode b_Ld_init 17 = .ok (.putfield 15, 3) := by decide +kernel
theorem d_Ld_init_20 : decode b_Ld_init 20 = .ok (.aload_n 0, 1) := by decide +kernel
theorem d_Ld_init_21 : decode b_Ld_init 21 = .ok (.aload_n 1, 1) := by decide +kernel
theorem d_Ld_init_22 : decode b_Ld_init 22 = .ok (.putfield 18, 3) := by decide +kernel
theorem d_Ld_init_25 : decode b_Ld_init 25 = .ok (.aload_n 0, 1) := by decide +kernel
theorem d_Ld_init_26 : decode b_Ld_init 26 = .ok (.aload_n 2, 1) := by decide +kernel
theorem d_Ld_init_27 : decode b_Ld_init 27 = .ok (.putfield 22, 3) := by decide +kernel
theorem d_Ld_init_30 : decode b_Ld_init 30 = .ok (.return_, 1) := by decide +kernel
theorem d_Ld_find_0 : decode b_Ld_find 0 = .ok (.aload_n 0, 1) := by decide +kernel
theorem d_Ld_find_1 : decode b_Ld_find 1 = .ok (.getfield 9, 3) := by decide +kernel
theorem d_Ld_find_4 : decode b_Ld_find 4 = .ok (.iconst 0, 1) := by decide +kernel
theorem d_Ld_find_5 : decode b_Ld_find 5 = .ok (.invokestatic 30, 3) := by decide +kernel
theorem d_Ld_find_8 : decode b_Ld_find 8 = .ok (.iconst 0, 1) := by decide +kernel
theorem d_Ld_find_9 : decode b_Ld_find 9 = .ok (.istore_n 1, 1) := by decide +kernel
theorem d_Ld_find_10 : decode b_Ld_find 10 = .ok (.iload_n 1, 1) := by decide +kernel
theorem d_Ld_find_11 : decode b_Ld_find 11 = .ok (.aload_n 0, 1) := by decide +kernel
theorem d_Ld_find_12 : decode b_Ld_find 12 = .ok (.getfield 18, 3) := by decide +kernel
theorem d_Ld_find_15 : decode b_Ld_find 15 = .ok (.getfield 36, 3) := by decide +kernel
theorem d_Ld_find_18 : decode b_Ld_find 18 = .ok (.if_icmp .ge 74, 3) := by decide +kernel
theorem d_Ld_find_21 : decode b_Ld_find 21 = .ok (.iconst 0, 1) := by decide +kernel
theorem d_Ld_find_22 : decode b_Ld_find 22 = .ok (.istore_n 2, 1) := by decide +kernel
theorem d_Ld_find_23 : decode b_Ld_find 23 = .ok (.iload_n 2, 1) := by decide +kernel
theorem d_Ld_find_24 : decode b_Ld_find 24 = .ok (.aload_n 0, 1) := by decide +kernel
theorem d_Ld_find_25 : decode b_Ld_find 25 = .ok (.getfield 18, 3) := by decide +kernel
theorem d_Ld_find_28 : decode b_Ld_find 28 = .ok (.iload_n 1, 1) := by decide +kernel
theorem d_Ld_find_29 : decode b_Ld_find 29 = .ok (.invokevirtual 41, 3) := by decide +kernel
theorem d_Ld_find_32 : decode b_Ld_find 32 = .ok (.if_icmp .ge 54, 3) := by decide +kernel
theorem d_Ld_find_35 : decode b_Ld_find 35 = .ok (.aload_n 0, 1) := by decide +kernel
theorem d_Ld_find_36 : decode b_Ld_find 36 = .ok (.getfield 18, 3) := by decide +kernel
theorem d_Ld_find_39 : decode b_Ld_find 39 = .ok (.iload_n 1, 1) := by decide +kernel
theorem d_Ld_find_40 : decode b_Ld_find 40 = .ok (.iload_n 2, 1) := by decide +kernel
theorem d_Ld_find_41 : decode b_Ld_find 41 = .ok (.invokevirtual 45, 3) := by decide +kernel
theorem d_Ld_find_44 : decode b_Ld_find 44 = .ok (.istore_n 3, 1) := by decide +kernel
theorem d_Ld_find_45 : decode b_Ld_find 45 = .ok (.iload_n 3, 1) := by decide +kernel
theorem d_Ld_find_46 : decode b_Ld_find 46 = .ok (.invokestatic 49, 3) := by decide +kernel
theorem d_Ld_find_49 : decode b_Ld_find 49 = .ok (.ifCond .eq 31, 3) := by decide +kernel
theorem d_Ld_find_52 : decode b_Ld_find 52 = .ok (.aload_n 0, 1) := by decide +kernel
theorem d_Ld_find_53 : decode b_Ld_find 53 = .ok (.iload_n 1, 1) := by decide +kernel
theorem d_Ld_find_54 : decode b_Ld_find 54 = .ok (.iload_n 2, 1) := by decide +kernel
theorem d_Ld_find_55 : decode b_Ld_find 55 = .ok (.invokevirtual 53, 3) := by decide +kernel
theorem d_Ld_find_58 : decode b_Ld_find 58 = .ok (.ifCond .eq 22, 3) := by decide +kernel
theorem d_Ld_find_61 : decode b_Ld_find 61 = .ok (.aload_n 0, 1) := by decide +kernel
theorem d_Ld_find_62 : decode b_Ld_find 62 = .ok (.getfield 9, 3) := by decide +kernel
theorem d_Ld_find_65 : decode b_Ld_find 65 = .ok (.aload_n 0, 1) := by decide +kernel
theorem d_Ld_find_66 : decode b_Ld_find 66 = .ok (.getfield 18, 3) := by decide +kernel
theorem d_Ld_find_69 : decode b_Ld_find 69 = .ok (.iload_n 1, 1) := by decide +kernel
theorem d_Ld_find_70 : decode b_Ld_find 70 = .ok (.invokevirtual 57, 3) := by decide +kernel
theorem d_Ld_find_73 : decode b_Ld_find 73 = .ok (.dup2, 1) := by decide +kernel
theorem d_Ld_find_74 : decode b_Ld_find 74 = .ok (.iaload, 1) := by decide +kernel
theorem d_Ld_find_75 : decode b_Ld_find 75 = .ok (.iconst 1, 1) := by decide +kernel
theorem d_Ld_find_76 : decode b_Ld_find 76 = .ok (.iload_n 3, 1) := by decide +kernel
theorem d_Ld_find_77 : decode b_Ld_find 77 = .ok (.ishl, 1) := by decide +kernel
theorem d_Ld_find_78 : decode b_Ld_find 78 = .ok (.ior, 1) := by decide +kernel
theorem d_Ld_find_79 : decode b_Ld_find 79 = .ok (.iastore, 1) := by decide +kernel
theorem d_Ld_find_80 : decode b_Ld_find 80 = .ok (.iinc 2 1, 3) := by decide +kernel
theorem d_Ld_find_83 : decode b_Ld_find 83 = .ok (.goto (-60), 3) := by decide +kernel
theorem d_Ld_find_86 : decode b_Ld_find 86 = .ok (.iinc 1 1, 3) := by decide +kernel
theorem d_Ld_find_89 : decode b_Ld_find 89 = .ok (.goto (-79), 3) := by decide +kernel
theorem d_Ld_find_92 : decode b_Ld_find 92 = .ok (.aload_n 0, 1) := by decide +kernel
theorem d_Ld_find_93 : decode b_Ld_find 93 = .ok (.invokevirtual 60, 3) := by decide +kernel
theorem d_Ld_find_96 : decode b_Ld_find 96 = .ok (.return_, 1) := by decide +kernel
theorem d_Ld_inOrder_0 : decode b_Ld_inOrder 0 = .ok (.aload_n 0, 1) := by decide +kernel
theorem d_Ld_inOrder_1 : decode b_Ld_inOrder 1 = .ok (.getfield 15, 3) := by decide +kernel
theorem d_Ld_inOrder_4 : decode b_Ld_inOrder 4 = .ok (.iload_n 1, 1) := by decide +kernel
theorem d_Ld_inOrder_5 : decode b_Ld_inOrder 5 = .ok (.iaload, 1) := by decide +kernel
theorem d_Ld_inOrder_6 : decode b_Ld_inOrder 6 = .ok (.ireturn, 1) := by decide +kernel
theorem d_Ld_isCircle_0 : decode b_Ld_isCircle 0 = .ok (.aload_n 0, 1) := by decide +kernel
theorem d_Ld_isCircle_1 : decode b_Ld_isCircle 1 = .ok (.getfield 26, 3) := by decide +kernel
theorem d_Ld_isCircle_4 : decode b_Ld_isCircle 4 = .ok (.bipush 8, 2) := by decide +kernel
theorem d_Ld_isCircle_6 : decode b_Ld_isCircle 6 = .ok (.if_icmp .ge 7, 3) := by decide +kernel
theorem d_Ld_isCircle_9 : decode b_Ld_isCircle 9 = .ok (.iconst 1, 1) := by decide +kernel
theorem d_Ld_isCircle_10 : decode b_Ld_isCircle 10 = .ok (.goto 4, 3) := by decide +kernel
theorem d_Ld_isCircle_13 : decode b_Ld_isCircle 13 = .ok (.iconst 0, 1) := by decide +kernel
theorem d_Ld_isCircle_14 : decode b_Ld_isCircle 14 = .ok (.ireturn, 1) := by decide +kernel
theorem d_Ld_isEmptyBut_0 : decode b_Ld_isEmptyBut 0 = .ok (.iconst 0, 1) := by decide +kernel
theorem d_Ld_isEmptyBut_1 : decode b_Ld_isEmptyBut 1 = .ok (.istore_n 3, 1) := by decide +kernel
theorem d_Ld_isEmptyBut_2 : decode b_Ld_isEmptyBut 2 = .ok (.iload_n 3, 1) := by decide +kernel
theorem d_Ld_isEmptyBut_3 : decode b_Ld_isEmptyBut 3 = .ok (.aload_n 0, 1) := by decide +kernel
theorem d_Ld_isEmptyBut_4 : decode b_Ld_isEmptyBut 4 = .ok (.getfield 18, 3) := by decide +kernel
theorem d_Ld_isEmptyBut_7 : decode b_Ld_isEmptyBut 7 = .ok (.iload_n 1, 1) := by decide +kernel
theorem d_Ld_isEmptyBut_8 : decode b_Ld_isEmptyBut 8 = .ok (.invokevirtual 41, 3) := by decide +kernel
theorem d_Ld_isEmptyBut_11 : decode b_Ld_isEmptyBut 11 = .ok (.if_icmp .ge 35, 3) := by decide +kernel
theorem d_Ld_isEmptyBut_14 : decode b_Ld_isEmptyBut 14 = .ok (.iload_n 3, 1) := by decide +kernel
theorem d_Ld_isEmptyBut_15 : decode b_Ld_isEmptyBut 15 = .ok (.iload_n 2, 1) := by decide +kernel
theorem d_Ld_isEmptyBut_16 : decode b_Ld_isEmptyBut 16 = .ok (.if_icmp .eq 24, 3) := by decide +kernel
theorem d_Ld_isEmptyBut_19 : decode b_Ld_isEmptyBut 19 = .ok (.aload_n 0, 1) := by decide +kernel
theorem d_Ld_isEmptyBut_20 : decode b_Ld_isEmptyBut 20 = .ok (.getfield 22, 3) := by decide +kernel
theorem d_Ld_isEmptyBut_23 : decode b_Ld_isEmptyBut 23 = .ok (.aload_n 0, 1) := by decide +kernel
theorem d_Ld_isEmptyBut_24 : decode b_Ld_isEmptyBut 24 = .ok (.getfield 18, 3) := by decide +kernel
theorem d_Ld_isEmptyBut_27 : decode b_Ld_isEmptyBut 27 = .ok (.iload_n 1, 1) := by decide +kernel
theorem d_Ld_isEmptyBut_28 : decode b_Ld_isEmptyBut 28 = .ok (.iload_n 3, 1) := by decide +kernel
theorem d_Ld_isEmptyBut_29 : decode b_Ld_isEmptyBut 29 = .ok (.invokevirtual 45, 3) := by decide +kernel
theorem d_Ld_isEmptyBut_32 : decode b_Ld_isEmptyBut 32 = .ok (.invokevirtual 63, 3) := by decide +kernel
theorem d_Ld_isEmptyBut_35 : decode b_Ld_isEmptyBut 35 = .ok (.ifCond .ne 5, 3) := by decide +kernel
theorem d_Ld_isEmptyBut_38 : decode b_Ld_isEmptyBut 38 = .ok (.iconst 0, 1) := by decide +kernel
theorem d_Ld_isEmptyBut_39 : decode b_Ld_isEmptyBut 39 = .ok (.ireturn, 1) := by decide +kernel
theorem d_Ld_isEmptyBut_40 : decode b_Ld_isEmptyBut 40 = .ok (.iinc 3 1, 3) := by decide +kernel
theorem d_Ld_isEmptyBut_43 : decode b_Ld_isEmptyBut 43 = .ok (.goto (-41), 3) := by decide +kernel
theorem d_Ld_isEmptyBut_46 : decode b_Ld_isEmptyBut 46 = .ok (.iconst 1, 1) := by decide +kernel
theorem d_Ld_isEmptyBut_47 : decode b_Ld_isEmptyBut 47 = .ok (.ireturn, 1) := by decide +kernel
theorem d_Ld_putInOrder_0 : decode b_Ld_putInOrder 0 = .ok (.aload_n 0, 1) := by decide +kernel
theorem d_Ld_putInOrder_1 : decode b_Ld_putInOrder 1 = .ok (.iconst 0, 1) := by decide +kernel
theorem d_Ld_putInOrder_2 : decode b_Ld_putInOrder 2 = .ok (.putfield 26, 3) := by decide +kernel
theorem d_Ld_putInOrder_5 : decode b_Ld_putInOrder 5 = .ok (.iconst 0, 1) := by decide +kernel
theorem d_Ld_putInOrder_6 : decode b_Ld_putInOrder 6 = .ok (.istore_n 1, 1) := by decide +kernel
theorem d_Ld_putInOrder_7 : decode b_Ld_putInOrder 7 = .ok (.iconst 0, 1) := by decide +kernel
theorem d_Ld_putInOrder_8 : decode b_Ld_putInOrder 8 = .ok (.istore_n 2, 1) := by decide +kernel
theorem d_Ld_putInOrder_9 : decode b_Ld_putInOrder 9 = .ok (.iload_n 2, 1) := by decide +kernel
theorem d_Ld_putInOrder_10 : decode b_Ld_putInOrder 10 = .ok (.bipush 8, 2) := by decide +kernel
theorem d_Ld_putInOrder_12 : decode b_Ld_putInOrder 12 = .ok (.if_icmp .ge 82, 3) := by decide +kernel
theorem d_Ld_putInOrder_15 : decode b_Ld_putInOrder 15 = .ok (.iconst 0, 1) := by decide +kernel
theorem d_Ld_putInOrder_16 : decode b_Ld_putInOrder 16 = .ok (.istore_n 3, 1) := by decide +kernel
theorem d_Ld_putInOrder_17 : decode b_Ld_putInOrder 17 = .ok (.iload_n 3, 1) := by decide +kernel
theorem d_Ld_putInOrder_18 : decode b_Ld_putInOrder 18 = .ok (.bipush 8, 2) := by decide +kernel
theorem d_Ld_putInOrder_20 : decode b_Ld_putInOrder 20 = .ok (.if_icmp .ge 68, 3) := by decide +kernel
theorem d_Ld_putInOrder_23 : decode b_Ld_putInOrder 23 = .ok (.iload_n 1, 1) := by decide +kernel
theorem d_Ld_putInOrder_24 : decode b_Ld_putInOrder 24 = .ok (.iconst 1, 1) := by decide +kernel
theorem d_Ld_putInOrder_25 : decode b_Ld_putInOrder 25 = .ok (.iload_n 3, 1) := by decide +kernel
theorem d_Ld_putInOrder_26 : decode b_Ld_putInOrder 26 = .ok (.ishl, 1) := by decide +kernel
theorem d_Ld_putInOrder_27 : decode b_Ld_putInOrder 27 = .ok (.iand, 1) := by decide +kernel
theorem d_Ld_putInOrder_28 : decode b_Ld_putInOrder 28 = .ok (.ifCond .ne 7, 3) := by decide +kernel
theorem d_Ld_putInOrder_31 : decode b_Ld_putInOrder 31 = .ok (.iconst 1, 1) := by decide +kernel
theorem d_Ld_putInOrder_32 : decode b_Ld_putInOrder 32 = .ok (.goto 4, 3) := by decide +kernel
theorem d_Ld_putInOrder_35 : decode b_Ld_putInOrder 35 = .ok (.iconst 0, 1) := by decide +kernel
theorem d_Ld_putInOrder_36 : decode b_Ld_putInOrder 36 = .ok (.istore 4, 2) := by decide +kernel
theorem d_Ld_putInOrder_38 : decode b_Ld_putInOrder 38 = .ok (.iload 4, 2) := by decide +kernel
theorem d_Ld_putInOrder_40 : decode b_Ld_putInOrder 40 = .ok (.ifCond .eq 42, 3) := by decide +kernel
theorem d_Ld_putInOrder_43 : decode b_Ld_putInOrder 43 = .ok (.aload_n 0, 1) := by decide +kernel
theorem d_Ld_putInOrder_44 : decode b_Ld_putInOrder 44 = .ok (.getfield 9, 3) := by decide +kernel
theorem d_Ld_putInOrder_47 : decode b_Ld_putInOrder 47 = .ok (.iload_n 3, 1) := by decide +kernel
theorem d_Ld_putInOrder_48 : decode b_Ld_putInOrder 48 = .ok (.iaload, 1) := by decide +kernel
theorem d_Ld_putInOrder_49 : decode b_Ld_putInOrder 49 = .ok (.iload_n 1, 1) := by decide +kernel
theorem d_Ld_putInOrder_50 : decode b_Ld_putInOrder 50 = .ok (.iconst (-1), 1) := by decide +kernel
theorem d_Ld_putInOrder_51 : decode b_Ld_putInOrder 51 = .ok (.ixor, 1) := by decide +kernel
theorem d_Ld_putInOrder_52 : decode b_Ld_putInOrder 52 = .ok (.iand, 1) := by decide +kernel
theorem d_Ld_putInOrder_53 : decode b_Ld_putInOrder 53 = .ok (.ifCond .ne 29, 3) := by decide +kernel
theorem d_Ld_putInOrder_56 : decode b_Ld_putInOrder 56 = .ok (.iload_n 1, 1) := by decide +kernel
theorem d_Ld_putInOrder_57 : decode b_Ld_putInOrder 57 = .ok (.iconst 1, 1) := by decide +kernel
theorem d_Ld_putInOrder_58 : decode b_Ld_putInOrder 58 = .ok (.iload_n 3, 1) := by decide +kernel
theorem d_Ld_putInOrder_59 : decode b_Ld_putInOrder 59 = .ok (.ishl, 1) := by decide +kernel
theorem d_Ld_putInOrder_60 : decode b_Ld_putInOrder 60 = .ok (.ior, 1) := by decide +kernel
theorem d_Ld_putInOrder_61 : decode b_Ld_putInOrder 61 = .ok (.istore_n 1, 1) := by decide +kernel
theorem d_Ld_putInOrder_62 : decode b_Ld_putInOrder 62 = .ok (.aload_n 0, 1) := by decide +kernel
theorem d_Ld_putInOrder_63 : decode b_Ld_putInOrder 63 = .ok (.getfield 15, 3) := by decide +kernel
theorem d_Ld_putInOrder_66 : decode b_Ld_putInOrder 66 = .ok (.aload_n 0, 1) := by decide +kernel
theorem d_Ld_putInOrder_67 : decode b_Ld_putInOrder 67 = .ok (.getfield 26, 3) := by decide +kernel
theorem d_Ld_putInOrder_70 : decode b_Ld_putInOrder 70 = .ok (.iload_n 3, 1) := by decide +kernel
theorem d_Ld_putInOrder_71 : decode b_Ld_putInOrder 71 = .ok (.iastore, 1) := by decide +kernel
theorem d_Ld_putInOrder_72 : decode b_Ld_putInOrder 72 = .ok (.aload_n 0, 1) := by decide +kernel
theorem d_Ld_putInOrder_73 : decode b_Ld_putInOrder 73 = .ok (.dup, 1) := by decide +kernel
theorem d_Ld_putInOrder_74 : decode b_Ld_putInOrder 74 = .ok (.getfield 26, 3) := by decide +kernel
theorem d_Ld_putInOrder_77 : decode b_Ld_putInOrder 77 = .ok (.iconst 1, 1) := by decide +kernel
theorem d_Ld_putInOrder_78 : decode b_Ld_putInOrder 78 = .ok (.iadd, 1) := by decide +kernel
theorem d_Ld_putInOrder_79 : decode b_Ld_putInOrder 79 = .ok (.putfield 26, 3) := by decide +kernel
theorem d_Ld_putInOrder_82 : decode b_Ld_putInOrder 82 = .ok (.iinc 3 1, 3) := by decide +kernel
theorem d_Ld_putInOrder_85 : decode b_Ld_putInOrder 85 = .ok (.goto (-68), 3) := by decide +kernel
theorem d_Ld_putInOrder_88 : decode b_Ld_putInOrder 88 = .ok (.iinc 2 1, 3) := by decide +kernel
theorem d_Ld_putInOrder_91 : decode b_Ld_putInOrder 91 = .ok (.goto (-82), 3) := by decide +kernel
theorem d_Ld_putInOrder_94 : decode b_Ld_putInOrder 94 = .ok (.return_, 1) := by decide +kernel
theorem d_Le_init_0 : decode b_Le_init 0 = .ok (.aload_n 0, 1) := by decide +kernel
theorem d_Le_init_1 : decode b_Le_init 1 = .ok (.invokespecial 3, 3) := by decide +kernel
theorem d_Le_init_4 : decode b_Le_init 4 = .ok (.aload_n 0, 1) := by decide +kernel
theorem d_Le_init_5 : decode b_Le_init 5 = .ok (.bipush 8, 2) := by decide +kernel
theorem d_Le_init_7 : decode b_Le_init 7 = .ok (.newarray .int, 2) := by decide +kernel
theorem d_Le_init_9 : decode b_Le_init 9 = .ok (.putfield 9, 3) := by decide +kernel
theorem d_Le_init_12 : decode b_Le_init 12 = .ok (.aload_n 0, 1) := by decide +kernel
theorem d_Le_init_13 : decode b_Le_init 13 = .ok (.bipush 8, 2) := by decide +kernel
theorem d_Le_init_15 : decode b_Le_init 15 = .ok (.newarray .int, 2) := by decide +kernel
theorem d_Le_init_17 : decode b_Le_init 17 = .ok (.putfield 15, 3) := by decide +kernel
theorem d_Le_init_20 : decode b_Le_init 20 = .ok (.aload_n 0, 1) := by decide +kernel
theorem d_Le_init_21 : decode b_Le_init 21 = .ok (.aload_n 1, 1) := by decide +kernel
theorem d_Le_init_22 : decode b_Le_init 22 = .ok (.putfield 18, 3) := by decide +kernel
theorem d_Le_init_25 : decode b_Le_init 25 = .ok (.return_, 1) := by decide +kernel
theorem d_Le_find_0 : decode b_Le_find 0 = .ok (.aload_n 0, 1) := by decide +kernel
theorem d_Le_find_1 : decode b_Le_find 1 = .ok (.getfield 9, 3) := by decide +kernel
theorem d_Le_find_4 : decode b_Le_find 4 = .ok (.iconst (-1), 1) := by decide +kernel
theorem d_Le_find_5 : decode b_Le_find 5 = .ok (.invokestatic 36, 3) := by decide +kernel
theorem d_Le_find_8 : decode b_Le_find 8 = .ok (.iconst 0, 1) := by decide +kernel
theorem d_Le_find_9 : decode b_Le_find 9 = .ok (.istore_n 1, 1) := by decide +kernel
theorem d_Le_find_10 : decode b_Le_find 10 = .ok (.iload_n 1, 1) := by decide +kernel
theorem d_Le_find_11 : decode b_Le_find 11 = .ok (.bipush 8, 2) := by decide +kernel
theorem d_Le_find_13 : decode b_Le_find 13 = .ok (.if_icmp .ge 49, 3) := by decide +kernel
theorem d_Le_find_16 : decode b_Le_find 16 = .ok (.iconst 0, 1) := by decide +kernel
theorem d_Le_find_17 : decode b_Le_find 17 = .ok (.istore_n 2, 1) := by decide +kernel
theorem d_Le_find_18 : decode b_Le_find 18 = .ok (.iload_n 2, 1) := by decide +kernel
theorem d_Le_find_19 : decode b_Le_find 19 = .ok (.aload_n 0, 1) := by decide +kernel
theorem d_Le_find_20 : decode b_Le_find 20 = .ok (.getfield 18, 3) := by decide +kernel
theorem d_Le_find_23 : decode b_Le_find 23 = .ok (.getfield 42, 3) := by decide +kernel
theorem d_Le_find_26 : decode b_Le_find 26 = .ok (.if_icmp .ge 30, 3) := by decide +kernel
theorem d_Le_find_29 : decode b_Le_find 29 = .ok (.aload_n 0, 1) := by decide +kernel
theorem d_Le_find_30 : decode b_Le_find 30 = .ok (.getfield 9, 3) := by decide +kernel
theorem d_Le_find_33 : decode b_Le_find 33 = .ok (.aload_n 0, 1) := by decide +kernel
theorem d_Le_find_34 : decode b_Le_find 34 = .ok (.getfield 18, 3) := by decide +kernel
theorem d_Le_find_37 : decode b_Le_find 37 = .ok (.iload_n 2, 1) := by decide +kernel
theorem d_Le_find_38 : decode b_Le_find 38 = .ok (.invokevirtual 30, 3) := by decide +kernel
theorem d_Le_find_41 : decode b_Le_find 41 = .ok (.aload_n 0, 1) := by decide +kernel
theorem d_Le_find_42 : decode b_Le_find 42 = .ok (.iload_n 2, 1) := by decide +kernel
theorem d_Le_find_43 : decode b_Le_find 43 = .ok (.iconst (-1), 1) := by decide +kernel
theorem d_Le_find_44 : decode b_Le_find 44 = .ok (.invokevirtual 26, 3) := by decide +kernel
theorem d_Le_find_47 : decode b_Le_find 47 = .ok (.invokestatic 46, 3) := by decide +kernel
theorem d_Le_find_50 : decode b_Le_find 50 = .ok (.iinc 2 1, 3) := by decide +kernel
theorem d_Le_find_53 : decode b_Le_find 53 = .ok (.goto (-35), 3) := by decide +kernel
theorem d_Le_find_56 : decode b_Le_find 56 = .ok (.iinc 1 1, 3) := by decide +kernel
theorem d_Le_find_59 : decode b_Le_find 59 = .ok (.goto (-49), 3) := by decide +kernel
end
section
theorem d_Le_find_62 : decode b_Le_find 62 = .ok (.aload_n 0, 1) := by decide +kernel
theorem d_Le_find_63 : decode b_Le_find 63 = .ok (.getfield 15, 3) := by decide +kernel
theorem d_Le_find_66 : decode b_Le_find 66 = .ok (.iconst (-1), 1) := by decide +kernel
theorem d_Le_find_67 : decode b_Le_find 67 = .ok (.invokestatic 36, 3) := by decide +kernel
theorem d_Le_find_70 : decode b_Le_find 70 = .ok (.aload_n 0, 1) := by decide +kernel
theorem d_Le_find_71 : decode b_Le_find 71 = .ok (.getfield 15, 3) := by decide +kernel
theorem d_Le_find_74 : decode b_Le_find 74 = .ok (.iconst 0, 1) := by decide +kernel
theorem d_Le_find_75 : decode b_Le_find 75 = .ok (.iconst 0, 1) := by decide +kernel
theorem d_Le_find_76 : decode b_Le_find 76 = .ok (.iastore, 1) := by decide +kernel
theorem d_Le_find_77 : decode b_Le_find 77 = .ok (.iconst 0, 1) := by decide +kernel
theorem d_Le_find_78 : decode b_Le_find 78 = .ok (.istore_n 1, 1) := by decide +kernel
theorem d_Le_find_79 : decode b_Le_find 79 = .ok (.iload_n 1, 1) := by decide +kernel
theorem d_Le_find_80 : decode b_Le_find 80 = .ok (.bipush 8, 2) := by decide +kernel
theorem d_Le_find_82 : decode b_Le_find 82 = .ok (.if_icmp .ge 33, 3) := by decide +kernel
theorem d_Le_find_85 : decode b_Le_find 85 = .ok (.iconst 0, 1) := by decide +kernel
theorem d_Le_find_86 : decode b_Le_find 86 = .ok (.istore_n 2, 1) := by decide +kernel
theorem d_Le_find_87 : decode b_Le_find 87 = .ok (.iload_n 2, 1) := by decide +kernel
theorem d_Le_find_88 : decode b_Le_find 88 = .ok (.aload_n 0, 1) := by decide +kernel
theorem d_Le_find_89 : decode b_Le_find 89 = .ok (.getfield 18, 3) := by decide +kernel
theorem d_Le_find_92 : decode b_Le_find 92 = .ok (.getfield 42, 3) := by decide +kernel
theorem d_Le_find_95 : decode b_Le_find 95 = .ok (.if_icmp .ge 14, 3) := by decide +kernel
theorem d_Le_find_98 : decode b_Le_find 98 = .ok (.aload_n 0, 1) := by decide +kernel
theorem d_Le_find_99 : decode b_Le_find 99 = .ok (.iload_n 2, 1) := by decide +kernel
theorem d_Le_find_100 : decode b_Le_find 100 = .ok (.invokevirtual 50, 3) := by decide +kernel
theorem d_Le_find_103 : decode b_Le_find 103 = .ok (.iinc 2 1, 3) := by decide +kernel
theorem d_Le_find_106 : decode b_Le_find 106 = .ok (.goto (-19), 3) := by decide +kernel
theorem d_Le_find_109 : decode b_Le_find 109 = .ok (.iinc 1 1, 3) := by decide +kernel
theorem d_Le_find_112 : decode b_Le_find 112 = .ok (.goto (-33), 3) := by decide +kernel
theorem d_Le_find_115 : decode b_Le_find 115 = .ok (.return_, 1) := by decide +kernel
theorem d_Le_isEmpty_0 : decode b_Le_isEmpty 0 = .ok (.iload_n 1, 1) := by decide +kernel
theorem d_Le_isEmpty_1 : decode b_Le_isEmpty 1 = .ok (.invokestatic 22, 3) := by decide +kernel
theorem d_Le_isEmpty_4 : decode b_Le_isEmpty 4 = .ok (.ifCond .eq 16, 3) := by decide +kernel
theorem d_Le_isEmpty_7 : decode b_Le_isEmpty 7 = .ok (.aload_n 0, 1) := by decide +kernel
theorem d_Le_isEmpty_8 : decode b_Le_isEmpty 8 = .ok (.getfield 9, 3) := by decide +kernel
theorem d_Le_isEmpty_11 : decode b_Le_isEmpty 11 = .ok (.iload_n 1, 1) := by decide +kernel
theorem d_Le_isEmpty_12 : decode b_Le_isEmpty 12 = .ok (.iaload, 1) := by decide +kernel
theorem d_Le_isEmpty_13 : decode b_Le_isEmpty 13 = .ok (.ifCond .ne 7, 3) := by decide +kernel
theorem d_Le_isEmpty_16 : decode b_Le_isEmpty 16 = .ok (.iconst 1, 1) := by decide +kernel
theorem d_Le_isEmpty_17 : decode b_Le_isEmpty 17 = .ok (.goto 4, 3) := by decide +kernel
theorem d_Le_isEmpty_20 : decode b_Le_isEmpty 20 = .ok (.iconst 0, 1) := by decide +kernel
theorem d_Le_isEmpty_21 : decode b_Le_isEmpty 21 = .ok (.ireturn, 1) := by decide +kernel
theorem d_Le_leastBut_0 : decode b_Le_leastBut 0 = .ok (.iconst 0, 1) := by decide +kernel
theorem d_Le_leastBut_1 : decode b_Le_leastBut 1 = .ok (.istore_n 3, 1) := by decide +kernel
theorem d_Le_leastBut_2 : decode b_Le_leastBut 2 = .ok (.iconst 0, 1) := by decide +kernel
theorem d_Le_leastBut_3 : decode b_Le_leastBut 3 = .ok (.istore 4, 2) := by decide +kernel
theorem d_Le_leastBut_5 : decode b_Le_leastBut 5 = .ok (.iload 4, 2) := by decide +kernel
theorem d_Le_leastBut_7 : decode b_Le_leastBut 7 = .ok (.aload_n 0, 1) := by decide +kernel
theorem d_Le_leastBut_8 : decode b_Le_leastBut 8 = .ok (.getfield 18, 3) := by decide +kernel
theorem d_Le_leastBut_11 : decode b_Le_leastBut 11 = .ok (.iload_n 1, 1) := by decide +kernel
theorem d_Le_leastBut_12 : decode b_Le_leastBut 12 = .ok (.invokevirtual 54, 3) := by decide +kernel
theorem d_Le_leastBut_15 : decode b_Le_leastBut 15 = .ok (.if_icmp .ge 64, 3) := by decide +kernel
theorem d_Le_leastBut_18 : decode b_Le_leastBut 18 = .ok (.iload 4, 2) := by decide +kernel
theorem d_Le_leastBut_20 : decode b_Le_leastBut 20 = .ok (.iload_n 2, 1) := by decide +kernel
theorem d_Le_leastBut_21 : decode b_Le_leastBut 21 = .ok (.if_icmp .ne 6, 3) := by decide +kernel
theorem d_Le_leastBut_24 : decode b_Le_leastBut 24 = .ok (.goto 49, 3) := by decide +kernel
theorem d_Le_leastBut_27 : decode b_Le_leastBut 27 = .ok (.aload_n 0, 1) := by decide +kernel
theorem d_Le_leastBut_28 : decode b_Le_leastBut 28 = .ok (.getfield 18, 3) := by decide +kernel
theorem d_Le_leastBut_31 : decode b_Le_leastBut 31 = .ok (.iload_n 1, 1) := by decide +kernel
theorem d_Le_leastBut_32 : decode b_Le_leastBut 32 = .ok (.iload 4, 2) := by decide +kernel
theorem d_Le_leastBut_34 : decode b_Le_leastBut 34 = .ok (.invokevirtual 57, 3) := by decide +kernel
theorem d_Le_leastBut_37 : decode b_Le_leastBut 37 = .ok (.istore 5, 2) := by decide +kernel
theorem d_Le_leastBut_39 : decode b_Le_leastBut 39 = .ok (.iload 5, 2) := by decide +kernel
theorem d_Le_leastBut_41 : decode b_Le_leastBut 41 = .ok (.invokestatic 22, 3) := by decide +kernel
theorem d_Le_leastBut_44 : decode b_Le_leastBut 44 = .ok (.ifCond .eq 13, 3) := by decide +kernel
theorem d_Le_leastBut_47 : decode b_Le_leastBut 47 = .ok (.aload_n 0, 1) := by decide +kernel
theorem d_Le_leastBut_48 : decode b_Le_leastBut 48 = .ok (.getfield 9, 3) := by decide +kernel
theorem d_Le_leastBut_51 : decode b_Le_leastBut 51 = .ok (.iload 5, 2) := by decide +kernel
theorem d_Le_leastBut_53 : decode b_Le_leastBut 53 = .ok (.iaload, 1) := by decide +kernel
theorem d_Le_leastBut_54 : decode b_Le_leastBut 54 = .ok (.goto 4, 3) := by decide +kernel
theorem d_Le_leastBut_57 : decode b_Le_leastBut 57 = .ok (.iconst 1, 1) := by decide +kernel
theorem d_Le_leastBut_58 : decode b_Le_leastBut 58 = .ok (.istore 6, 2) := by decide +kernel
theorem d_Le_leastBut_60 : decode b_Le_leastBut 60 = .ok (.iload 6, 2) := by decide +kernel
theorem d_Le_leastBut_62 : decode b_Le_leastBut 62 = .ok (.iconst (-1), 1) := by decide +kernel
theorem d_Le_leastBut_63 : decode b_Le_leastBut 63 = .ok (.if_icmp .ne 5, 3) := by decide +kernel
theorem d_Le_leastBut_66 : decode b_Le_leastBut 66 = .ok (.iconst (-1), 1) := by decide +kernel
theorem d_Le_leastBut_67 : decode b_Le_leastBut 67 = .ok (.ireturn, 1) := by decide +kernel
theorem d_Le_leastBut_68 : decode b_Le_leastBut 68 = .ok (.iload_n 3, 1) := by decide +kernel
theorem d_Le_leastBut_69 : decode b_Le_leastBut 69 = .ok (.iload 6, 2) := by decide +kernel
theorem d_Le_leastBut_71 : decode b_Le_leastBut 71 = .ok (.iadd, 1) := by decide +kernel
theorem d_Le_leastBut_72 : decode b_Le_leastBut 72 = .ok (.istore_n 3, 1) := by decide +kernel
theorem d_Le_leastBut_73 : decode b_Le_leastBut 73 = .ok (.iinc 4 1, 3) := by decide +kernel
theorem d_Le_leastBut_76 : decode b_Le_leastBut 76 = .ok (.goto (-71), 3) := by decide +kernel
theorem d_Le_leastBut_79 : decode b_Le_leastBut 79 = .ok (.iload_n 3, 1) := by decide +kernel
theorem d_Le_leastBut_80 : decode b_Le_leastBut 80 = .ok (.ireturn, 1) := by decide +kernel
theorem d_Le_leastOf_0 : decode b_Le_leastOf 0 = .ok (.aload_n 0, 1) := by decide +kernel
theorem d_Le_leastOf_1 : decode b_Le_leastOf 1 = .ok (.getfield 9, 3) := by decide +kernel
theorem d_Le_leastOf_4 : decode b_Le_leastOf 4 = .ok (.iload_n 1, 1) := by decide +kernel
theorem d_Le_leastOf_5 : decode b_Le_leastOf 5 = .ok (.iaload, 1) := by decide +kernel
theorem d_Le_leastOf_6 : decode b_Le_leastOf 6 = .ok (.ireturn, 1) := by decide +kernel
theorem d_Le_leastWith_0 : decode b_Le_leastWith 0 = .ok (.aload_n 0, 1) := by decide +kernel
theorem d_Le_leastWith_1 : decode b_Le_leastWith 1 = .ok (.iload_n 1, 1) := by decide +kernel
theorem d_Le_leastWith_2 : decode b_Le_leastWith 2 = .ok (.iconst (-1), 1) := by decide +kernel
theorem d_Le_leastWith_3 : decode b_Le_leastWith 3 = .ok (.invokevirtual 26, 3) := by decide +kernel
theorem d_Le_leastWith_6 : decode b_Le_leastWith 6 = .ok (.istore_n 2, 1) := by decide +kernel
theorem d_Le_leastWith_7 : decode b_Le_leastWith 7 = .ok (.aload_n 0, 1) := by decide +kernel
theorem d_Le_leastWith_8 : decode b_Le_leastWith 8 = .ok (.getfield 15, 3) := by decide +kernel
theorem d_Le_leastWith_11 : decode b_Le_leastWith 11 = .ok (.aload_n 0, 1) := by decide +kernel
theorem d_Le_leastWith_12 : decode b_Le_leastWith 12 = .ok (.getfield 18, 3) := by decide +kernel
theorem d_Le_leastWith_15 : decode b_Le_leastWith 15 = .ok (.iload_n 1, 1) := by decide +kernel
theorem d_Le_leastWith_16 : decode b_Le_leastWith 16 = .ok (.invokevirtual 30, 3) := by decide +kernel
theorem d_Le_leastWith_19 : decode b_Le_leastWith 19 = .ok (.iaload, 1) := by decide +kernel
theorem d_Le_leastWith_20 : decode b_Le_leastWith 20 = .ok (.istore_n 3, 1) := by decide +kernel
theorem d_Le_leastWith_21 : decode b_Le_leastWith 21 = .ok (.iload_n 2, 1) := by decide +kernel
theorem d_Le_leastWith_22 : decode b_Le_leastWith 22 = .ok (.iconst (-1), 1) := by decide +kernel
theorem d_Le_leastWith_23 : decode b_Le_leastWith 23 = .ok (.if_icmp .eq 8, 3) := by decide +kernel
theorem d_Le_leastWith_26 : decode b_Le_leastWith 26 = .ok (.iload_n 3, 1) := by decide +kernel
theorem d_Le_leastWith_27 : decode b_Le_leastWith 27 = .ok (.iconst (-1), 1) := by decide +kernel
theorem d_Le_leastWith_28 : decode b_Le_leastWith 28 = .ok (.if_icmp .ne 7, 3) := by decide +kernel
theorem d_Le_leastWith_31 : decode b_Le_leastWith 31 = .ok (.iconst (-1), 1) := by decide +kernel
theorem d_Le_leastWith_32 : decode b_Le_leastWith 32 = .ok (.goto 6, 3) := by decide +kernel
theorem d_Le_leastWith_35 : decode b_Le_leastWith 35 = .ok (.iload_n 2, 1) := by decide +kernel
theorem d_Le_leastWith_36 : decode b_Le_leastWith 36 = .ok (.iload_n 3, 1) := by decide +kernel
theorem d_Le_leastWith_37 : decode b_Le_leastWith 37 = .ok (.iadd, 1) := by decide +kernel
theorem d_Le_leastWith_38 : decode b_Le_leastWith 38 = .ok (.ireturn, 1) := by decide +kernel
theorem d_Le_lower_0 : decode b_Le_lower 0 = .ok (.aload_n 0, 1) := by decide +kernel
theorem d_Le_lower_1 : decode b_Le_lower 1 = .ok (.iload_n 1, 1) := by decide +kernel
theorem d_Le_lower_2 : decode b_Le_lower 2 = .ok (.iaload, 1) := by decide +kernel
theorem d_Le_lower_3 : decode b_Le_lower 3 = .ok (.istore_n 3, 1) := by decide +kernel
theorem d_Le_lower_4 : decode b_Le_lower 4 = .ok (.iload_n 2, 1) := by decide +kernel
theorem d_Le_lower_5 : decode b_Le_lower 5 = .ok (.iconst (-1), 1) := by decide +kernel
theorem d_Le_lower_6 : decode b_Le_lower 6 = .ok (.if_icmp .eq 17, 3) := by decide +kernel
theorem d_Le_lower_9 : decode b_Le_lower 9 = .ok (.iload_n 3, 1) := by decide +kernel
theorem d_Le_lower_10 : decode b_Le_lower 10 = .ok (.iconst (-1), 1) := by decide +kernel
theorem d_Le_lower_11 : decode b_Le_lower 11 = .ok (.if_icmp .eq 8, 3) := by decide +kernel
theorem d_Le_lower_14 : decode b_Le_lower 14 = .ok (.iload_n 2, 1) := by decide +kernel
theorem d_Le_lower_15 : decode b_Le_lower 15 = .ok (.iload_n 3, 1) := by decide +kernel
theorem d_Le_lower_16 : decode b_Le_lower 16 = .ok (.if_icmp .ge 7, 3) := by decide +kernel
theorem d_Le_lower_19 : decode b_Le_lower 19 = .ok (.aload_n 0, 1) := by decide +kernel
theorem d_Le_lower_20 : decode b_Le_lower 20 = .ok (.iload_n 1, 1) := by decide +kernel
theorem d_Le_lower_21 : decode b_Le_lower 21 = .ok (.iload_n 2, 1) := by decide +kernel
theorem d_Le_lower_22 : decode b_Le_lower 22 = .ok (.iastore, 1) := by decide +kernel
theorem d_Le_lower_23 : decode b_Le_lower 23 = .ok (.return_, 1) := by decide +kernel
theorem d_Le_lowerAround_0 : decode b_Le_lowerAround 0 = .ok (.aload_n 0, 1) := by decide +kernel
theorem d_Le_lowerAround_1 : decode b_Le_lowerAround 1 = .ok (.getfield 15, 3) := by decide +kernel
theorem d_Le_lowerAround_4 : decode b_Le_lowerAround 4 = .ok (.aload_n 0, 1) := by decide +kernel
theorem d_Le_lowerAround_5 : decode b_Le_lowerAround 5 = .ok (.getfield 18, 3) := by decide +kernel
theorem d_Le_lowerAround_8 : decode b_Le_lowerAround 8 = .ok (.iload_n 1, 1) := by decide +kernel
theorem d_Le_lowerAround_9 : decode b_Le_lowerAround 9 = .ok (.invokevirtual 30, 3) := by decide +kernel
theorem d_Le_lowerAround_12 : decode b_Le_lowerAround 12 = .ok (.iaload, 1) := by decide +kernel
theorem d_Le_lowerAround_13 : decode b_Le_lowerAround 13 = .ok (.istore_n 2, 1) := by decide +kernel
theorem d_Le_lowerAround_14 : decode b_Le_lowerAround 14 = .ok (.iload_n 2, 1) := by decide +kernel
theorem d_Le_lowerAround_15 : decode b_Le_lowerAround 15 = .ok (.iconst (-1), 1) := by decide +kernel
theorem d_Le_lowerAround_16 : decode b_Le_lowerAround 16 = .ok (.if_icmp .ne 4, 3) := by decide +kernel
theorem d_Le_lowerAround_19 : decode b_Le_lowerAround 19 = .ok (.return_, 1) := by decide +kernel
theorem d_Le_lowerAround_20 : decode b_Le_lowerAround 20 = .ok (.iconst 0, 1) := by decide +kernel
theorem d_Le_lowerAround_21 : decode b_Le_lowerAround 21 = .ok (.istore_n 3, 1) := by decide +kernel
theorem d_Le_lowerAround_22 : decode b_Le_lowerAround 22 = .ok (.iload_n 3, 1) := by decide +kernel
theorem d_Le_lowerAround_23 : decode b_Le_lowerAround 23 = .ok (.aload_n 0, 1) := by decide +kernel
theorem d_Le_lowerAround_24 : decode b_Le_lowerAround 24 = .ok (.getfield 18, 3) := by decide +kernel
theorem d_Le_lowerAround_27 : decode b_Le_lowerAround 27 = .ok (.iload_n 1, 1) := by decide +kernel
theorem d_Le_lowerAround_28 : decode b_Le_lowerAround 28 = .ok (.invokevirtual 54, 3) := by decide +kernel
theorem d_Le_lowerAround_31 : decode b_Le_lowerAround 31 = .ok (.if_icmp .ge 55, 3) := by decide +kernel
theorem d_Le_lowerAround_34 : decode b_Le_lowerAround 34 = .ok (.aload_n 0, 1) := by decide +kernel
theorem d_Le_lowerAround_35 : decode b_Le_lowerAround 35 = .ok (.getfield 18, 3) := by decide +kernel
theorem d_Le_lowerAround_38 : decode b_Le_lowerAround 38 = .ok (.iload_n 1, 1) := by decide +kernel
theorem d_Le_lowerAround_39 : decode b_Le_lowerAround 39 = .ok (.iload_n 3, 1) := by decide +kernel
theorem d_Le_lowerAround_40 : decode b_Le_lowerAround 40 = .ok (.invokevirtual 57, 3) := by decide +kernel
theorem d_Le_lowerAround_43 : decode b_Le_lowerAround 43 = .ok (.istore 4, 2) := by decide +kernel
theorem d_Le_lowerAround_45 : decode b_Le_lowerAround 45 = .ok (.aload_n 0, 1) := by decide +kernel
theorem d_Le_lowerAround_46 : decode b_Le_lowerAround 46 = .ok (.iload_n 1, 1) := by decide +kernel
theorem d_Le_lowerAround_47 : decode b_Le_lowerAround 47 = .ok (.iload_n 3, 1) := by decide +kernel
theorem d_Le_lowerAround_48 : decode b_Le_lowerAround 48 = .ok (.invokevirtual 26, 3) := by decide +kernel
theorem d_Le_lowerAround_51 : decode b_Le_lowerAround 51 = .ok (.istore 5, 2) := by decide +kernel
theorem d_Le_lowerAround_53 : decode b_Le_lowerAround 53 = .ok (.iload 4, 2) := by decide +kernel
theorem d_Le_lowerAround_55 : decode b_Le_lowerAround 55 = .ok (.invokestatic 22, 3) := by decide +kernel
theorem d_Le_lowerAround_58 : decode b_Le_lowerAround 58 = .ok (.ifCond .eq 22, 3) := by decide +kernel
theorem d_Le_lowerAround_61 : decode b_Le_lowerAround 61 = .ok (.iload 5, 2) := by decide +kernel
theorem d_Le_lowerAround_63 : decode b_Le_lowerAround 63 = .ok (.iconst (-1), 1) := by decide +kernel
theorem d_Le_lowerAround_64 : decode b_Le_lowerAround 64 = .ok (.if_icmp .eq 16, 3) := by decide +kernel
theorem d_Le_lowerAround_67 : decode b_Le_lowerAround 67 = .ok (.aload_n 0, 1) := by decide +kernel
theorem d_Le_lowerAround_68 : decode b_Le_lowerAround 68 = .ok (.getfield 15, 3) := by decide +kernel
theorem d_Le_lowerAround_71 : decode b_Le_lowerAround 71 = .ok (.iload 4, 2) := by decide +kernel
theorem d_Le_lowerAround_73 : decode b_Le_lowerAround 73 = .ok (.iload_n 2, 1) := by decide +kernel
theorem d_Le_lowerAround_74 : decode b_Le_lowerAround 74 = .ok (.iload 5, 2) := by decide +kernel
theorem d_Le_lowerAround_76 : decode b_Le_lowerAround 76 = .ok (.iadd, 1) := by decide +kernel
theorem d_Le_lowerAround_77 : decode b_Le_lowerAround 77 = .ok (.invokestatic 46, 3) := by decide +kernel
theorem d_Le_lowerAround_80 : decode b_Le_lowerAround 80 = .ok (.iinc 3 1, 3) := by decide +kernel
theorem d_Le_lowerAround_83 : decode b_Le_lowerAround 83 = .ok (.goto (-61), 3) := by decide +kernel
theorem d_Le_lowerAround_86 : decode b_Le_lowerAround 86 = .ok (.return_, 1) := by decide +kernel
theorem d_Li_init_0 : decode b_Li_init 0 = .ok (.aload_n 0, 1) := by decide +kernel
theorem d_Li_init_1 : decode b_Li_init 1 = .ok (.invokespecial 3, 3) := by decide +kernel
theorem d_Li_init_4 : decode b_Li_init 4 = .ok (.aload_n 0, 1) := by decide +kernel
theorem d_Li_init_5 : decode b_Li_init 5 = .ok (.sipush 200, 3) := by decide +kernel
theorem d_Li_init_8 : decode b_Li_init 8 = .ok (.newarray .int, 2) := by decide +kernel
theorem d_Li_init_10 : decode b_Li_init 10 = .ok (.putfield 9, 3) := by decide +kernel
theorem d_Li_init_13 : decode b_Li_init 13 = .ok (.aload_n 0, 1) := by decide +kernel
theorem d_Li_init_14 : decode b_Li_init 14 = .ok (.aload_n 1, 1) := by decide +kernel
theorem d_Li_init_15 : decode b_Li_init 15 = .ok (.putfield 15, 3) := by decide +kernel
theorem d_Li_init_18 : decode b_Li_init 18 = .ok (.aload_n 0, 1) := by decide +kernel
theorem d_Li_init_19 : decode b_Li_init 19 = .ok (.aload_n 2, 1) := by decide +kernel
theorem d_Li_init_20 : decode b_Li_init 20 = .ok (.putfield 19, 3) := by decide +kernel
theorem d_Li_init_23 : decode b_Li_init 23 = .ok (.aload_n 0, 1) := by decide +kernel
theorem d_Li_init_24 : decode b_Li_init 24 = .ok (.aload_n 3, 1) := by decide +kernel
theorem d_Li_init_25 : decode b_Li_init 25 = .ok (.putfield 23, 3) := by decide +kernel
theorem d_Li_init_28 : decode b_Li_init 28 = .ok (.return_, 1) := by decide +kernel
theorem d_Li_add_0 : decode b_Li_add 0 = .ok (.aload_n 0, 1) := by decide +kernel
theorem d_Li_add_1 : decode b_Li_add 1 = .ok (.getfield 27, 3) := by decide +kernel
theorem d_Li_add_4 : decode b_Li_add 4 = .ok (.sipush 200, 3) := by decide +kernel
theorem d_Li_add_7 : decode b_Li_add 7 = .ok (.if_icmp .lt 5, 3) := by decide +kernel
theorem d_Li_add_10 : decode b_Li_add 10 = .ok (.iconst (-1), 1) := by decide +kernel
theorem d_Li_add_11 : decode b_Li_add 11 = .ok (.ireturn, 1) := by decide +kernel
theorem d_Li_add_12 : decode b_Li_add 12 = .ok (.aload_n 0, 1) := by decide +kernel
theorem d_Li_add_13 : decode b_Li_add 13 = .ok (.getfield 9, 3) := by decide +kernel
theorem d_Li_add_16 : decode b_Li_add 16 = .ok (.aload_n 0, 1) := by decide +kernel
theorem d_Li_add_17 : decode b_Li_add 17 = .ok (.getfield 27, 3) := by decide +kernel
theorem d_Li_add_20 : decode b_Li_add 20 = .ok (.iload_n 1, 1) := by decide +kernel
theorem d_Li_add_21 : decode b_Li_add 21 = .ok (.iastore, 1) := by decide +kernel
theorem d_Li_add_22 : decode b_Li_add 22 = .ok (.aload_n 0, 1) := by decide +kernel
theorem d_Li_add_23 : decode b_Li_add 23 = .ok (.dup, 1) := by decide +kernel
theorem d_Li_add_24 : decode b_Li_add 24 = .ok (.getfield 27, 3) := by decide +kernel
theorem d_Li_add_27 : decode b_Li_add 27 = .ok (.iconst 1, 1) := by decide +kernel
theorem d_Li_add_28 : decode b_Li_add 28 = .ok (.iadd, 1) := by decide +kernel
theorem d_Li_add_29 : decode b_Li_add 29 = .ok (.putfield 27, 3) := by decide +kernel
theorem d_Li_add_32 : decode b_Li_add 32 = .ok (.aload_n 0, 1) := by decide +kernel
theorem d_Li_add_33 : decode b_Li_add 33 = .ok (.getfield 27, 3) := by decide +kernel
theorem d_Li_add_36 : decode b_Li_add 36 = .ok (.ireturn, 1) := by decide +kernel
theorem d_Li_fold_0 : decode b_Li_fold 0 = .ok (.iconst 0, 1) := by decide +kernel
theorem d_Li_fold_1 : decode b_Li_fold 1 = .ok (.istore_n 2, 1) := by decide +kernel
theorem d_Li_fold_2 : decode b_Li_fold 2 = .ok (.aload_n 0, 1) := by decide +kernel
theorem d_Li_fold_3 : decode b_Li_fold 3 = .ok (.getfield 23, 3) := by decide +kernel
theorem d_Li_fold_6 : decode b_Li_fold 6 = .ok (.getfield 45, 3) := by decide +kernel
theorem d_Li_fold_9 : decode b_Li_fold 9 = .ok (.istore_n 3, 1) := by decide +kernel
theorem d_Li_fold_10 : decode b_Li_fold 10 = .ok (.iconst 0, 1) := by decide +kernel
theorem d_Li_fold_11 : decode b_Li_fold 11 = .ok (.istore 4, 2) := by decide +kernel
theorem d_Li_fold_13 : decode b_Li_fold 13 = .ok (.iload 4, 2) := by decide +kernel
theorem d_Li_fold_15 : decode b_Li_fold 15 = .ok (.aload_n 0, 1) := by decide +kernel
theorem d_Li_fold_16 : decode b_Li_fold 16 = .ok (.getfield 15, 3) := by decide +kernel
theorem d_Li_fold_19 : decode b_Li_fold 19 = .ok (.iload_n 1, 1) := by decide +kernel
theorem d_Li_fold_20 : decode b_Li_fold 20 = .ok (.invokevirtual 64, 3) := by decide +kernel
theorem d_Li_fold_23 : decode b_Li_fold 23 = .ok (.if_icmp .ge 70, 3) := by decide +kernel
theorem d_Li_fold_26 : decode b_Li_fold 26 = .ok (.aload_n 0, 1) := by decide +kernel
theorem d_Li_fold_27 : decode b_Li_fold 27 = .ok (.getfield 15, 3) := by decide +kernel
theorem d_Li_fold_30 : decode b_Li_fold 30 = .ok (.iload_n 1, 1) := by decide +kernel
theorem d_Li_fold_31 : decode b_Li_fold 31 = .ok (.iload 4, 2) := by decide +kernel
theorem d_Li_fold_33 : decode b_Li_fold 33 = .ok (.invokevirtual 71, 3) := by decide +kernel
theorem d_Li_fold_36 : decode b_Li_fold 36 = .ok (.istore 5, 2) := by decide +kernel
theorem d_Li_fold_38 : decode b_Li_fold 38 = .ok (.iload 5, 2) := by decide +kernel
theorem d_Li_fold_40 : decode b_Li_fold 40 = .ok (.invokestatic 75, 3) := by decide +kernel
theorem d_Li_fold_43 : decode b_Li_fold 43 = .ok (.ifCond .ne 9, 3) := by decide +kernel
theorem d_Li_fold_46 : decode b_Li_fold 46 = .ok (.iinc 2 1, 3) := by decide +kernel
theorem d_Li_fold_49 : decode b_Li_fold 49 = .ok (.goto 38, 3) := by decide +kernel
theorem d_Li_fold_52 : decode b_Li_fold 52 = .ok (.iinc 3 (-1), 3) := by decide +kernel
theorem d_Li_fold_55 : decode b_Li_fold 55 = .ok (.iload_n 3, 1) := by decide +kernel
theorem d_Li_fold_56 : decode b_Li_fold 56 = .ok (.ifCond .lt 17, 3) := by decide +kernel
theorem d_Li_fold_59 : decode b_Li_fold 59 = .ok (.aload_n 0, 1) := by decide +kernel
theorem d_Li_fold_60 : decode b_Li_fold 60 = .ok (.getfield 23, 3) := by decide +kernel
theorem d_Li_fold_63 : decode b_Li_fold 63 = .ok (.getfield 52, 3) := by decide +kernel
theorem d_Li_fold_66 : decode b_Li_fold 66 = .ok (.iload_n 3, 1) := by decide +kernel
theorem d_Li_fold_67 : decode b_Li_fold 67 = .ok (.iaload, 1) := by decide +kernel
theorem d_Li_fold_68 : decode b_Li_fold 68 = .ok (.iload 5, 2) := by decide +kernel
end
section
theorem d_Li_fold_70 : decode b_Li_fold 70 = .ok (.if_icmp .eq 5, 3) := by decide +kernel
theorem d_Li_fold_73 : decode b_Li_fold 73 = .ok (.iconst 0, 1) := by decide +kernel
theorem d_Li_fold_74 : decode b_Li_fold 74 = .ok (.ireturn, 1) := by decide +kernel
theorem d_Li_fold_75 : decode b_Li_fold 75 = .ok (.iload_n 2, 1) := by decide +kernel
theorem d_Li_fold_76 : decode b_Li_fold 76 = .ok (.aload_n 0, 1) := by decide +kernel
theorem d_Li_fold_77 : decode b_Li_fold 77 = .ok (.getfield 23, 3) := by decide +kernel
theorem d_Li_fold_80 : decode b_Li_fold 80 = .ok (.getfield 78, 3) := by decide +kernel
theorem d_Li_fold_83 : decode b_Li_fold 83 = .ok (.iload_n 3, 1) := by decide +kernel
theorem d_Li_fold_84 : decode b_Li_fold 84 = .ok (.iaload, 1) := by decide +kernel
theorem d_Li_fold_85 : decode b_Li_fold 85 = .ok (.iadd, 1) := by decide +kernel
theorem d_Li_fold_86 : decode b_Li_fold 86 = .ok (.istore_n 2, 1) := by decide +kernel
theorem d_Li_fold_87 : decode b_Li_fold 87 = .ok (.iinc 4 1, 3) := by decide +kernel
theorem d_Li_fold_90 : decode b_Li_fold 90 = .ok (.goto (-77), 3) := by decide +kernel
theorem d_Li_fold_93 : decode b_Li_fold 93 = .ok (.aload_n 0, 1) := by decide +kernel
theorem d_Li_fold_94 : decode b_Li_fold 94 = .ok (.iload_n 1, 1) := by decide +kernel
theorem d_Li_fold_95 : decode b_Li_fold 95 = .ok (.iload_n 2, 1) := by decide +kernel
theorem d_Li_fold_96 : decode b_Li_fold 96 = .ok (.invokevirtual 81, 3) := by decide +kernel
theorem d_Li_fold_99 : decode b_Li_fold 99 = .ok (.aload_n 0, 1) := by decide +kernel
theorem d_Li_fold_100 : decode b_Li_fold 100 = .ok (.iload_n 1, 1) := by decide +kernel
theorem d_Li_fold_101 : decode b_Li_fold 101 = .ok (.iload_n 2, 1) := by decide +kernel
theorem d_Li_fold_102 : decode b_Li_fold 102 = .ok (.invokevirtual 84, 3) := by decide +kernel
theorem d_Li_fold_105 : decode b_Li_fold 105 = .ok (.ladd, 1) := by decide +kernel
theorem d_Li_fold_106 : decode b_Li_fold 106 = .ok (.lstore 4, 2) := by decide +kernel
theorem d_Li_fold_108 : decode b_Li_fold 108 = .ok (.aload_n 0, 1) := by decide +kernel
theorem d_Li_fold_109 : decode b_Li_fold 109 = .ok (.getfield 23, 3) := by decide +kernel
theorem d_Li_fold_112 : decode b_Li_fold 112 = .ok (.iload_n 3, 1) := by decide +kernel
theorem d_Li_fold_113 : decode b_Li_fold 113 = .ok (.aload_n 0, 1) := by decide +kernel
theorem d_Li_fold_114 : decode b_Li_fold 114 = .ok (.getfield 15, 3) := by decide +kernel
theorem d_Li_fold_117 : decode b_Li_fold 117 = .ok (.iload_n 1, 1) := by decide +kernel
theorem d_Li_fold_118 : decode b_Li_fold 118 = .ok (.invokevirtual 87, 3) := by decide +kernel
theorem d_Li_fold_121 : decode b_Li_fold 121 = .ok (.iload_n 2, 1) := by decide +kernel
theorem d_Li_fold_122 : decode b_Li_fold 122 = .ok (.lload 4, 2) := by decide +kernel
theorem d_Li_fold_124 : decode b_Li_fold 124 = .ok (.invokevirtual 90, 3) := by decide +kernel
theorem d_Li_fold_127 : decode b_Li_fold 127 = .ok (.aload_n 0, 1) := by decide +kernel
theorem d_Li_fold_128 : decode b_Li_fold 128 = .ok (.getfield 23, 3) := by decide +kernel
theorem d_Li_fold_131 : decode b_Li_fold 131 = .ok (.iload_n 3, 1) := by decide +kernel
theorem d_Li_fold_132 : decode b_Li_fold 132 = .ok (.iconst 1, 1) := by decide +kernel
theorem d_Li_fold_133 : decode b_Li_fold 133 = .ok (.iadd, 1) := by decide +kernel
theorem d_Li_fold_134 : decode b_Li_fold 134 = .ok (.putfield 45, 3) := by decide +kernel
theorem d_Li_fold_137 : decode b_Li_fold 137 = .ok (.iconst 1, 1) := by decide +kernel
theorem d_Li_fold_138 : decode b_Li_fold 138 = .ok (.ireturn, 1) := by decide +kernel
theorem d_Li_numberInRule_0 : decode b_Li_numberInRule 0 = .ok (.lconst 0, 1) := by decide +kernel
theorem d_Li_numberInRule_1 : decode b_Li_numberInRule 1 = .ok (.lstore_n 3, 1) := by decide +kernel
theorem d_Li_numberInRule_2 : decode b_Li_numberInRule 2 = .ok (.iload_n 2, 1) := by decide +kernel
theorem d_Li_numberInRule_3 : decode b_Li_numberInRule 3 = .ok (.istore 5, 2) := by decide +kernel
theorem d_Li_numberInRule_5 : decode b_Li_numberInRule 5 = .ok (.aload_n 0, 1) := by decide +kernel
theorem d_Li_numberInRule_6 : decode b_Li_numberInRule 6 = .ok (.getfield 23, 3) := by decide +kernel
theorem d_Li_numberInRule_9 : decode b_Li_numberInRule 9 = .ok (.getfield 45, 3) := by decide +kernel
theorem d_Li_numberInRule_12 : decode b_Li_numberInRule 12 = .ok (.istore 6, 2) := by decide +kernel
theorem d_Li_numberInRule_14 : decode b_Li_numberInRule 14 = .ok (.iconst 0, 1) := by decide +kernel
theorem d_Li_numberInRule_15 : decode b_Li_numberInRule 15 = .ok (.istore 7, 2) := by decide +kernel
theorem d_Li_numberInRule_17 : decode b_Li_numberInRule 17 = .ok (.iload 7, 2) := by decide +kernel
theorem d_Li_numberInRule_19 : decode b_Li_numberInRule 19 = .ok (.aload_n 0, 1) := by decide +kernel
theorem d_Li_numberInRule_20 : decode b_Li_numberInRule 20 = .ok (.getfield 15, 3) := by decide +kernel
theorem d_Li_numberInRule_23 : decode b_Li_numberInRule 23 = .ok (.iload_n 1, 1) := by decide +kernel
theorem d_Li_numberInRule_24 : decode b_Li_numberInRule 24 = .ok (.invokevirtual 64, 3) := by decide +kernel
theorem d_Li_numberInRule_27 : decode b_Li_numberInRule 27 = .ok (.if_icmp .ge 118, 3) := by decide +kernel
theorem d_Li_numberInRule_30 : decode b_Li_numberInRule 30 = .ok (.iconst 1, 1) := by decide +kernel
theorem d_Li_numberInRule_31 : decode b_Li_numberInRule 31 = .ok (.istore 8, 2) := by decide +kernel
theorem d_Li_numberInRule_33 : decode b_Li_numberInRule 33 = .ok (.lconst 0, 1) := by decide +kernel
theorem d_Li_numberInRule_34 : decode b_Li_numberInRule 34 = .ok (.lstore 9, 2) := by decide +kernel
theorem d_Li_numberInRule_36 : decode b_Li_numberInRule 36 = .ok (.aload_n 0, 1) := by decide +kernel
theorem d_Li_numberInRule_37 : decode b_Li_numberInRule 37 = .ok (.getfield 15, 3) := by decide +kernel
theorem d_Li_numberInRule_40 : decode b_Li_numberInRule 40 = .ok (.iload_n 1, 1) := by decide +kernel
theorem d_Li_numberInRule_41 : decode b_Li_numberInRule 41 = .ok (.iload 7, 2) := by decide +kernel
theorem d_Li_numberInRule_43 : decode b_Li_numberInRule 43 = .ok (.invokevirtual 71, 3) := by decide +kernel
theorem d_Li_numberInRule_46 : decode b_Li_numberInRule 46 = .ok (.invokestatic 75, 3) := by decide +kernel
theorem d_Li_numberInRule_49 : decode b_Li_numberInRule 49 = .ok (.ifCond .eq 30, 3) := by decide +kernel
theorem d_Li_numberInRule_52 : decode b_Li_numberInRule 52 = .ok (.iinc 6 (-1), 3) := by decide +kernel
theorem d_Li_numberInRule_55 : decode b_Li_numberInRule 55 = .ok (.aload_n 0, 1) := by decide +kernel
theorem d_Li_numberInRule_56 : decode b_Li_numberInRule 56 = .ok (.getfield 23, 3) := by decide +kernel
theorem d_Li_numberInRule_59 : decode b_Li_numberInRule 59 = .ok (.getfield 78, 3) := by decide +kernel
theorem d_Li_numberInRule_62 : decode b_Li_numberInRule 62 = .ok (.iload 6, 2) := by decide +kernel
theorem d_Li_numberInRule_64 : decode b_Li_numberInRule 64 = .ok (.iaload, 1) := by decide +kernel
theorem d_Li_numberInRule_65 : decode b_Li_numberInRule 65 = .ok (.istore 8, 2) := by decide +kernel
theorem d_Li_numberInRule_67 : decode b_Li_numberInRule 67 = .ok (.aload_n 0, 1) := by decide +kernel
theorem d_Li_numberInRule_68 : decode b_Li_numberInRule 68 = .ok (.getfield 23, 3) := by decide +kernel
theorem d_Li_numberInRule_71 : decode b_Li_numberInRule 71 = .ok (.getfield 55, 3) := by decide +kernel
theorem d_Li_numberInRule_74 : decode b_Li_numberInRule 74 = .ok (.iload 6, 2) := by decide +kernel
theorem d_Li_numberInRule_76 : decode b_Li_numberInRule 76 = .ok (.laload, 1) := by decide +kernel
theorem d_Li_numberInRule_77 : decode b_Li_numberInRule 77 = .ok (.lstore 9, 2) := by decide +kernel
theorem d_Li_numberInRule_79 : decode b_Li_numberInRule 79 = .ok (.iconst 0, 1) := by decide +kernel
theorem d_Li_numberInRule_80 : decode b_Li_numberInRule 80 = .ok (.istore 11, 2) := by decide +kernel
theorem d_Li_numberInRule_82 : decode b_Li_numberInRule 82 = .ok (.iload 11, 2) := by decide +kernel
theorem d_Li_numberInRule_84 : decode b_Li_numberInRule 84 = .ok (.iload 8, 2) := by decide +kernel
theorem d_Li_numberInRule_86 : decode b_Li_numberInRule 86 = .ok (.if_icmp .ge 26, 3) := by decide +kernel
theorem d_Li_numberInRule_89 : decode b_Li_numberInRule 89 = .ok (.lload_n 3, 1) := by decide +kernel
theorem d_Li_numberInRule_90 : decode b_Li_numberInRule 90 = .ok (.aload_n 0, 1) := by decide +kernel
theorem d_Li_numberInRule_91 : decode b_Li_numberInRule 91 = .ok (.getfield 19, 3) := by decide +kernel
theorem d_Li_numberInRule_94 : decode b_Li_numberInRule 94 = .ok (.iload_n 1, 1) := by decide +kernel
theorem d_Li_numberInRule_95 : decode b_Li_numberInRule 95 = .ok (.iload 7, 2) := by decide +kernel
theorem d_Li_numberInRule_97 : decode b_Li_numberInRule 97 = .ok (.iload 11, 2) := by decide +kernel
theorem d_Li_numberInRule_99 : decode b_Li_numberInRule 99 = .ok (.iload 5, 2) := by decide +kernel
theorem d_Li_numberInRule_101 : decode b_Li_numberInRule 101 = .ok (.invokevirtual 98, 3) := by decide +kernel
theorem d_Li_numberInRule_104 : decode b_Li_numberInRule 104 = .ok (.ladd, 1) := by decide +kernel
theorem d_Li_numberInRule_105 : decode b_Li_numberInRule 105 = .ok (.lstore_n 3, 1) := by decide +kernel
theorem d_Li_numberInRule_106 : decode b_Li_numberInRule 106 = .ok (.iinc 11 1, 3) := by decide +kernel
theorem d_Li_numberInRule_109 : decode b_Li_numberInRule 109 = .ok (.goto (-27), 3) := by decide +kernel
theorem d_Li_numberInRule_112 : decode b_Li_numberInRule 112 = .ok (.iload 5, 2) := by decide +kernel
theorem d_Li_numberInRule_114 : decode b_Li_numberInRule 114 = .ok (.iload 8, 2) := by decide +kernel
theorem d_Li_numberInRule_116 : decode b_Li_numberInRule 116 = .ok (.isub, 1) := by decide +kernel
theorem d_Li_numberInRule_117 : decode b_Li_numberInRule 117 = .ok (.istore 5, 2) := by decide +kernel
theorem d_Li_numberInRule_119 : decode b_Li_numberInRule 119 = .ok (.lload_n 3, 1) := by decide +kernel
theorem d_Li_numberInRule_120 : decode b_Li_numberInRule 120 = .ok (.lload 9, 2) := by decide +kernel
theorem d_Li_numberInRule_122 : decode b_Li_numberInRule 122 = .ok (.aload_n 0, 1) := by decide +kernel
theorem d_Li_numberInRule_123 : decode b_Li_numberInRule 123 = .ok (.getfield 19, 3) := by decide +kernel
theorem d_Li_numberInRule_126 : decode b_Li_numberInRule 126 = .ok (.iload_n 1, 1) := by decide +kernel
theorem d_Li_numberInRule_127 : decode b_Li_numberInRule 127 = .ok (.iload 7, 2) := by decide +kernel
theorem d_Li_numberInRule_129 : decode b_Li_numberInRule 129 = .ok (.iconst 1, 1) := by decide +kernel
theorem d_Li_numberInRule_130 : decode b_Li_numberInRule 130 = .ok (.iadd, 1) := by decide +kernel
theorem d_Li_numberInRule_131 : decode b_Li_numberInRule 131 = .ok (.iload 5, 2) := by decide +kernel
theorem d_Li_numberInRule_133 : decode b_Li_numberInRule 133 = .ok (.invokevirtual 94, 3) := by decide +kernel
theorem d_Li_numberInRule_136 : decode b_Li_numberInRule 136 = .ok (.lmul, 1) := by decide +kernel
theorem d_Li_numberInRule_137 : decode b_Li_numberInRule 137 = .ok (.ladd, 1) := by decide +kernel
theorem d_Li_numberInRule_138 : decode b_Li_numberInRule 138 = .ok (.lstore_n 3, 1) := by decide +kernel
theorem d_Li_numberInRule_139 : decode b_Li_numberInRule 139 = .ok (.iinc 7 1, 3) := by decide +kernel
theorem d_Li_numberInRule_142 : decode b_Li_numberInRule 142 = .ok (.goto (-125), 3) := by decide +kernel
theorem d_Li_numberInRule_145 : decode b_Li_numberInRule 145 = .ok (.lload_n 3, 1) := by decide +kernel
theorem d_Li_numberInRule_146 : decode b_Li_numberInRule 146 = .ok (.lreturn, 1) := by decide +kernel
theorem d_Li_numberOf_0 : decode b_Li_numberOf 0 = .ok (.aload_n 0, 1) := by decide +kernel
theorem d_Li_numberOf_1 : decode b_Li_numberOf 1 = .ok (.invokevirtual 31, 3) := by decide +kernel
theorem d_Li_numberOf_4 : decode b_Li_numberOf 4 = .ok (.istore_n 2, 1) := by decide +kernel
theorem d_Li_numberOf_5 : decode b_Li_numberOf 5 = .ok (.iload_n 2, 1) := by decide +kernel
theorem d_Li_numberOf_6 : decode b_Li_numberOf 6 = .ok (.iconst (-1), 1) := by decide +kernel
theorem d_Li_numberOf_7 : decode b_Li_numberOf 7 = .ok (.if_icmp .eq 25, 3) := by decide +kernel
theorem d_Li_numberOf_10 : decode b_Li_numberOf 10 = .ok (.iload_n 2, 1) := by decide +kernel
theorem d_Li_numberOf_11 : decode b_Li_numberOf 11 = .ok (.bipush 16, 2) := by decide +kernel
theorem d_Li_numberOf_13 : decode b_Li_numberOf 13 = .ok (.if_icmp .gt 19, 3) := by decide +kernel
theorem d_Li_numberOf_16 : decode b_Li_numberOf 16 = .ok (.aload_n 0, 1) := by decide +kernel
theorem d_Li_numberOf_17 : decode b_Li_numberOf 17 = .ok (.getfield 19, 3) := by decide +kernel
theorem d_Li_numberOf_20 : decode b_Li_numberOf 20 = .ok (.iload_n 1, 1) := by decide +kernel
theorem d_Li_numberOf_21 : decode b_Li_numberOf 21 = .ok (.iload_n 2, 1) := by decide +kernel
theorem d_Li_numberOf_22 : decode b_Li_numberOf 22 = .ok (.invokevirtual 35, 3) := by decide +kernel
theorem d_Li_numberOf_25 : decode b_Li_numberOf 25 = .ok (.ldc2_w 41, 3) := by decide +kernel
theorem d_Li_numberOf_28 : decode b_Li_numberOf 28 = .ok (.lcmp, 1) := by decide +kernel
theorem d_Li_numberOf_29 : decode b_Li_numberOf 29 = .ok (.ifCond .le 7, 3) := by decide +kernel
theorem d_Li_numberOf_32 : decode b_Li_numberOf 32 = .ok (.ldc2_w 43, 3) := by decide +kernel
theorem d_Li_numberOf_35 : decode b_Li_numberOf 35 = .ok (.lreturn, 1) := by decide +kernel
theorem d_Li_numberOf_36 : decode b_Li_numberOf 36 = .ok (.aload_n 0, 1) := by decide +kernel
theorem d_Li_numberOf_37 : decode b_Li_numberOf 37 = .ok (.getfield 23, 3) := by decide +kernel
theorem d_Li_numberOf_40 : decode b_Li_numberOf 40 = .ok (.iconst 0, 1) := by decide +kernel
theorem d_Li_numberOf_41 : decode b_Li_numberOf 41 = .ok (.putfield 45, 3) := by decide +kernel
theorem d_Li_numberOf_44 : decode b_Li_numberOf 44 = .ok (.aload_n 0, 1) := by decide +kernel
theorem d_Li_numberOf_45 : decode b_Li_numberOf 45 = .ok (.getfield 27, 3) := by decide +kernel
theorem d_Li_numberOf_48 : decode b_Li_numberOf 48 = .ok (.iconst 1, 1) := by decide +kernel
theorem d_Li_numberOf_49 : decode b_Li_numberOf 49 = .ok (.isub, 1) := by decide +kernel
theorem d_Li_numberOf_50 : decode b_Li_numberOf 50 = .ok (.istore_n 3, 1) := by decide +kernel
theorem d_Li_numberOf_51 : decode b_Li_numberOf 51 = .ok (.iload_n 3, 1) := by decide +kernel
theorem d_Li_numberOf_52 : decode b_Li_numberOf 52 = .ok (.ifCond .lt 26, 3) := by decide +kernel
theorem d_Li_numberOf_55 : decode b_Li_numberOf 55 = .ok (.aload_n 0, 1) := by decide +kernel
theorem d_Li_numberOf_56 : decode b_Li_numberOf 56 = .ok (.aload_n 0, 1) := by decide +kernel
theorem d_Li_numberOf_57 : decode b_Li_numberOf 57 = .ok (.getfield 9, 3) := by decide +kernel
theorem d_Li_numberOf_60 : decode b_Li_numberOf 60 = .ok (.iload_n 3, 1) := by decide +kernel
theorem d_Li_numberOf_61 : decode b_Li_numberOf 61 = .ok (.iaload, 1) := by decide +kernel
theorem d_Li_numberOf_62 : decode b_Li_numberOf 62 = .ok (.invokevirtual 48, 3) := by decide +kernel
theorem d_Li_numberOf_65 : decode b_Li_numberOf 65 = .ok (.ifCond .ne 7, 3) := by decide +kernel
theorem d_Li_numberOf_68 : decode b_Li_numberOf 68 = .ok (.ldc2_w 43, 3) := by decide +kernel
theorem d_Li_numberOf_71 : decode b_Li_numberOf 71 = .ok (.lreturn, 1) := by decide +kernel
theorem d_Li_numberOf_72 : decode b_Li_numberOf 72 = .ok (.iinc 3 (-1), 3) := by decide +kernel
theorem d_Li_numberOf_75 : decode b_Li_numberOf 75 = .ok (.goto (-24), 3) := by decide +kernel
theorem d_Li_numberOf_78 : decode b_Li_numberOf 78 = .ok (.aload_n 0, 1) := by decide +kernel
theorem d_Li_numberOf_79 : decode b_Li_numberOf 79 = .ok (.getfield 23, 3) := by decide +kernel
theorem d_Li_numberOf_82 : decode b_Li_numberOf 82 = .ok (.getfield 45, 3) := by decide +kernel
theorem d_Li_numberOf_85 : decode b_Li_numberOf 85 = .ok (.iconst 1, 1) := by decide +kernel
theorem d_Li_numberOf_86 : decode b_Li_numberOf 86 = .ok (.if_icmp .ne 28, 3) := by decide +kernel
theorem d_Li_numberOf_89 : decode b_Li_numberOf 89 = .ok (.aload_n 0, 1) := by decide +kernel
theorem d_Li_numberOf_90 : decode b_Li_numberOf 90 = .ok (.getfield 23, 3) := by decide +kernel
theorem d_Li_numberOf_93 : decode b_Li_numberOf 93 = .ok (.getfield 52, 3) := by decide +kernel
theorem d_Li_numberOf_96 : decode b_Li_numberOf 96 = .ok (.iconst 0, 1) := by decide +kernel
theorem d_Li_numberOf_97 : decode b_Li_numberOf 97 = .ok (.iaload, 1) := by decide +kernel
theorem d_Li_numberOf_98 : decode b_Li_numberOf 98 = .ok (.iload_n 1, 1) := by decide +kernel
theorem d_Li_numberOf_99 : decode b_Li_numberOf 99 = .ok (.if_icmp .ne 15, 3) := by decide +kernel
theorem d_Li_numberOf_102 : decode b_Li_numberOf 102 = .ok (.aload_n 0, 1) := by decide +kernel
theorem d_Li_numberOf_103 : decode b_Li_numberOf 103 = .ok (.getfield 23, 3) := by decide +kernel
theorem d_Li_numberOf_106 : decode b_Li_numberOf 106 = .ok (.getfield 55, 3) := by decide +kernel
theorem d_Li_numberOf_109 : decode b_Li_numberOf 109 = .ok (.iconst 0, 1) := by decide +kernel
theorem d_Li_numberOf_110 : decode b_Li_numberOf 110 = .ok (.laload, 1) := by decide +kernel
theorem d_Li_numberOf_111 : decode b_Li_numberOf 111 = .ok (.goto 6, 3) := by decide +kernel
theorem d_Li_numberOf_114 : decode b_Li_numberOf 114 = .ok (.ldc2_w 43, 3) := by decide +kernel
theorem d_Li_numberOf_117 : decode b_Li_numberOf 117 = .ok (.lreturn, 1) := by decide +kernel
theorem d_Li_terminals_0 : decode b_Li_terminals 0 = .ok (.iconst 0, 1) := by decide +kernel
theorem d_Li_terminals_1 : decode b_Li_terminals 1 = .ok (.istore_n 1, 1) := by decide +kernel
theorem d_Li_terminals_2 : decode b_Li_terminals 2 = .ok (.iconst 0, 1) := by decide +kernel
theorem d_Li_terminals_3 : decode b_Li_terminals 3 = .ok (.istore_n 2, 1) := by decide +kernel
theorem d_Li_terminals_4 : decode b_Li_terminals 4 = .ok (.iload_n 2, 1) := by decide +kernel
theorem d_Li_terminals_5 : decode b_Li_terminals 5 = .ok (.aload_n 0, 1) := by decide +kernel
theorem d_Li_terminals_6 : decode b_Li_terminals 6 = .ok (.getfield 27, 3) := by decide +kernel
theorem d_Li_terminals_9 : decode b_Li_terminals 9 = .ok (.if_icmp .ge 57, 3) := by decide +kernel
theorem d_Li_terminals_12 : decode b_Li_terminals 12 = .ok (.aload_n 0, 1) := by decide +kernel
theorem d_Li_terminals_13 : decode b_Li_terminals 13 = .ok (.getfield 15, 3) := by decide +kernel
theorem d_Li_terminals_16 : decode b_Li_terminals 16 = .ok (.aload_n 0, 1) := by decide +kernel
theorem d_Li_terminals_17 : decode b_Li_terminals 17 = .ok (.getfield 9, 3) := by decide +kernel
theorem d_Li_terminals_20 : decode b_Li_terminals 20 = .ok (.iload_n 2, 1) := by decide +kernel
theorem d_Li_terminals_21 : decode b_Li_terminals 21 = .ok (.iaload, 1) := by decide +kernel
theorem d_Li_terminals_22 : decode b_Li_terminals 22 = .ok (.invokevirtual 59, 3) := by decide +kernel
theorem d_Li_terminals_25 : decode b_Li_terminals 25 = .ok (.ifCond .ne 5, 3) := by decide +kernel
theorem d_Li_terminals_28 : decode b_Li_terminals 28 = .ok (.iconst (-1), 1) := by decide +kernel
theorem d_Li_terminals_29 : decode b_Li_terminals 29 = .ok (.ireturn, 1) := by decide +kernel
theorem d_Li_terminals_30 : decode b_Li_terminals 30 = .ok (.iload_n 1, 1) := by decide +kernel
theorem d_Li_terminals_31 : decode b_Li_terminals 31 = .ok (.aload_n 0, 1) := by decide +kernel
theorem d_Li_terminals_32 : decode b_Li_terminals 32 = .ok (.getfield 15, 3) := by decide +kernel
theorem d_Li_terminals_35 : decode b_Li_terminals 35 = .ok (.aload_n 0, 1) := by decide +kernel
theorem d_Li_terminals_36 : decode b_Li_terminals 36 = .ok (.getfield 9, 3) := by decide +kernel
theorem d_Li_terminals_39 : decode b_Li_terminals 39 = .ok (.iload_n 2, 1) := by decide +kernel
theorem d_Li_terminals_40 : decode b_Li_terminals 40 = .ok (.iaload, 1) := by decide +kernel
theorem d_Li_terminals_41 : decode b_Li_terminals 41 = .ok (.invokevirtual 64, 3) := by decide +kernel
theorem d_Li_terminals_44 : decode b_Li_terminals 44 = .ok (.aload_n 0, 1) := by decide +kernel
theorem d_Li_terminals_45 : decode b_Li_terminals 45 = .ok (.getfield 15, 3) := by decide +kernel
theorem d_Li_terminals_48 : decode b_Li_terminals 48 = .ok (.aload_n 0, 1) := by decide +kernel
theorem d_Li_terminals_49 : decode b_Li_terminals 49 = .ok (.getfield 9, 3) := by decide +kernel
theorem d_Li_terminals_52 : decode b_Li_terminals 52 = .ok (.iload_n 2, 1) := by decide +kernel
theorem d_Li_terminals_53 : decode b_Li_terminals 53 = .ok (.iaload, 1) := by decide +kernel
theorem d_Li_terminals_54 : decode b_Li_terminals 54 = .ok (.invokevirtual 68, 3) := by decide +kernel
theorem d_Li_terminals_57 : decode b_Li_terminals 57 = .ok (.isub, 1) := by decide +kernel
theorem d_Li_terminals_58 : decode b_Li_terminals 58 = .ok (.iadd, 1) := by decide +kernel
theorem d_Li_terminals_59 : decode b_Li_terminals 59 = .ok (.istore_n 1, 1) := by decide +kernel
theorem d_Li_terminals_60 : decode b_Li_terminals 60 = .ok (.iinc 2 1, 3) := by decide +kernel
theorem d_Li_terminals_63 : decode b_Li_terminals 63 = .ok (.goto (-59), 3) := by decide +kernel
theorem d_Li_terminals_66 : decode b_Li_terminals 66 = .ok (.iload_n 1, 1) := by decide +kernel
theorem d_Li_terminals_67 : decode b_Li_terminals 67 = .ok (.ireturn, 1) := by decide +kernel
theorem d_Li_treesBefore_0 : decode b_Li_treesBefore 0 = .ok (.lconst 0, 1) := by decide +kernel
theorem d_Li_treesBefore_1 : decode b_Li_treesBefore 1 = .ok (.lstore_n 3, 1) := by decide +kernel
theorem d_Li_treesBefore_2 : decode b_Li_treesBefore 2 = .ok (.iconst 0, 1) := by decide +kernel
theorem d_Li_treesBefore_3 : decode b_Li_treesBefore 3 = .ok (.istore 5, 2) := by decide +kernel
theorem d_Li_treesBefore_5 : decode b_Li_treesBefore 5 = .ok (.iload 5, 2) := by decide +kernel
theorem d_Li_treesBefore_7 : decode b_Li_treesBefore 7 = .ok (.iload_n 1, 1) := by decide +kernel
theorem d_Li_treesBefore_8 : decode b_Li_treesBefore 8 = .ok (.if_icmp .ge 43, 3) := by decide +kernel
theorem d_Li_treesBefore_11 : decode b_Li_treesBefore 11 = .ok (.aload_n 0, 1) := by decide +kernel
theorem d_Li_treesBefore_12 : decode b_Li_treesBefore 12 = .ok (.getfield 15, 3) := by decide +kernel
theorem d_Li_treesBefore_15 : decode b_Li_treesBefore 15 = .ok (.iload 5, 2) := by decide +kernel
theorem d_Li_treesBefore_17 : decode b_Li_treesBefore 17 = .ok (.invokevirtual 87, 3) := by decide +kernel
theorem d_Li_treesBefore_20 : decode b_Li_treesBefore 20 = .ok (.aload_n 0, 1) := by decide +kernel
theorem d_Li_treesBefore_21 : decode b_Li_treesBefore 21 = .ok (.getfield 15, 3) := by decide +kernel
theorem d_Li_treesBefore_24 : decode b_Li_treesBefore 24 = .ok (.iload_n 1, 1) := by decide +kernel
theorem d_Li_treesBefore_25 : decode b_Li_treesBefore 25 = .ok (.invokevirtual 87, 3) := by decide +kernel
theorem d_Li_treesBefore_28 : decode b_Li_treesBefore 28 = .ok (.if_icmp .ne 17, 3) := by decide +kernel
theorem d_Li_treesBefore_31 : decode b_Li_treesBefore 31 = .ok (.lload_n 3, 1) := by decide +kernel
theorem d_Li_treesBefore_32 : decode b_Li_treesBefore 32 = .ok (.aload_n 0, 1) := by decide +kernel
theorem d_Li_treesBefore_33 : decode b_Li_treesBefore 33 = .ok (.getfield 19, 3) := by decide +kernel
theorem d_Li_treesBefore_36 : decode b_Li_treesBefore 36 = .ok (.iload 5, 2) := by decide +kernel
theorem d_Li_treesBefore_38 : decode b_Li_treesBefore 38 = .ok (.iconst 0, 1) := by decide +kernel
theorem d_Li_treesBefore_39 : decode b_Li_treesBefore 39 = .ok (.iload_n 2, 1) := by decide +kernel
theorem d_Li_treesBefore_40 : decode b_Li_treesBefore 40 = .ok (.invokevirtual 94, 3) := by decide +kernel
theorem d_Li_treesBefore_43 : decode b_Li_treesBefore 43 = .ok (.ladd, 1) := by decide +kernel
theorem d_Li_treesBefore_44 : decode b_Li_treesBefore 44 = .ok (.lstore_n 3, 1) := by decide +kernel
theorem d_Li_treesBefore_45 : decode b_Li_treesBefore 45 = .ok (.iinc 5 1, 3) := by decide +kernel
theorem d_Li_treesBefore_48 : decode b_Li_treesBefore 48 = .ok (.goto (-43), 3) := by decide +kernel
theorem d_Li_treesBefore_51 : decode b_Li_treesBefore 51 = .ok (.lload_n 3, 1) := by decide +kernel
theorem d_Li_treesBefore_52 : decode b_Li_treesBefore 52 = .ok (.lreturn, 1) := by decide +kernel
theorem d_Pi_init_0 : decode b_Pi_init 0 = .ok (.aload_n 0, 1) := by decide +kernel
end
section
theorem d_Pi_init_1 : decode b_Pi_init 1 = .ok (.invokespecial 3, 3) := by decide +kernel
theorem d_Pi_init_4 : decode b_Pi_init 4 = .ok (.aload_n 0, 1) := by decide +kernel
theorem d_Pi_init_5 : decode b_Pi_init 5 = .ok (.sipush 216, 3) := by decide +kernel
theorem d_Pi_init_8 : decode b_Pi_init 8 = .ok (.newarray .int, 2) := by decide +kernel
theorem d_Pi_init_10 : decode b_Pi_init 10 = .ok (.putfield 11, 3) := by decide +kernel
theorem d_Pi_init_13 : decode b_Pi_init 13 = .ok (.aload_n 0, 1) := by decide +kernel
theorem d_Pi_init_14 : decode b_Pi_init 14 = .ok (.sipush 216, 3) := by decide +kernel
theorem d_Pi_init_17 : decode b_Pi_init 17 = .ok (.newarray .int, 2) := by decide +kernel
theorem d_Pi_init_19 : decode b_Pi_init 19 = .ok (.putfield 15, 3) := by decide +kernel
theorem d_Pi_init_22 : decode b_Pi_init 22 = .ok (.aload_n 0, 1) := by decide +kernel
theorem d_Pi_init_23 : decode b_Pi_init 23 = .ok (.sipush 216, 3) := by decide +kernel
theorem d_Pi_init_26 : decode b_Pi_init 26 = .ok (.newarray .long, 2) := by decide +kernel
theorem d_Pi_init_28 : decode b_Pi_init 28 = .ok (.putfield 18, 3) := by decide +kernel
theorem d_Pi_init_31 : decode b_Pi_init 31 = .ok (.return_, 1) := by decide +kernel
theorem d_Pi_put_0 : decode b_Pi_put 0 = .ok (.iload_n 1, 1) := by decide +kernel
theorem d_Pi_put_1 : decode b_Pi_put 1 = .ok (.ifCond .lt 32, 3) := by decide +kernel
theorem d_Pi_put_4 : decode b_Pi_put 4 = .ok (.iload_n 1, 1) := by decide +kernel
theorem d_Pi_put_5 : decode b_Pi_put 5 = .ok (.sipush 216, 3) := by decide +kernel
theorem d_Pi_put_8 : decode b_Pi_put 8 = .ok (.if_icmp .ge 25, 3) := by decide +kernel
theorem d_Pi_put_11 : decode b_Pi_put 11 = .ok (.aload_n 0, 1) := by decide +kernel
theorem d_Pi_put_12 : decode b_Pi_put 12 = .ok (.getfield 11, 3) := by decide +kernel
theorem d_Pi_put_15 : decode b_Pi_put 15 = .ok (.iload_n 1, 1) := by decide +kernel
theorem d_Pi_put_16 : decode b_Pi_put 16 = .ok (.iload_n 2, 1) := by decide +kernel
theorem d_Pi_put_17 : decode b_Pi_put 17 = .ok (.iastore, 1) := by decide +kernel
theorem d_Pi_put_18 : decode b_Pi_put 18 = .ok (.aload_n 0, 1) := by decide +kernel
theorem d_Pi_put_19 : decode b_Pi_put 19 = .ok (.getfield 15, 3) := by decide +kernel
theorem d_Pi_put_22 : decode b_Pi_put 22 = .ok (.iload_n 1, 1) := by decide +kernel
theorem d_Pi_put_23 : decode b_Pi_put 23 = .ok (.iload_n 3, 1) := by decide +kernel
theorem d_Pi_put_24 : decode b_Pi_put 24 = .ok (.iastore, 1) := by decide +kernel
theorem d_Pi_put_25 : decode b_Pi_put 25 = .ok (.aload_n 0, 1) := by decide +kernel
theorem d_Pi_put_26 : decode b_Pi_put 26 = .ok (.getfield 18, 3) := by decide +kernel
theorem d_Pi_put_29 : decode b_Pi_put 29 = .ok (.iload_n 1, 1) := by decide +kernel
theorem d_Pi_put_30 : decode b_Pi_put 30 = .ok (.lload 4, 2) := by decide +kernel
theorem d_Pi_put_32 : decode b_Pi_put 32 = .ok (.lastore, 1) := by decide +kernel
theorem d_Pi_put_33 : decode b_Pi_put 33 = .ok (.return_, 1) := by decide +kernel
theorem d_We_init_0 : decode b_We_init 0 = .ok (.aload_n 0, 1) := by decide +kernel
theorem d_We_init_1 : decode b_We_init 1 = .ok (.invokespecial 3, 3) := by decide +kernel
theorem d_We_init_4 : decode b_We_init 4 = .ok (.aload_n 0, 1) := by decide +kernel
theorem d_We_init_5 : decode b_We_init 5 = .ok (.new 9, 3) := by decide +kernel
theorem d_We_init_8 : decode b_We_init 8 = .ok (.dup, 1) := by decide +kernel
theorem d_We_init_9 : decode b_We_init 9 = .ok (.invokespecial 11, 3) := by decide +kernel
theorem d_We_init_12 : decode b_We_init 12 = .ok (.putfield 12, 3) := by decide +kernel
theorem d_We_init_15 : decode b_We_init 15 = .ok (.aload_n 0, 1) := by decide +kernel
theorem d_We_init_16 : decode b_We_init 16 = .ok (.new 9, 3) := by decide +kernel
theorem d_We_init_19 : decode b_We_init 19 = .ok (.dup, 1) := by decide +kernel
theorem d_We_init_20 : decode b_We_init 20 = .ok (.invokespecial 11, 3) := by decide +kernel
theorem d_We_init_23 : decode b_We_init 23 = .ok (.putfield 18, 3) := by decide +kernel
theorem d_We_init_26 : decode b_We_init 26 = .ok (.aload_n 0, 1) := by decide +kernel
theorem d_We_init_27 : decode b_We_init 27 = .ok (.aload_n 1, 1) := by decide +kernel
theorem d_We_init_28 : decode b_We_init 28 = .ok (.putfield 21, 3) := by decide +kernel
theorem d_We_init_31 : decode b_We_init 31 = .ok (.aload_n 0, 1) := by decide +kernel
theorem d_We_init_32 : decode b_We_init 32 = .ok (.aload_n 2, 1) := by decide +kernel
theorem d_We_init_33 : decode b_We_init 33 = .ok (.putfield 25, 3) := by decide +kernel
theorem d_We_init_36 : decode b_We_init 36 = .ok (.aload_n 0, 1) := by decide +kernel
theorem d_We_init_37 : decode b_We_init 37 = .ok (.aload_n 3, 1) := by decide +kernel
theorem d_We_init_38 : decode b_We_init 38 = .ok (.putfield 29, 3) := by decide +kernel
theorem d_We_init_41 : decode b_We_init 41 = .ok (.return_, 1) := by decide +kernel
theorem d_We_leafAt_0 : decode b_We_leafAt 0 = .ok (.iload_n 1, 1) := by decide +kernel
theorem d_We_leafAt_1 : decode b_We_leafAt 1 = .ok (.ifCond .lt 26, 3) := by decide +kernel
theorem d_We_leafAt_4 : decode b_We_leafAt 4 = .ok (.iload_n 1, 1) := by decide +kernel
theorem d_We_leafAt_5 : decode b_We_leafAt 5 = .ok (.aload_n 0, 1) := by decide +kernel
theorem d_We_leafAt_6 : decode b_We_leafAt 6 = .ok (.getfield 12, 3) := by decide +kernel
theorem d_We_leafAt_9 : decode b_We_leafAt 9 = .ok (.getfield 41, 3) := by decide +kernel
theorem d_We_leafAt_12 : decode b_We_leafAt 12 = .ok (.if_icmp .ge 15, 3) := by decide +kernel
theorem d_We_leafAt_15 : decode b_We_leafAt 15 = .ok (.aload_n 0, 1) := by decide +kernel
theorem d_We_leafAt_16 : decode b_We_leafAt 16 = .ok (.getfield 12, 3) := by decide +kernel
theorem d_We_leafAt_19 : decode b_We_leafAt 19 = .ok (.getfield 44, 3) := by decide +kernel
theorem d_We_leafAt_22 : decode b_We_leafAt 22 = .ok (.iload_n 1, 1) := by decide +kernel
theorem d_We_leafAt_23 : decode b_We_leafAt 23 = .ok (.iaload, 1) := by decide +kernel
theorem d_We_leafAt_24 : decode b_We_leafAt 24 = .ok (.goto 4, 3) := by decide +kernel
theorem d_We_leafAt_27 : decode b_We_leafAt 27 = .ok (.iconst (-1), 1) := by decide +kernel
theorem d_We_leafAt_28 : decode b_We_leafAt 28 = .ok (.ireturn, 1) := by decide +kernel
theorem d_We_ruleAt_0 : decode b_We_ruleAt 0 = .ok (.iload_n 1, 1) := by decide +kernel
theorem d_We_ruleAt_1 : decode b_We_ruleAt 1 = .ok (.ifCond .lt 26, 3) := by decide +kernel
theorem d_We_ruleAt_4 : decode b_We_ruleAt 4 = .ok (.iload_n 1, 1) := by decide +kernel
theorem d_We_ruleAt_5 : decode b_We_ruleAt 5 = .ok (.aload_n 0, 1) := by decide +kernel
theorem d_We_ruleAt_6 : decode b_We_ruleAt 6 = .ok (.getfield 12, 3) := by decide +kernel
theorem d_We_ruleAt_9 : decode b_We_ruleAt 9 = .ok (.getfield 33, 3) := by decide +kernel
theorem d_We_ruleAt_12 : decode b_We_ruleAt 12 = .ok (.if_icmp .ge 15, 3) := by decide +kernel
theorem d_We_ruleAt_15 : decode b_We_ruleAt 15 = .ok (.aload_n 0, 1) := by decide +kernel
theorem d_We_ruleAt_16 : decode b_We_ruleAt 16 = .ok (.getfield 12, 3) := by decide +kernel
theorem d_We_ruleAt_19 : decode b_We_ruleAt 19 = .ok (.getfield 37, 3) := by decide +kernel
theorem d_We_ruleAt_22 : decode b_We_ruleAt 22 = .ok (.iload_n 1, 1) := by decide +kernel
theorem d_We_ruleAt_23 : decode b_We_ruleAt 23 = .ok (.iaload, 1) := by decide +kernel
theorem d_We_ruleAt_24 : decode b_We_ruleAt 24 = .ok (.goto 4, 3) := by decide +kernel
theorem d_We_ruleAt_27 : decode b_We_ruleAt 27 = .ok (.iconst (-1), 1) := by decide +kernel
theorem d_We_ruleAt_28 : decode b_We_ruleAt 28 = .ok (.ireturn, 1) := by decide +kernel
theorem d_We_unfold_0 : decode b_We_unfold 0 = .ok (.lload_n 3, 1) := by decide +kernel
theorem d_We_unfold_1 : decode b_We_unfold 1 = .ok (.lstore 5, 2) := by decide +kernel
theorem d_We_unfold_3 : decode b_We_unfold 3 = .ok (.iconst 0, 1) := by decide +kernel
theorem d_We_unfold_4 : decode b_We_unfold 4 = .ok (.istore 7, 2) := by decide +kernel
theorem d_We_unfold_6 : decode b_We_unfold 6 = .ok (.iload 7, 2) := by decide +kernel
theorem d_We_unfold_8 : decode b_We_unfold 8 = .ok (.aload_n 0, 1) := by decide +kernel
theorem d_We_unfold_9 : decode b_We_unfold 9 = .ok (.getfield 21, 3) := by decide +kernel
theorem d_We_unfold_12 : decode b_We_unfold 12 = .ok (.getfield 84, 3) := by decide +kernel
theorem d_We_unfold_15 : decode b_We_unfold 15 = .ok (.if_icmp .ge 60, 3) := by decide +kernel
theorem d_We_unfold_18 : decode b_We_unfold 18 = .ok (.aload_n 0, 1) := by decide +kernel
theorem d_We_unfold_19 : decode b_We_unfold 19 = .ok (.getfield 21, 3) := by decide +kernel
theorem d_We_unfold_22 : decode b_We_unfold 22 = .ok (.iload 7, 2) := by decide +kernel
theorem d_We_unfold_24 : decode b_We_unfold 24 = .ok (.invokevirtual 88, 3) := by decide +kernel
theorem d_We_unfold_27 : decode b_We_unfold 27 = .ok (.iload_n 1, 1) := by decide +kernel
theorem d_We_unfold_28 : decode b_We_unfold 28 = .ok (.if_icmp .ne 41, 3) := by decide +kernel
theorem d_We_unfold_31 : decode b_We_unfold 31 = .ok (.aload_n 0, 1) := by decide +kernel
theorem d_We_unfold_32 : decode b_We_unfold 32 = .ok (.getfield 25, 3) := by decide +kernel
theorem d_We_unfold_35 : decode b_We_unfold 35 = .ok (.iload 7, 2) := by decide +kernel
theorem d_We_unfold_37 : decode b_We_unfold 37 = .ok (.iconst 0, 1) := by decide +kernel
theorem d_We_unfold_38 : decode b_We_unfold 38 = .ok (.iload_n 2, 1) := by decide +kernel
theorem d_We_unfold_39 : decode b_We_unfold 39 = .ok (.invokevirtual 92, 3) := by decide +kernel
theorem d_We_unfold_42 : decode b_We_unfold 42 = .ok (.lstore 8, 2) := by decide +kernel
theorem d_We_unfold_44 : decode b_We_unfold 44 = .ok (.lload 5, 2) := by decide +kernel
theorem d_We_unfold_46 : decode b_We_unfold 46 = .ok (.lload 8, 2) := by decide +kernel
theorem d_We_unfold_48 : decode b_We_unfold 48 = .ok (.lcmp, 1) := by decide +kernel
theorem d_We_unfold_49 : decode b_We_unfold 49 = .ok (.ifCond .ge 13, 3) := by decide +kernel
theorem d_We_unfold_52 : decode b_We_unfold 52 = .ok (.aload_n 0, 1) := by decide +kernel
theorem d_We_unfold_53 : decode b_We_unfold 53 = .ok (.iload 7, 2) := by decide +kernel
theorem d_We_unfold_55 : decode b_We_unfold 55 = .ok (.iload_n 2, 1) := by decide +kernel
theorem d_We_unfold_56 : decode b_We_unfold 56 = .ok (.lload 5, 2) := by decide +kernel
theorem d_We_unfold_58 : decode b_We_unfold 58 = .ok (.invokevirtual 98, 3) := by decide +kernel
theorem d_We_unfold_61 : decode b_We_unfold 61 = .ok (.ireturn, 1) := by decide +kernel
theorem d_We_unfold_62 : decode b_We_unfold 62 = .ok (.lload 5, 2) := by decide +kernel
theorem d_We_unfold_64 : decode b_We_unfold 64 = .ok (.lload 8, 2) := by decide +kernel
theorem d_We_unfold_66 : decode b_We_unfold 66 = .ok (.lsub, 1) := by decide +kernel
theorem d_We_unfold_67 : decode b_We_unfold 67 = .ok (.lstore 5, 2) := by decide +kernel
theorem d_We_unfold_69 : decode b_We_unfold 69 = .ok (.iinc 7 1, 3) := by decide +kernel
theorem d_We_unfold_72 : decode b_We_unfold 72 = .ok (.goto (-66), 3) := by decide +kernel
theorem d_We_unfold_75 : decode b_We_unfold 75 = .ok (.iconst 0, 1) := by decide +kernel
theorem d_We_unfold_76 : decode b_We_unfold 76 = .ok (.ireturn, 1) := by decide +kernel
theorem d_We_unfoldRule_0 : decode b_We_unfoldRule 0 = .ok (.aload_n 0, 1) := by decide +kernel
theorem d_We_unfoldRule_1 : decode b_We_unfoldRule 1 = .ok (.dup, 1) := by decide +kernel
theorem d_We_unfoldRule_2 : decode b_We_unfoldRule 2 = .ok (.getfield 59, 3) := by decide +kernel
theorem d_We_unfoldRule_5 : decode b_We_unfoldRule 5 = .ok (.aload_n 0, 1) := by decide +kernel
theorem d_We_unfoldRule_6 : decode b_We_unfoldRule 6 = .ok (.getfield 21, 3) := by decide +kernel
theorem d_We_unfoldRule_9 : decode b_We_unfoldRule 9 = .ok (.iload_n 1, 1) := by decide +kernel
theorem d_We_unfoldRule_10 : decode b_We_unfoldRule 10 = .ok (.invokevirtual 101, 3) := by decide +kernel
theorem d_We_unfoldRule_13 : decode b_We_unfoldRule 13 = .ok (.iconst 1, 1) := by decide +kernel
theorem d_We_unfoldRule_14 : decode b_We_unfoldRule 14 = .ok (.isub, 1) := by decide +kernel
theorem d_We_unfoldRule_15 : decode b_We_unfoldRule 15 = .ok (.iadd, 1) := by decide +kernel
theorem d_We_unfoldRule_16 : decode b_We_unfoldRule 16 = .ok (.putfield 59, 3) := by decide +kernel
theorem d_We_unfoldRule_19 : decode b_We_unfoldRule 19 = .ok (.aload_n 0, 1) := by decide +kernel
theorem d_We_unfoldRule_20 : decode b_We_unfoldRule 20 = .ok (.getfield 18, 3) := by decide +kernel
theorem d_We_unfoldRule_23 : decode b_We_unfoldRule 23 = .ok (.getfield 33, 3) := by decide +kernel
theorem d_We_unfoldRule_26 : decode b_We_unfoldRule 26 = .ok (.iconst 1, 1) := by decide +kernel
theorem d_We_unfoldRule_27 : decode b_We_unfoldRule 27 = .ok (.iadd, 1) := by decide +kernel
theorem d_We_unfoldRule_28 : decode b_We_unfoldRule 28 = .ok (.aload_n 0, 1) := by decide +kernel
theorem d_We_unfoldRule_29 : decode b_We_unfoldRule 29 = .ok (.getfield 59, 3) := by decide +kernel
theorem d_We_unfoldRule_32 : decode b_We_unfoldRule 32 = .ok (.iadd, 1) := by decide +kernel
theorem d_We_unfoldRule_33 : decode b_We_unfoldRule 33 = .ok (.sipush 200, 3) := by decide +kernel
theorem d_We_unfoldRule_36 : decode b_We_unfoldRule 36 = .ok (.if_icmp .le 5, 3) := by decide +kernel
theorem d_We_unfoldRule_39 : decode b_We_unfoldRule 39 = .ok (.iconst 0, 1) := by decide +kernel
theorem d_We_unfoldRule_40 : decode b_We_unfoldRule 40 = .ok (.ireturn, 1) := by decide +kernel
theorem d_We_unfoldRule_41 : decode b_We_unfoldRule 41 = .ok (.aload_n 0, 1) := by decide +kernel
theorem d_We_unfoldRule_42 : decode b_We_unfoldRule 42 = .ok (.getfield 18, 3) := by decide +kernel
theorem d_We_unfoldRule_45 : decode b_We_unfoldRule 45 = .ok (.iload_n 1, 1) := by decide +kernel
theorem d_We_unfoldRule_46 : decode b_We_unfoldRule 46 = .ok (.invokevirtual 104, 3) := by decide +kernel
theorem d_We_unfoldRule_49 : decode b_We_unfoldRule 49 = .ok (.aload_n 0, 1) := by decide +kernel
theorem d_We_unfoldRule_50 : decode b_We_unfoldRule 50 = .ok (.getfield 21, 3) := by decide +kernel
theorem d_We_unfoldRule_53 : decode b_We_unfoldRule 53 = .ok (.iload_n 1, 1) := by decide +kernel
theorem d_We_unfoldRule_54 : decode b_We_unfoldRule 54 = .ok (.invokevirtual 107, 3) := by decide +kernel
theorem d_We_unfoldRule_57 : decode b_We_unfoldRule 57 = .ok (.istore 5, 2) := by decide +kernel
theorem d_We_unfoldRule_59 : decode b_We_unfoldRule 59 = .ok (.iload_n 2, 1) := by decide +kernel
theorem d_We_unfoldRule_60 : decode b_We_unfoldRule 60 = .ok (.istore 6, 2) := by decide +kernel
theorem d_We_unfoldRule_62 : decode b_We_unfoldRule 62 = .ok (.lload_n 3, 1) := by decide +kernel
theorem d_We_unfoldRule_63 : decode b_We_unfoldRule 63 = .ok (.lstore 7, 2) := by decide +kernel
theorem d_We_unfoldRule_65 : decode b_We_unfoldRule 65 = .ok (.iconst 0, 1) := by decide +kernel
theorem d_We_unfoldRule_66 : decode b_We_unfoldRule 66 = .ok (.istore 9, 2) := by decide +kernel
theorem d_We_unfoldRule_68 : decode b_We_unfoldRule 68 = .ok (.iload 9, 2) := by decide +kernel
theorem d_We_unfoldRule_70 : decode b_We_unfoldRule 70 = .ok (.iload 5, 2) := by decide +kernel
theorem d_We_unfoldRule_72 : decode b_We_unfoldRule 72 = .ok (.if_icmp .ge 145, 3) := by decide +kernel
theorem d_We_unfoldRule_75 : decode b_We_unfoldRule 75 = .ok (.iconst 0, 1) := by decide +kernel
theorem d_We_unfoldRule_76 : decode b_We_unfoldRule 76 = .ok (.istore 10, 2) := by decide +kernel
theorem d_We_unfoldRule_78 : decode b_We_unfoldRule 78 = .ok (.aload_n 0, 1) := by decide +kernel
theorem d_We_unfoldRule_79 : decode b_We_unfoldRule 79 = .ok (.getfield 25, 3) := by decide +kernel
theorem d_We_unfoldRule_82 : decode b_We_unfoldRule 82 = .ok (.iload_n 1, 1) := by decide +kernel
theorem d_We_unfoldRule_83 : decode b_We_unfoldRule 83 = .ok (.iload 9, 2) := by decide +kernel
theorem d_We_unfoldRule_85 : decode b_We_unfoldRule 85 = .ok (.iload 10, 2) := by decide +kernel
theorem d_We_unfoldRule_87 : decode b_We_unfoldRule 87 = .ok (.iload 6, 2) := by decide +kernel
theorem d_We_unfoldRule_89 : decode b_We_unfoldRule 89 = .ok (.invokevirtual 110, 3) := by decide +kernel
theorem d_We_unfoldRule_92 : decode b_We_unfoldRule 92 = .ok (.lstore 11, 2) := by decide +kernel
theorem d_We_unfoldRule_94 : decode b_We_unfoldRule 94 = .ok (.iload 10, 2) := by decide +kernel
theorem d_We_unfoldRule_96 : decode b_We_unfoldRule 96 = .ok (.iload 6, 2) := by decide +kernel
theorem d_We_unfoldRule_98 : decode b_We_unfoldRule 98 = .ok (.if_icmp .ge 40, 3) := by decide +kernel
theorem d_We_unfoldRule_101 : decode b_We_unfoldRule 101 = .ok (.lload 7, 2) := by decide +kernel
theorem d_We_unfoldRule_103 : decode b_We_unfoldRule 103 = .ok (.lload 11, 2) := by decide +kernel
theorem d_We_unfoldRule_105 : decode b_We_unfoldRule 105 = .ok (.lcmp, 1) := by decide +kernel
theorem d_We_unfoldRule_106 : decode b_We_unfoldRule 106 = .ok (.ifCond .lt 32, 3) := by decide +kernel
theorem d_We_unfoldRule_109 : decode b_We_unfoldRule 109 = .ok (.lload 7, 2) := by decide +kernel
theorem d_We_unfoldRule_111 : decode b_We_unfoldRule 111 = .ok (.lload 11, 2) := by decide +kernel
theorem d_We_unfoldRule_113 : decode b_We_unfoldRule 113 = .ok (.lsub, 1) := by decide +kernel
theorem d_We_unfoldRule_114 : decode b_We_unfoldRule 114 = .ok (.lstore 7, 2) := by decide +kernel
theorem d_We_unfoldRule_116 : decode b_We_unfoldRule 116 = .ok (.iinc 10 1, 3) := by decide +kernel
theorem d_We_unfoldRule_119 : decode b_We_unfoldRule 119 = .ok (.aload_n 0, 1) := by decide +kernel
theorem d_We_unfoldRule_120 : decode b_We_unfoldRule 120 = .ok (.getfield 25, 3) := by decide +kernel
theorem d_We_unfoldRule_123 : decode b_We_unfoldRule 123 = .ok (.iload_n 1, 1) := by decide +kernel
theorem d_We_unfoldRule_124 : decode b_We_unfoldRule 124 = .ok (.iload 9, 2) := by decide +kernel
theorem d_We_unfoldRule_126 : decode b_We_unfoldRule 126 = .ok (.iload 10, 2) := by decide +kernel
theorem d_We_unfoldRule_128 : decode b_We_unfoldRule 128 = .ok (.iload 6, 2) := by decide +kernel
theorem d_We_unfoldRule_130 : decode b_We_unfoldRule 130 = .ok (.invokevirtual 110, 3) := by decide +kernel
theorem d_We_unfoldRule_133 : decode b_We_unfoldRule 133 = .ok (.lstore 11, 2) := by decide +kernel
theorem d_We_unfoldRule_135 : decode b_We_unfoldRule 135 = .ok (.goto (-41), 3) := by decide +kernel
theorem d_We_unfoldRule_138 : decode b_We_unfoldRule 138 = .ok (.iload 6, 2) := by decide +kernel
theorem d_We_unfoldRule_140 : decode b_We_unfoldRule 140 = .ok (.iload 10, 2) := by decide +kernel
theorem d_We_unfoldRule_142 : decode b_We_unfoldRule 142 = .ok (.isub, 1) := by decide +kernel
theorem d_We_unfoldRule_143 : decode b_We_unfoldRule 143 = .ok (.istore 6, 2) := by decide +kernel
theorem d_We_unfoldRule_145 : decode b_We_unfoldRule 145 = .ok (.lconst 1, 1) := by decide +kernel
theorem d_We_unfoldRule_146 : decode b_We_unfoldRule 146 = .ok (.aload_n 0, 1) := by decide +kernel
theorem d_We_unfoldRule_147 : decode b_We_unfoldRule 147 = .ok (.getfield 25, 3) := by decide +kernel
theorem d_We_unfoldRule_150 : decode b_We_unfoldRule 150 = .ok (.iload_n 1, 1) := by decide +kernel
theorem d_We_unfoldRule_151 : decode b_We_unfoldRule 151 = .ok (.iload 9, 2) := by decide +kernel
theorem d_We_unfoldRule_153 : decode b_We_unfoldRule 153 = .ok (.iconst 1, 1) := by decide +kernel
theorem d_We_unfoldRule_154 : decode b_We_unfoldRule 154 = .ok (.iadd, 1) := by decide +kernel
theorem d_We_unfoldRule_155 : decode b_We_unfoldRule 155 = .ok (.iload 6, 2) := by decide +kernel
theorem d_We_unfoldRule_157 : decode b_We_unfoldRule 157 = .ok (.invokevirtual 92, 3) := by decide +kernel
theorem d_We_unfoldRule_160 : decode b_We_unfoldRule 160 = .ok (.invokestatic 114, 3) := by decide +kernel
theorem d_We_unfoldRule_163 : decode b_We_unfoldRule 163 = .ok (.lstore 13, 2) := by decide +kernel
theorem d_We_unfoldRule_165 : decode b_We_unfoldRule 165 = .ok (.aload_n 0, 1) := by decide +kernel
theorem d_We_unfoldRule_166 : decode b_We_unfoldRule 166 = .ok (.getfield 29, 3) := by decide +kernel
theorem d_We_unfoldRule_169 : decode b_We_unfoldRule 169 = .ok (.aload_n 0, 1) := by decide +kernel
theorem d_We_unfoldRule_170 : decode b_We_unfoldRule 170 = .ok (.getfield 29, 3) := by decide +kernel
theorem d_We_unfoldRule_173 : decode b_We_unfoldRule 173 = .ok (.getfield 56, 3) := by decide +kernel
theorem d_We_unfoldRule_176 : decode b_We_unfoldRule 176 = .ok (.iload 5, 2) := by decide +kernel
theorem d_We_unfoldRule_178 : decode b_We_unfoldRule 178 = .ok (.iadd, 1) := by decide +kernel
theorem d_We_unfoldRule_179 : decode b_We_unfoldRule 179 = .ok (.iconst 1, 1) := by decide +kernel
theorem d_We_unfoldRule_180 : decode b_We_unfoldRule 180 = .ok (.isub, 1) := by decide +kernel
theorem d_We_unfoldRule_181 : decode b_We_unfoldRule 181 = .ok (.iload 9, 2) := by decide +kernel
theorem d_We_unfoldRule_183 : decode b_We_unfoldRule 183 = .ok (.isub, 1) := by decide +kernel
theorem d_We_unfoldRule_184 : decode b_We_unfoldRule 184 = .ok (.aload_n 0, 1) := by decide +kernel
theorem d_We_unfoldRule_185 : decode b_We_unfoldRule 185 = .ok (.getfield 21, 3) := by decide +kernel
theorem d_We_unfoldRule_188 : decode b_We_unfoldRule 188 = .ok (.iload_n 1, 1) := by decide +kernel
theorem d_We_unfoldRule_189 : decode b_We_unfoldRule 189 = .ok (.iload 9, 2) := by decide +kernel
theorem d_We_unfoldRule_191 : decode b_We_unfoldRule 191 = .ok (.invokevirtual 120, 3) := by decide +kernel
theorem d_We_unfoldRule_194 : decode b_We_unfoldRule 194 = .ok (.iload 10, 2) := by decide +kernel
theorem d_We_unfoldRule_196 : decode b_We_unfoldRule 196 = .ok (.lload 7, 2) := by decide +kernel
theorem d_We_unfoldRule_198 : decode b_We_unfoldRule 198 = .ok (.lload 13, 2) := by decide +kernel
theorem d_We_unfoldRule_200 : decode b_We_unfoldRule 200 = .ok (.ldiv, 1) := by decide +kernel
theorem d_We_unfoldRule_201 : decode b_We_unfoldRule 201 = .ok (.invokevirtual 50, 3) := by decide +kernel
theorem d_We_unfoldRule_204 : decode b_We_unfoldRule 204 = .ok (.lload 7, 2) := by decide +kernel
theorem d_We_unfoldRule_206 : decode b_We_unfoldRule 206 = .ok (.lload 13, 2) := by decide +kernel
theorem d_We_unfoldRule_208 : decode b_We_unfoldRule 208 = .ok (.lrem, 1) := by decide +kernel
theorem d_We_unfoldRule_209 : decode b_We_unfoldRule 209 = .ok (.lstore 7, 2) := by decide +kernel
theorem d_We_unfoldRule_211 : decode b_We_unfoldRule 211 = .ok (.iinc 9 1, 3) := by decide +kernel
theorem d_We_unfoldRule_214 : decode b_We_unfoldRule 214 = .ok (.goto (-146), 3) := by decide +kernel
theorem d_We_unfoldRule_217 : decode b_We_unfoldRule 217 = .ok (.aload_n 0, 1) := by decide +kernel
theorem d_We_unfoldRule_218 : decode b_We_unfoldRule 218 = .ok (.getfield 29, 3) := by decide +kernel
theorem d_We_unfoldRule_221 : decode b_We_unfoldRule 221 = .ok (.dup, 1) := by decide +kernel
theorem d_We_unfoldRule_222 : decode b_We_unfoldRule 222 = .ok (.getfield 56, 3) := by decide +kernel
theorem d_We_unfoldRule_225 : decode b_We_unfoldRule 225 = .ok (.iload 5, 2) := by decide +kernel
theorem d_We_unfoldRule_227 : decode b_We_unfoldRule 227 = .ok (.iadd, 1) := by decide +kernel
theorem d_We_unfoldRule_228 : decode b_We_unfoldRule 228 = .ok (.putfield 56, 3) := by decide +kernel
theorem d_We_unfoldRule_231 : decode b_We_unfoldRule 231 = .ok (.iconst 1, 1) := by decide +kernel
theorem d_We_unfoldRule_232 : decode b_We_unfoldRule 232 = .ok (.ireturn, 1) := by decide +kernel
end
section
theorem d_We_weave_0 : decode b_We_weave 0 = .ok (.aload_n 0, 1) := by decide +kernel
theorem d_We_weave_1 : decode b_We_weave 1 = .ok (.getfield 18, 3) := by decide +kernel
theorem d_We_weave_4 : decode b_We_weave 4 = .ok (.invokevirtual 47, 3) := by decide +kernel
theorem d_We_weave_7 : decode b_We_weave 7 = .ok (.aload_n 0, 1) := by decide +kernel
theorem d_We_weave_8 : decode b_We_weave 8 = .ok (.getfield 29, 3) := by decide +kernel
theorem d_We_weave_11 : decode b_We_weave 11 = .ok (.iconst 0, 1) := by decide +kernel
theorem d_We_weave_12 : decode b_We_weave 12 = .ok (.iload_n 1, 1) := by decide +kernel
theorem d_We_weave_13 : decode b_We_weave 13 = .ok (.iload_n 2, 1) := by decide +kernel
theorem d_We_weave_14 : decode b_We_weave 14 = .ok (.lload_n 3, 1) := by decide +kernel
theorem d_We_weave_15 : decode b_We_weave 15 = .ok (.invokevirtual 50, 3) := by decide +kernel
theorem d_We_weave_18 : decode b_We_weave 18 = .ok (.aload_n 0, 1) := by decide +kernel
theorem d_We_weave_19 : decode b_We_weave 19 = .ok (.getfield 29, 3) := by decide +kernel
theorem d_We_weave_22 : decode b_We_weave 22 = .ok (.iconst 1, 1) := by decide +kernel
theorem d_We_weave_23 : decode b_We_weave 23 = .ok (.putfield 56, 3) := by decide +kernel
theorem d_We_weave_26 : decode b_We_weave 26 = .ok (.aload_n 0, 1) := by decide +kernel
theorem d_We_weave_27 : decode b_We_weave 27 = .ok (.iconst 1, 1) := by decide +kernel
theorem d_We_weave_28 : decode b_We_weave 28 = .ok (.putfield 59, 3) := by decide +kernel
theorem d_We_weave_31 : decode b_We_weave 31 = .ok (.iconst 0, 1) := by decide +kernel
theorem d_We_weave_32 : decode b_We_weave 32 = .ok (.istore 5, 2) := by decide +kernel
theorem d_We_weave_34 : decode b_We_weave 34 = .ok (.iload 5, 2) := by decide +kernel
theorem d_We_weave_36 : decode b_We_weave 36 = .ok (.sipush 216, 3) := by decide +kernel
theorem d_We_weave_39 : decode b_We_weave 39 = .ok (.if_icmp .ge 111, 3) := by decide +kernel
theorem d_We_weave_42 : decode b_We_weave 42 = .ok (.aload_n 0, 1) := by decide +kernel
theorem d_We_weave_43 : decode b_We_weave 43 = .ok (.getfield 29, 3) := by decide +kernel
theorem d_We_weave_46 : decode b_We_weave 46 = .ok (.getfield 56, 3) := by decide +kernel
theorem d_We_weave_49 : decode b_We_weave 49 = .ok (.ifCond .le 101, 3) := by decide +kernel
theorem d_We_weave_52 : decode b_We_weave 52 = .ok (.aload_n 0, 1) := by decide +kernel
theorem d_We_weave_53 : decode b_We_weave 53 = .ok (.getfield 29, 3) := by decide +kernel
theorem d_We_weave_56 : decode b_We_weave 56 = .ok (.dup, 1) := by decide +kernel
theorem d_We_weave_57 : decode b_We_weave 57 = .ok (.getfield 56, 3) := by decide +kernel
theorem d_We_weave_60 : decode b_We_weave 60 = .ok (.iconst 1, 1) := by decide +kernel
theorem d_We_weave_61 : decode b_We_weave 61 = .ok (.isub, 1) := by decide +kernel
theorem d_We_weave_62 : decode b_We_weave 62 = .ok (.putfield 56, 3) := by decide +kernel
theorem d_We_weave_65 : decode b_We_weave 65 = .ok (.aload_n 0, 1) := by decide +kernel
theorem d_We_weave_66 : decode b_We_weave 66 = .ok (.getfield 29, 3) := by decide +kernel
theorem d_We_weave_69 : decode b_We_weave 69 = .ok (.getfield 62, 3) := by decide +kernel
theorem d_We_weave_72 : decode b_We_weave 72 = .ok (.aload_n 0, 1) := by decide +kernel
theorem d_We_weave_73 : decode b_We_weave 73 = .ok (.getfield 29, 3) := by decide +kernel
theorem d_We_weave_76 : decode b_We_weave 76 = .ok (.getfield 56, 3) := by decide +kernel
theorem d_We_weave_79 : decode b_We_weave 79 = .ok (.iaload, 1) := by decide +kernel
theorem d_We_weave_80 : decode b_We_weave 80 = .ok (.istore 6, 2) := by decide +kernel
theorem d_We_weave_82 : decode b_We_weave 82 = .ok (.iload 6, 2) := by decide +kernel
theorem d_We_weave_84 : decode b_We_weave 84 = .ok (.invokestatic 65, 3) := by decide +kernel
theorem d_We_weave_87 : decode b_We_weave 87 = .ok (.ifCond .ne 15, 3) := by decide +kernel
theorem d_We_weave_90 : decode b_We_weave 90 = .ok (.aload_n 0, 1) := by decide +kernel
theorem d_We_weave_91 : decode b_We_weave 91 = .ok (.getfield 18, 3) := by decide +kernel
theorem d_We_weave_94 : decode b_We_weave 94 = .ok (.iload 6, 2) := by decide +kernel
theorem d_We_weave_96 : decode b_We_weave 96 = .ok (.invokevirtual 69, 3) := by decide +kernel
theorem d_We_weave_99 : decode b_We_weave 99 = .ok (.goto 45, 3) := by decide +kernel
theorem d_We_weave_102 : decode b_We_weave 102 = .ok (.aload_n 0, 1) := by decide +kernel
theorem d_We_weave_103 : decode b_We_weave 103 = .ok (.iload 6, 2) := by decide +kernel
theorem d_We_weave_105 : decode b_We_weave 105 = .ok (.aload_n 0, 1) := by decide +kernel
theorem d_We_weave_106 : decode b_We_weave 106 = .ok (.getfield 29, 3) := by decide +kernel
theorem d_We_weave_109 : decode b_We_weave 109 = .ok (.getfield 73, 3) := by decide +kernel
theorem d_We_weave_112 : decode b_We_weave 112 = .ok (.aload_n 0, 1) := by decide +kernel
theorem d_We_weave_113 : decode b_We_weave 113 = .ok (.getfield 29, 3) := by decide +kernel
theorem d_We_weave_116 : decode b_We_weave 116 = .ok (.getfield 56, 3) := by decide +kernel
theorem d_We_weave_119 : decode b_We_weave 119 = .ok (.iaload, 1) := by decide +kernel
theorem d_We_weave_120 : decode b_We_weave 120 = .ok (.aload_n 0, 1) := by decide +kernel
theorem d_We_weave_121 : decode b_We_weave 121 = .ok (.getfield 29, 3) := by decide +kernel
theorem d_We_weave_124 : decode b_We_weave 124 = .ok (.getfield 76, 3) := by decide +kernel
theorem d_We_weave_127 : decode b_We_weave 127 = .ok (.aload_n 0, 1) := by decide +kernel
theorem d_We_weave_128 : decode b_We_weave 128 = .ok (.getfield 29, 3) := by decide +kernel
theorem d_We_weave_131 : decode b_We_weave 131 = .ok (.getfield 56, 3) := by decide +kernel
theorem d_We_weave_134 : decode b_We_weave 134 = .ok (.laload, 1) := by decide +kernel
theorem d_We_weave_135 : decode b_We_weave 135 = .ok (.invokevirtual 80, 3) := by decide +kernel
theorem d_We_weave_138 : decode b_We_weave 138 = .ok (.ifCond .ne 6, 3) := by decide +kernel
theorem d_We_weave_141 : decode b_We_weave 141 = .ok (.bipush (-2), 2) := by decide +kernel
theorem d_We_weave_143 : decode b_We_weave 143 = .ok (.ireturn, 1) := by decide +kernel
theorem d_We_weave_144 : decode b_We_weave 144 = .ok (.iinc 5 1, 3) := by decide +kernel
theorem d_We_weave_147 : decode b_We_weave 147 = .ok (.goto (-113), 3) := by decide +kernel
theorem d_We_weave_150 : decode b_We_weave 150 = .ok (.aload_n 0, 1) := by decide +kernel
theorem d_We_weave_151 : decode b_We_weave 151 = .ok (.getfield 12, 3) := by decide +kernel
theorem d_We_weave_154 : decode b_We_weave 154 = .ok (.astore 5, 2) := by decide +kernel
theorem d_We_weave_156 : decode b_We_weave 156 = .ok (.aload_n 0, 1) := by decide +kernel
theorem d_We_weave_157 : decode b_We_weave 157 = .ok (.aload_n 0, 1) := by decide +kernel
theorem d_We_weave_158 : decode b_We_weave 158 = .ok (.getfield 18, 3) := by decide +kernel
theorem d_We_weave_161 : decode b_We_weave 161 = .ok (.putfield 12, 3) := by decide +kernel
theorem d_We_weave_164 : decode b_We_weave 164 = .ok (.aload_n 0, 1) := by decide +kernel
theorem d_We_weave_165 : decode b_We_weave 165 = .ok (.aload 5, 2) := by decide +kernel
theorem d_We_weave_167 : decode b_We_weave 167 = .ok (.putfield 18, 3) := by decide +kernel
theorem d_We_weave_170 : decode b_We_weave 170 = .ok (.aload_n 0, 1) := by decide +kernel
theorem d_We_weave_171 : decode b_We_weave 171 = .ok (.getfield 12, 3) := by decide +kernel
theorem d_We_weave_174 : decode b_We_weave 174 = .ok (.getfield 33, 3) := by decide +kernel
theorem d_We_weave_177 : decode b_We_weave 177 = .ok (.ireturn, 1) := by decide +kernel
theorem d_Gl_init_0 : decode b_Gl_init 0 = .ok (.aload_n 0, 1) := by decide +kernel
theorem d_Gl_init_1 : decode b_Gl_init 1 = .ok (.invokespecial 1, 3) := by decide +kernel
theorem d_Gl_init_4 : decode b_Gl_init 4 = .ok (.aload_n 0, 1) := by decide +kernel
theorem d_Gl_init_5 : decode b_Gl_init 5 = .ok (.bipush 6, 2) := by decide +kernel
theorem d_Gl_init_7 : decode b_Gl_init 7 = .ok (.newarray .int, 2) := by decide +kernel
theorem d_Gl_init_9 : decode b_Gl_init 9 = .ok (.putfield 9, 3) := by decide +kernel
theorem d_Gl_init_12 : decode b_Gl_init 12 = .ok (.aload_n 0, 1) := by decide +kernel
theorem d_Gl_init_13 : decode b_Gl_init 13 = .ok (.new 13, 3) := by decide +kernel
theorem d_Gl_init_16 : decode b_Gl_init 16 = .ok (.dup, 1) := by decide +kernel
theorem d_Gl_init_17 : decode b_Gl_init 17 = .ok (.invokespecial 15, 3) := by decide +kernel
theorem d_Gl_init_20 : decode b_Gl_init 20 = .ok (.putfield 16, 3) := by decide +kernel
theorem d_Gl_init_23 : decode b_Gl_init 23 = .ok (.aload_n 0, 1) := by decide +kernel
theorem d_Gl_init_24 : decode b_Gl_init 24 = .ok (.new 20, 3) := by decide +kernel
theorem d_Gl_init_27 : decode b_Gl_init 27 = .ok (.dup, 1) := by decide +kernel
theorem d_Gl_init_28 : decode b_Gl_init 28 = .ok (.aload_n 0, 1) := by decide +kernel
theorem d_Gl_init_29 : decode b_Gl_init 29 = .ok (.getfield 16, 3) := by decide +kernel
theorem d_Gl_init_32 : decode b_Gl_init 32 = .ok (.invokespecial 22, 3) := by decide +kernel
theorem d_Gl_init_35 : decode b_Gl_init 35 = .ok (.putfield 25, 3) := by decide +kernel
theorem d_Gl_init_38 : decode b_Gl_init 38 = .ok (.aload_n 0, 1) := by decide +kernel
theorem d_Gl_init_39 : decode b_Gl_init 39 = .ok (.new 29, 3) := by decide +kernel
theorem d_Gl_init_42 : decode b_Gl_init 42 = .ok (.dup, 1) := by decide +kernel
theorem d_Gl_init_43 : decode b_Gl_init 43 = .ok (.aload_n 0, 1) := by decide +kernel
theorem d_Gl_init_44 : decode b_Gl_init 44 = .ok (.getfield 16, 3) := by decide +kernel
theorem d_Gl_init_47 : decode b_Gl_init 47 = .ok (.aload_n 0, 1) := by decide +kernel
theorem d_Gl_init_48 : decode b_Gl_init 48 = .ok (.getfield 25, 3) := by decide +kernel
theorem d_Gl_init_51 : decode b_Gl_init 51 = .ok (.invokespecial 31, 3) := by decide +kernel
theorem d_Gl_init_54 : decode b_Gl_init 54 = .ok (.putfield 34, 3) := by decide +kernel
theorem d_Gl_init_57 : decode b_Gl_init 57 = .ok (.aload_n 0, 1) := by decide +kernel
theorem d_Gl_init_58 : decode b_Gl_init 58 = .ok (.new 38, 3) := by decide +kernel
theorem d_Gl_init_61 : decode b_Gl_init 61 = .ok (.dup, 1) := by decide +kernel
theorem d_Gl_init_62 : decode b_Gl_init 62 = .ok (.aload_n 0, 1) := by decide +kernel
theorem d_Gl_init_63 : decode b_Gl_init 63 = .ok (.getfield 16, 3) := by decide +kernel
theorem d_Gl_init_66 : decode b_Gl_init 66 = .ok (.aload_n 0, 1) := by decide +kernel
theorem d_Gl_init_67 : decode b_Gl_init 67 = .ok (.getfield 34, 3) := by decide +kernel
theorem d_Gl_init_70 : decode b_Gl_init 70 = .ok (.invokespecial 40, 3) := by decide +kernel
theorem d_Gl_init_73 : decode b_Gl_init 73 = .ok (.putfield 43, 3) := by decide +kernel
theorem d_Gl_init_76 : decode b_Gl_init 76 = .ok (.aload_n 0, 1) := by decide +kernel
theorem d_Gl_init_77 : decode b_Gl_init 77 = .ok (.new 38, 3) := by decide +kernel
theorem d_Gl_init_80 : decode b_Gl_init 80 = .ok (.dup, 1) := by decide +kernel
theorem d_Gl_init_81 : decode b_Gl_init 81 = .ok (.aload_n 0, 1) := by decide +kernel
theorem d_Gl_init_82 : decode b_Gl_init 82 = .ok (.getfield 16, 3) := by decide +kernel
theorem d_Gl_init_85 : decode b_Gl_init 85 = .ok (.aload_n 0, 1) := by decide +kernel
theorem d_Gl_init_86 : decode b_Gl_init 86 = .ok (.getfield 34, 3) := by decide +kernel
theorem d_Gl_init_89 : decode b_Gl_init 89 = .ok (.invokespecial 40, 3) := by decide +kernel
theorem d_Gl_init_92 : decode b_Gl_init 92 = .ok (.putfield 47, 3) := by decide +kernel
theorem d_Gl_init_95 : decode b_Gl_init 95 = .ok (.new 50, 3) := by decide +kernel
theorem d_Gl_init_98 : decode b_Gl_init 98 = .ok (.dup, 1) := by decide +kernel
theorem d_Gl_init_99 : decode b_Gl_init 99 = .ok (.invokespecial 52, 3) := by decide +kernel
theorem d_Gl_init_102 : decode b_Gl_init 102 = .ok (.astore_n 1, 1) := by decide +kernel
theorem d_Gl_init_103 : decode b_Gl_init 103 = .ok (.aload_n 0, 1) := by decide +kernel
theorem d_Gl_init_104 : decode b_Gl_init 104 = .ok (.new 53, 3) := by decide +kernel
theorem d_Gl_init_107 : decode b_Gl_init 107 = .ok (.dup, 1) := by decide +kernel
theorem d_Gl_init_108 : decode b_Gl_init 108 = .ok (.aload_n 0, 1) := by decide +kernel
theorem d_Gl_init_109 : decode b_Gl_init 109 = .ok (.getfield 16, 3) := by decide +kernel
theorem d_Gl_init_112 : decode b_Gl_init 112 = .ok (.aload_n 0, 1) := by decide +kernel
theorem d_Gl_init_113 : decode b_Gl_init 113 = .ok (.getfield 43, 3) := by decide +kernel
theorem d_Gl_init_116 : decode b_Gl_init 116 = .ok (.aload_n 1, 1) := by decide +kernel
theorem d_Gl_init_117 : decode b_Gl_init 117 = .ok (.invokespecial 55, 3) := by decide +kernel
theorem d_Gl_init_120 : decode b_Gl_init 120 = .ok (.putfield 58, 3) := by decide +kernel
theorem d_Gl_init_123 : decode b_Gl_init 123 = .ok (.aload_n 0, 1) := by decide +kernel
theorem d_Gl_init_124 : decode b_Gl_init 124 = .ok (.new 62, 3) := by decide +kernel
theorem d_Gl_init_127 : decode b_Gl_init 127 = .ok (.dup, 1) := by decide +kernel
theorem d_Gl_init_128 : decode b_Gl_init 128 = .ok (.aload_n 0, 1) := by decide +kernel
theorem d_Gl_init_129 : decode b_Gl_init 129 = .ok (.getfield 16, 3) := by decide +kernel
theorem d_Gl_init_132 : decode b_Gl_init 132 = .ok (.aload_n 0, 1) := by decide +kernel
theorem d_Gl_init_133 : decode b_Gl_init 133 = .ok (.getfield 43, 3) := by decide +kernel
theorem d_Gl_init_136 : decode b_Gl_init 136 = .ok (.aload_n 1, 1) := by decide +kernel
theorem d_Gl_init_137 : decode b_Gl_init 137 = .ok (.invokespecial 64, 3) := by decide +kernel
theorem d_Gl_init_140 : decode b_Gl_init 140 = .ok (.putfield 65, 3) := by decide +kernel
theorem d_Gl_init_143 : decode b_Gl_init 143 = .ok (.return_, 1) := by decide +kernel
theorem d_Gl_about_0 : decode b_Gl_about 0 = .ok (.aload_n 0, 1) := by decide +kernel
theorem d_Gl_about_1 : decode b_Gl_about 1 = .ok (.getfield 16, 3) := by decide +kernel
theorem d_Gl_about_4 : decode b_Gl_about 4 = .ok (.iload_n 1, 1) := by decide +kernel
theorem d_Gl_about_5 : decode b_Gl_about 5 = .ok (.invokevirtual 88, 3) := by decide +kernel
theorem d_Gl_about_8 : decode b_Gl_about 8 = .ok (.ifCond .eq 20, 3) := by decide +kernel
theorem d_Gl_about_11 : decode b_Gl_about 11 = .ok (.iload_n 2, 1) := by decide +kernel
theorem d_Gl_about_12 : decode b_Gl_about 12 = .ok (.iconst (-1), 1) := by decide +kernel
theorem d_Gl_about_13 : decode b_Gl_about 13 = .ok (.if_icmp .lt 15, 3) := by decide +kernel
theorem d_Gl_about_16 : decode b_Gl_about 16 = .ok (.iload_n 2, 1) := by decide +kernel
theorem d_Gl_about_17 : decode b_Gl_about 17 = .ok (.aload_n 0, 1) := by decide +kernel
theorem d_Gl_about_18 : decode b_Gl_about 18 = .ok (.getfield 16, 3) := by decide +kernel
theorem d_Gl_about_21 : decode b_Gl_about 21 = .ok (.iload_n 1, 1) := by decide +kernel
theorem d_Gl_about_22 : decode b_Gl_about 22 = .ok (.invokevirtual 98, 3) := by decide +kernel
theorem d_Gl_about_25 : decode b_Gl_about 25 = .ok (.if_icmp .lt 5, 3) := by decide +kernel
theorem d_Gl_about_28 : decode b_Gl_about 28 = .ok (.iconst (-1), 1) := by decide +kernel
theorem d_Gl_about_29 : decode b_Gl_about 29 = .ok (.ireturn, 1) := by decide +kernel
theorem d_Gl_about_30 : decode b_Gl_about 30 = .ok (.iload_n 2, 1) := by decide +kernel
theorem d_Gl_about_31 : decode b_Gl_about 31 = .ok (.iconst (-1), 1) := by decide +kernel
theorem d_Gl_about_32 : decode b_Gl_about 32 = .ok (.if_icmp .ne 14, 3) := by decide +kernel
theorem d_Gl_about_35 : decode b_Gl_about 35 = .ok (.aload_n 0, 1) := by decide +kernel
theorem d_Gl_about_36 : decode b_Gl_about 36 = .ok (.getfield 16, 3) := by decide +kernel
theorem d_Gl_about_39 : decode b_Gl_about 39 = .ok (.iload_n 1, 1) := by decide +kernel
theorem d_Gl_about_40 : decode b_Gl_about 40 = .ok (.invokevirtual 102, 3) := by decide +kernel
theorem d_Gl_about_43 : decode b_Gl_about 43 = .ok (.goto 12, 3) := by decide +kernel
theorem d_Gl_about_46 : decode b_Gl_about 46 = .ok (.aload_n 0, 1) := by decide +kernel
theorem d_Gl_about_47 : decode b_Gl_about 47 = .ok (.getfield 16, 3) := by decide +kernel
theorem d_Gl_about_50 : decode b_Gl_about 50 = .ok (.iload_n 1, 1) := by decide +kernel
theorem d_Gl_about_51 : decode b_Gl_about 51 = .ok (.iload_n 2, 1) := by decide +kernel
theorem d_Gl_about_52 : decode b_Gl_about 52 = .ok (.invokevirtual 105, 3) := by decide +kernel
theorem d_Gl_about_55 : decode b_Gl_about 55 = .ok (.ireturn, 1) := by decide +kernel
theorem d_Gl_circle_0 : decode b_Gl_circle 0 = .ok (.aload_n 0, 1) := by decide +kernel
theorem d_Gl_circle_1 : decode b_Gl_circle 1 = .ok (.invokevirtual 109, 3) := by decide +kernel
theorem d_Gl_circle_4 : decode b_Gl_circle 4 = .ok (.aload_n 0, 1) := by decide +kernel
theorem d_Gl_circle_5 : decode b_Gl_circle 5 = .ok (.getfield 34, 3) := by decide +kernel
theorem d_Gl_circle_8 : decode b_Gl_circle 8 = .ok (.invokevirtual 118, 3) := by decide +kernel
theorem d_Gl_circle_11 : decode b_Gl_circle 11 = .ok (.ireturn, 1) := by decide +kernel
theorem d_Gl_count_0 : decode b_Gl_count 0 = .ok (.iload_n 1, 1) := by decide +kernel
theorem d_Gl_count_1 : decode b_Gl_count 1 = .ok (.tableswitch 48 0 2 #[27, 35, 40], 27) := by decide +kernel
theorem d_Gl_count_28 : decode b_Gl_count 28 = .ok (.aload_n 0, 1) := by decide +kernel
theorem d_Gl_count_29 : decode b_Gl_count 29 = .ok (.getfield 16, 3) := by decide +kernel
theorem d_Gl_count_32 : decode b_Gl_count 32 = .ok (.getfield 77, 3) := by decide +kernel
theorem d_Gl_count_35 : decode b_Gl_count 35 = .ok (.ireturn, 1) := by decide +kernel
theorem d_Gl_count_36 : decode b_Gl_count 36 = .ok (.aload_n 0, 1) := by decide +kernel
theorem d_Gl_count_37 : decode b_Gl_count 37 = .ok (.getfield 69, 3) := by decide +kernel
theorem d_Gl_count_40 : decode b_Gl_count 40 = .ok (.ireturn, 1) := by decide +kernel
theorem d_Gl_count_41 : decode b_Gl_count 41 = .ok (.aload_n 0, 1) := by decide +kernel
theorem d_Gl_count_42 : decode b_Gl_count 42 = .ok (.getfield 65, 3) := by decide +kernel
theorem d_Gl_count_45 : decode b_Gl_count 45 = .ok (.getfield 95, 3) := by decide +kernel
theorem d_Gl_count_48 : decode b_Gl_count 48 = .ok (.ireturn, 1) := by decide +kernel
theorem d_Gl_count_49 : decode b_Gl_count 49 = .ok (.iconst (-1), 1) := by decide +kernel
theorem d_Gl_count_50 : decode b_Gl_count 50 = .ok (.ireturn, 1) := by decide +kernel
theorem d_Gl_draw_0 : decode b_Gl_draw 0 = .ok (.lload_n 3, 1) := by decide +kernel
theorem d_Gl_draw_1 : decode b_Gl_draw 1 = .ok (.lconst 0, 1) := by decide +kernel
theorem d_Gl_draw_2 : decode b_Gl_draw 2 = .ok (.lcmp, 1) := by decide +kernel
theorem d_Gl_draw_3 : decode b_Gl_draw 3 = .ok (.ifCond .lt 14, 3) := by decide +kernel
theorem d_Gl_draw_6 : decode b_Gl_draw 6 = .ok (.lload_n 3, 1) := by decide +kernel
theorem d_Gl_draw_7 : decode b_Gl_draw 7 = .ok (.aload_n 0, 1) := by decide +kernel
theorem d_Gl_draw_8 : decode b_Gl_draw 8 = .ok (.iload_n 1, 1) := by decide +kernel
theorem d_Gl_draw_9 : decode b_Gl_draw 9 = .ok (.iload_n 2, 1) := by decide +kernel
theorem d_Gl_draw_10 : decode b_Gl_draw 10 = .ok (.invokevirtual 138, 3) := by decide +kernel
theorem d_Gl_draw_13 : decode b_Gl_draw 13 = .ok (.lcmp, 1) := by decide +kernel
theorem d_Gl_draw_14 : decode b_Gl_draw 14 = .ok (.ifCond .lt 5, 3) := by decide +kernel
theorem d_Gl_draw_17 : decode b_Gl_draw 17 = .ok (.iconst (-1), 1) := by decide +kernel
theorem d_Gl_draw_18 : decode b_Gl_draw 18 = .ok (.ireturn, 1) := by decide +kernel
theorem d_Gl_draw_19 : decode b_Gl_draw 19 = .ok (.aload_n 0, 1) := by decide +kernel
theorem d_Gl_draw_20 : decode b_Gl_draw 20 = .ok (.getfield 58, 3) := by decide +kernel
theorem d_Gl_draw_23 : decode b_Gl_draw 23 = .ok (.iload_n 1, 1) := by decide +kernel
theorem d_Gl_draw_24 : decode b_Gl_draw 24 = .ok (.iload_n 2, 1) := by decide +kernel
theorem d_Gl_draw_25 : decode b_Gl_draw 25 = .ok (.lload_n 3, 1) := by decide +kernel
theorem d_Gl_draw_26 : decode b_Gl_draw 26 = .ok (.invokevirtual 141, 3) := by decide +kernel
theorem d_Gl_draw_29 : decode b_Gl_draw 29 = .ok (.ireturn, 1) := by decide +kernel
theorem d_Gl_drop_0 : decode b_Gl_drop 0 = .ok (.aload_n 0, 1) := by decide +kernel
theorem d_Gl_drop_1 : decode b_Gl_drop 1 = .ok (.getfield 16, 3) := by decide +kernel
theorem d_Gl_drop_4 : decode b_Gl_drop 4 = .ok (.iload_n 1, 1) := by decide +kernel
theorem d_Gl_drop_5 : decode b_Gl_drop 5 = .ok (.invokevirtual 88, 3) := by decide +kernel
theorem d_Gl_drop_8 : decode b_Gl_drop 8 = .ok (.ifCond .ne 5, 3) := by decide +kernel
theorem d_Gl_drop_11 : decode b_Gl_drop 11 = .ok (.iconst 0, 1) := by decide +kernel
theorem d_Gl_drop_12 : decode b_Gl_drop 12 = .ok (.ireturn, 1) := by decide +kernel
theorem d_Gl_drop_13 : decode b_Gl_drop 13 = .ok (.aload_n 0, 1) := by decide +kernel
theorem d_Gl_drop_14 : decode b_Gl_drop 14 = .ok (.iconst 0, 1) := by decide +kernel
theorem d_Gl_drop_15 : decode b_Gl_drop 15 = .ok (.putfield 80, 3) := by decide +kernel
theorem d_Gl_drop_18 : decode b_Gl_drop 18 = .ok (.aload_n 0, 1) := by decide +kernel
theorem d_Gl_drop_19 : decode b_Gl_drop 19 = .ok (.getfield 16, 3) := by decide +kernel
theorem d_Gl_drop_22 : decode b_Gl_drop 22 = .ok (.iload_n 1, 1) := by decide +kernel
theorem d_Gl_drop_23 : decode b_Gl_drop 23 = .ok (.invokevirtual 91, 3) := by decide +kernel
theorem d_Gl_drop_26 : decode b_Gl_drop 26 = .ok (.iconst 1, 1) := by decide +kernel
theorem d_Gl_drop_27 : decode b_Gl_drop 27 = .ok (.ireturn, 1) := by decide +kernel
theorem d_Gl_isCounted_0 : decode b_Gl_isCounted 0 = .ok (.aload_n 0, 1) := by decide +kernel
theorem d_Gl_isCounted_1 : decode b_Gl_isCounted 1 = .ok (.invokevirtual 109, 3) := by decide +kernel
theorem d_Gl_isCounted_4 : decode b_Gl_isCounted 4 = .ok (.iload_n 1, 1) := by decide +kernel
theorem d_Gl_isCounted_5 : decode b_Gl_isCounted 5 = .ok (.ifCond .lt 23, 3) := by decide +kernel
theorem d_Gl_isCounted_8 : decode b_Gl_isCounted 8 = .ok (.iload_n 1, 1) := by decide +kernel
theorem d_Gl_isCounted_9 : decode b_Gl_isCounted 9 = .ok (.bipush 16, 2) := by decide +kernel
theorem d_Gl_isCounted_11 : decode b_Gl_isCounted 11 = .ok (.if_icmp .gt 17, 3) := by decide +kernel
theorem d_Gl_isCounted_14 : decode b_Gl_isCounted 14 = .ok (.aload_n 0, 1) := by decide +kernel
end
section
theorem d_Gl_isCounted_15 : decode b_Gl_isCounted 15 = .ok (.getfield 34, 3) := by decide +kernel
theorem d_Gl_isCounted_18 : decode b_Gl_isCounted 18 = .ok (.invokevirtual 118, 3) := by decide +kernel
theorem d_Gl_isCounted_21 : decode b_Gl_isCounted 21 = .ok (.ifCond .ne 7, 3) := by decide +kernel
theorem d_Gl_isCounted_24 : decode b_Gl_isCounted 24 = .ok (.iconst 1, 1) := by decide +kernel
theorem d_Gl_isCounted_25 : decode b_Gl_isCounted 25 = .ok (.goto 4, 3) := by decide +kernel
theorem d_Gl_isCounted_28 : decode b_Gl_isCounted 28 = .ok (.iconst 0, 1) := by decide +kernel
theorem d_Gl_isCounted_29 : decode b_Gl_isCounted 29 = .ok (.ireturn, 1) := by decide +kernel
theorem d_Gl_isNonterminal_0 : decode b_Gl_isNonterminal 0 = .ok (.iload_n 0, 1) := by decide +kernel
theorem d_Gl_isNonterminal_1 : decode b_Gl_isNonterminal 1 = .ok (.ifCond .lt 13, 3) := by decide +kernel
theorem d_Gl_isNonterminal_4 : decode b_Gl_isNonterminal 4 = .ok (.iload_n 0, 1) := by decide +kernel
theorem d_Gl_isNonterminal_5 : decode b_Gl_isNonterminal 5 = .ok (.bipush 8, 2) := by decide +kernel
theorem d_Gl_isNonterminal_7 : decode b_Gl_isNonterminal 7 = .ok (.if_icmp .ge 7, 3) := by decide +kernel
theorem d_Gl_isNonterminal_10 : decode b_Gl_isNonterminal 10 = .ok (.iconst 1, 1) := by decide +kernel
theorem d_Gl_isNonterminal_11 : decode b_Gl_isNonterminal 11 = .ok (.goto 4, 3) := by decide +kernel
theorem d_Gl_isNonterminal_14 : decode b_Gl_isNonterminal 14 = .ok (.iconst 0, 1) := by decide +kernel
theorem d_Gl_isNonterminal_15 : decode b_Gl_isNonterminal 15 = .ok (.ireturn, 1) := by decide +kernel
theorem d_Gl_leaf_0 : decode b_Gl_leaf 0 = .ok (.aload_n 0, 1) := by decide +kernel
theorem d_Gl_leaf_1 : decode b_Gl_leaf 1 = .ok (.getfield 58, 3) := by decide +kernel
theorem d_Gl_leaf_4 : decode b_Gl_leaf 4 = .ok (.iload_n 1, 1) := by decide +kernel
theorem d_Gl_leaf_5 : decode b_Gl_leaf 5 = .ok (.invokevirtual 148, 3) := by decide +kernel
theorem d_Gl_leaf_8 : decode b_Gl_leaf 8 = .ok (.ireturn, 1) := by decide +kernel
theorem d_Gl_list_0 : decode b_Gl_list 0 = .ok (.aload_n 0, 1) := by decide +kernel
theorem d_Gl_list_1 : decode b_Gl_list 1 = .ok (.getfield 65, 3) := by decide +kernel
theorem d_Gl_list_4 : decode b_Gl_list 4 = .ok (.iload_n 1, 1) := by decide +kernel
theorem d_Gl_list_5 : decode b_Gl_list 5 = .ok (.invokevirtual 151, 3) := by decide +kernel
theorem d_Gl_list_8 : decode b_Gl_list 8 = .ok (.ireturn, 1) := by decide +kernel
theorem d_Gl_number_0 : decode b_Gl_number 0 = .ok (.ldc2_w 125, 3) := by decide +kernel
theorem d_Gl_number_3 : decode b_Gl_number 3 = .ok (.lstore_n 2, 1) := by decide +kernel
theorem d_Gl_number_4 : decode b_Gl_number 4 = .ok (.iload_n 1, 1) := by decide +kernel
theorem d_Gl_number_5 : decode b_Gl_number 5 = .ok (.invokestatic 73, 3) := by decide +kernel
theorem d_Gl_number_8 : decode b_Gl_number 8 = .ok (.ifCond .eq 19, 3) := by decide +kernel
theorem d_Gl_number_11 : decode b_Gl_number 11 = .ok (.aload_n 0, 1) := by decide +kernel
theorem d_Gl_number_12 : decode b_Gl_number 12 = .ok (.invokevirtual 153, 3) := by decide +kernel
theorem d_Gl_number_15 : decode b_Gl_number 15 = .ok (.ifCond .ne 12, 3) := by decide +kernel
theorem d_Gl_number_18 : decode b_Gl_number 18 = .ok (.aload_n 0, 1) := by decide +kernel
theorem d_Gl_number_19 : decode b_Gl_number 19 = .ok (.getfield 65, 3) := by decide +kernel
theorem d_Gl_number_22 : decode b_Gl_number 22 = .ok (.iload_n 1, 1) := by decide +kernel
theorem d_Gl_number_23 : decode b_Gl_number 23 = .ok (.invokevirtual 156, 3) := by decide +kernel
theorem d_Gl_number_26 : decode b_Gl_number 26 = .ok (.lstore_n 2, 1) := by decide +kernel
theorem d_Gl_number_27 : decode b_Gl_number 27 = .ok (.aload_n 0, 1) := by decide +kernel
theorem d_Gl_number_28 : decode b_Gl_number 28 = .ok (.getfield 65, 3) := by decide +kernel
theorem d_Gl_number_31 : decode b_Gl_number 31 = .ok (.iconst 0, 1) := by decide +kernel
theorem d_Gl_number_32 : decode b_Gl_number 32 = .ok (.putfield 95, 3) := by decide +kernel
theorem d_Gl_number_35 : decode b_Gl_number 35 = .ok (.lload_n 2, 1) := by decide +kernel
theorem d_Gl_number_36 : decode b_Gl_number 36 = .ok (.lreturn, 1) := by decide +kernel
theorem d_Gl_row_0 : decode b_Gl_row 0 = .ok (.aload_n 0, 1) := by decide +kernel
theorem d_Gl_row_1 : decode b_Gl_row 1 = .ok (.getfield 58, 3) := by decide +kernel
theorem d_Gl_row_4 : decode b_Gl_row 4 = .ok (.iload_n 1, 1) := by decide +kernel
theorem d_Gl_row_5 : decode b_Gl_row 5 = .ok (.invokevirtual 145, 3) := by decide +kernel
theorem d_Gl_row_8 : decode b_Gl_row 8 = .ok (.ireturn, 1) := by decide +kernel
theorem d_Gl_rule_0 : decode b_Gl_rule 0 = .ok (.aload_n 0, 1) := by decide +kernel
theorem d_Gl_rule_1 : decode b_Gl_rule 1 = .ok (.getfield 69, 3) := by decide +kernel
theorem d_Gl_rule_4 : decode b_Gl_rule 4 = .ok (.istore_n 2, 1) := by decide +kernel
theorem d_Gl_rule_5 : decode b_Gl_rule 5 = .ok (.aload_n 0, 1) := by decide +kernel
theorem d_Gl_rule_6 : decode b_Gl_rule 6 = .ok (.iconst 0, 1) := by decide +kernel
theorem d_Gl_rule_7 : decode b_Gl_rule 7 = .ok (.putfield 69, 3) := by decide +kernel
theorem d_Gl_rule_10 : decode b_Gl_rule 10 = .ok (.iload_n 1, 1) := by decide +kernel
theorem d_Gl_rule_11 : decode b_Gl_rule 11 = .ok (.invokestatic 73, 3) := by decide +kernel
theorem d_Gl_rule_14 : decode b_Gl_rule 14 = .ok (.ifCond .eq 15, 3) := by decide +kernel
theorem d_Gl_rule_17 : decode b_Gl_rule 17 = .ok (.aload_n 0, 1) := by decide +kernel
theorem d_Gl_rule_18 : decode b_Gl_rule 18 = .ok (.getfield 16, 3) := by decide +kernel
theorem d_Gl_rule_21 : decode b_Gl_rule 21 = .ok (.getfield 77, 3) := by decide +kernel
theorem d_Gl_rule_24 : decode b_Gl_rule 24 = .ok (.bipush 24, 2) := by decide +kernel
theorem d_Gl_rule_26 : decode b_Gl_rule 26 = .ok (.if_icmp .lt 5, 3) := by decide +kernel
theorem d_Gl_rule_29 : decode b_Gl_rule 29 = .ok (.iconst (-1), 1) := by decide +kernel
theorem d_Gl_rule_30 : decode b_Gl_rule 30 = .ok (.ireturn, 1) := by decide +kernel
theorem d_Gl_rule_31 : decode b_Gl_rule 31 = .ok (.aload_n 0, 1) := by decide +kernel
theorem d_Gl_rule_32 : decode b_Gl_rule 32 = .ok (.iconst 0, 1) := by decide +kernel
theorem d_Gl_rule_33 : decode b_Gl_rule 33 = .ok (.putfield 80, 3) := by decide +kernel
theorem d_Gl_rule_36 : decode b_Gl_rule 36 = .ok (.aload_n 0, 1) := by decide +kernel
theorem d_Gl_rule_37 : decode b_Gl_rule 37 = .ok (.getfield 16, 3) := by decide +kernel
theorem d_Gl_rule_40 : decode b_Gl_rule 40 = .ok (.iload_n 1, 1) := by decide +kernel
theorem d_Gl_rule_41 : decode b_Gl_rule 41 = .ok (.aload_n 0, 1) := by decide +kernel
theorem d_Gl_rule_42 : decode b_Gl_rule 42 = .ok (.getfield 9, 3) := by decide +kernel
theorem d_Gl_rule_45 : decode b_Gl_rule 45 = .ok (.iload_n 2, 1) := by decide +kernel
theorem d_Gl_rule_46 : decode b_Gl_rule 46 = .ok (.invokevirtual 84, 3) := by decide +kernel
theorem d_Gl_rule_49 : decode b_Gl_rule 49 = .ok (.ireturn, 1) := by decide +kernel
theorem d_Gl_shortest_0 : decode b_Gl_shortest 0 = .ok (.iload_n 1, 1) := by decide +kernel
theorem d_Gl_shortest_1 : decode b_Gl_shortest 1 = .ok (.invokestatic 73, 3) := by decide +kernel
theorem d_Gl_shortest_4 : decode b_Gl_shortest 4 = .ok (.ifCond .ne 5, 3) := by decide +kernel
theorem d_Gl_shortest_7 : decode b_Gl_shortest 7 = .ok (.iconst (-1), 1) := by decide +kernel
theorem d_Gl_shortest_8 : decode b_Gl_shortest 8 = .ok (.ireturn, 1) := by decide +kernel
theorem d_Gl_shortest_9 : decode b_Gl_shortest 9 = .ok (.aload_n 0, 1) := by decide +kernel
theorem d_Gl_shortest_10 : decode b_Gl_shortest 10 = .ok (.invokevirtual 109, 3) := by decide +kernel
theorem d_Gl_shortest_13 : decode b_Gl_shortest 13 = .ok (.aload_n 0, 1) := by decide +kernel
theorem d_Gl_shortest_14 : decode b_Gl_shortest 14 = .ok (.getfield 25, 3) := by decide +kernel
theorem d_Gl_shortest_17 : decode b_Gl_shortest 17 = .ok (.iload_n 1, 1) := by decide +kernel
theorem d_Gl_shortest_18 : decode b_Gl_shortest 18 = .ok (.invokevirtual 112, 3) := by decide +kernel
theorem d_Gl_shortest_21 : decode b_Gl_shortest 21 = .ok (.ireturn, 1) := by decide +kernel
theorem d_Gl_shortestWith_0 : decode b_Gl_shortestWith 0 = .ok (.aload_n 0, 1) := by decide +kernel
theorem d_Gl_shortestWith_1 : decode b_Gl_shortestWith 1 = .ok (.getfield 16, 3) := by decide +kernel
theorem d_Gl_shortestWith_4 : decode b_Gl_shortestWith 4 = .ok (.iload_n 1, 1) := by decide +kernel
theorem d_Gl_shortestWith_5 : decode b_Gl_shortestWith 5 = .ok (.invokevirtual 88, 3) := by decide +kernel
theorem d_Gl_shortestWith_8 : decode b_Gl_shortestWith 8 = .ok (.ifCond .ne 5, 3) := by decide +kernel
theorem d_Gl_shortestWith_11 : decode b_Gl_shortestWith 11 = .ok (.iconst (-1), 1) := by decide +kernel
theorem d_Gl_shortestWith_12 : decode b_Gl_shortestWith 12 = .ok (.ireturn, 1) := by decide +kernel
theorem d_Gl_shortestWith_13 : decode b_Gl_shortestWith 13 = .ok (.aload_n 0, 1) := by decide +kernel
theorem d_Gl_shortestWith_14 : decode b_Gl_shortestWith 14 = .ok (.invokevirtual 109, 3) := by decide +kernel
theorem d_Gl_shortestWith_17 : decode b_Gl_shortestWith 17 = .ok (.aload_n 0, 1) := by decide +kernel
theorem d_Gl_shortestWith_18 : decode b_Gl_shortestWith 18 = .ok (.getfield 25, 3) := by decide +kernel
theorem d_Gl_shortestWith_21 : decode b_Gl_shortestWith 21 = .ok (.iload_n 1, 1) := by decide +kernel
theorem d_Gl_shortestWith_22 : decode b_Gl_shortestWith 22 = .ok (.invokevirtual 115, 3) := by decide +kernel
theorem d_Gl_shortestWith_25 : decode b_Gl_shortestWith 25 = .ok (.ireturn, 1) := by decide +kernel
theorem d_Gl_study_0 : decode b_Gl_study 0 = .ok (.aload_n 0, 1) := by decide +kernel
theorem d_Gl_study_1 : decode b_Gl_study 1 = .ok (.getfield 80, 3) := by decide +kernel
theorem d_Gl_study_4 : decode b_Gl_study 4 = .ok (.ifCond .eq 4, 3) := by decide +kernel
theorem d_Gl_study_7 : decode b_Gl_study 7 = .ok (.return_, 1) := by decide +kernel
theorem d_Gl_study_8 : decode b_Gl_study 8 = .ok (.aload_n 0, 1) := by decide +kernel
theorem d_Gl_study_9 : decode b_Gl_study 9 = .ok (.iconst 1, 1) := by decide +kernel
theorem d_Gl_study_10 : decode b_Gl_study 10 = .ok (.putfield 80, 3) := by decide +kernel
theorem d_Gl_study_13 : decode b_Gl_study 13 = .ok (.aload_n 0, 1) := by decide +kernel
theorem d_Gl_study_14 : decode b_Gl_study 14 = .ok (.getfield 25, 3) := by decide +kernel
theorem d_Gl_study_17 : decode b_Gl_study 17 = .ok (.invokevirtual 160, 3) := by decide +kernel
theorem d_Gl_study_20 : decode b_Gl_study 20 = .ok (.aload_n 0, 1) := by decide +kernel
theorem d_Gl_study_21 : decode b_Gl_study 21 = .ok (.getfield 34, 3) := by decide +kernel
theorem d_Gl_study_24 : decode b_Gl_study 24 = .ok (.invokevirtual 163, 3) := by decide +kernel
theorem d_Gl_study_27 : decode b_Gl_study 27 = .ok (.aload_n 0, 1) := by decide +kernel
theorem d_Gl_study_28 : decode b_Gl_study 28 = .ok (.getfield 43, 3) := by decide +kernel
theorem d_Gl_study_31 : decode b_Gl_study 31 = .ok (.invokevirtual 164, 3) := by decide +kernel
theorem d_Gl_study_34 : decode b_Gl_study 34 = .ok (.aload_n 0, 1) := by decide +kernel
theorem d_Gl_study_35 : decode b_Gl_study 35 = .ok (.getfield 47, 3) := by decide +kernel
theorem d_Gl_study_38 : decode b_Gl_study 38 = .ok (.invokevirtual 164, 3) := by decide +kernel
theorem d_Gl_study_41 : decode b_Gl_study 41 = .ok (.return_, 1) := by decide +kernel
theorem d_Gl_symbol_0 : decode b_Gl_symbol 0 = .ok (.iload_n 1, 1) := by decide +kernel
theorem d_Gl_symbol_1 : decode b_Gl_symbol 1 = .ok (.ifCond .lt 18, 3) := by decide +kernel
theorem d_Gl_symbol_4 : decode b_Gl_symbol 4 = .ok (.iload_n 1, 1) := by decide +kernel
theorem d_Gl_symbol_5 : decode b_Gl_symbol 5 = .ok (.bipush 24, 2) := by decide +kernel
theorem d_Gl_symbol_7 : decode b_Gl_symbol 7 = .ok (.if_icmp .ge 12, 3) := by decide +kernel
theorem d_Gl_symbol_10 : decode b_Gl_symbol 10 = .ok (.aload_n 0, 1) := by decide +kernel
theorem d_Gl_symbol_11 : decode b_Gl_symbol 11 = .ok (.getfield 69, 3) := by decide +kernel
theorem d_Gl_symbol_14 : decode b_Gl_symbol 14 = .ok (.bipush 6, 2) := by decide +kernel
theorem d_Gl_symbol_16 : decode b_Gl_symbol 16 = .ok (.if_icmp .lt 5, 3) := by decide +kernel
theorem d_Gl_symbol_19 : decode b_Gl_symbol 19 = .ok (.iconst (-1), 1) := by decide +kernel
theorem d_Gl_symbol_20 : decode b_Gl_symbol 20 = .ok (.ireturn, 1) := by decide +kernel
theorem d_Gl_symbol_21 : decode b_Gl_symbol 21 = .ok (.aload_n 0, 1) := by decide +kernel
theorem d_Gl_symbol_22 : decode b_Gl_symbol 22 = .ok (.getfield 9, 3) := by decide +kernel
theorem d_Gl_symbol_25 : decode b_Gl_symbol 25 = .ok (.aload_n 0, 1) := by decide +kernel
theorem d_Gl_symbol_26 : decode b_Gl_symbol 26 = .ok (.getfield 69, 3) := by decide +kernel
theorem d_Gl_symbol_29 : decode b_Gl_symbol 29 = .ok (.iload_n 1, 1) := by decide +kernel
theorem d_Gl_symbol_30 : decode b_Gl_symbol 30 = .ok (.iastore, 1) := by decide +kernel
theorem d_Gl_symbol_31 : decode b_Gl_symbol 31 = .ok (.aload_n 0, 1) := by decide +kernel
theorem d_Gl_symbol_32 : decode b_Gl_symbol 32 = .ok (.dup, 1) := by decide +kernel
theorem d_Gl_symbol_33 : decode b_Gl_symbol 33 = .ok (.getfield 69, 3) := by decide +kernel
theorem d_Gl_symbol_36 : decode b_Gl_symbol 36 = .ok (.iconst 1, 1) := by decide +kernel
theorem d_Gl_symbol_37 : decode b_Gl_symbol 37 = .ok (.iadd, 1) := by decide +kernel
theorem d_Gl_symbol_38 : decode b_Gl_symbol 38 = .ok (.putfield 69, 3) := by decide +kernel
theorem d_Gl_symbol_41 : decode b_Gl_symbol 41 = .ok (.aload_n 0, 1) := by decide +kernel
theorem d_Gl_symbol_42 : decode b_Gl_symbol 42 = .ok (.getfield 69, 3) := by decide +kernel
theorem d_Gl_symbol_45 : decode b_Gl_symbol 45 = .ok (.ireturn, 1) := by decide +kernel
theorem d_Gl_trees_0 : decode b_Gl_trees 0 = .ok (.iload_n 1, 1) := by decide +kernel
theorem d_Gl_trees_1 : decode b_Gl_trees 1 = .ok (.invokestatic 73, 3) := by decide +kernel
theorem d_Gl_trees_4 : decode b_Gl_trees 4 = .ok (.ifCond .eq 11, 3) := by decide +kernel
theorem d_Gl_trees_7 : decode b_Gl_trees 7 = .ok (.aload_n 0, 1) := by decide +kernel
theorem d_Gl_trees_8 : decode b_Gl_trees 8 = .ok (.iload_n 2, 1) := by decide +kernel
theorem d_Gl_trees_9 : decode b_Gl_trees 9 = .ok (.invokevirtual 122, 3) := by decide +kernel
theorem d_Gl_trees_12 : decode b_Gl_trees 12 = .ok (.ifCond .ne 7, 3) := by decide +kernel
theorem d_Gl_trees_15 : decode b_Gl_trees 15 = .ok (.ldc2_w 125, 3) := by decide +kernel
theorem d_Gl_trees_18 : decode b_Gl_trees 18 = .ok (.lreturn, 1) := by decide +kernel
theorem d_Gl_trees_19 : decode b_Gl_trees 19 = .ok (.aload_n 0, 1) := by decide +kernel
theorem d_Gl_trees_20 : decode b_Gl_trees 20 = .ok (.getfield 43, 3) := by decide +kernel
theorem d_Gl_trees_23 : decode b_Gl_trees 23 = .ok (.iload_n 1, 1) := by decide +kernel
theorem d_Gl_trees_24 : decode b_Gl_trees 24 = .ok (.iload_n 2, 1) := by decide +kernel
theorem d_Gl_trees_25 : decode b_Gl_trees 25 = .ok (.invokevirtual 127, 3) := by decide +kernel
theorem d_Gl_trees_28 : decode b_Gl_trees 28 = .ok (.lstore_n 3, 1) := by decide +kernel
theorem d_Gl_trees_29 : decode b_Gl_trees 29 = .ok (.lload_n 3, 1) := by decide +kernel
theorem d_Gl_trees_30 : decode b_Gl_trees 30 = .ok (.ldc2_w 131, 3) := by decide +kernel
theorem d_Gl_trees_33 : decode b_Gl_trees 33 = .ok (.lcmp, 1) := by decide +kernel
theorem d_Gl_trees_34 : decode b_Gl_trees 34 = .ok (.ifCond .le 9, 3) := by decide +kernel
theorem d_Gl_trees_37 : decode b_Gl_trees 37 = .ok (.ldc2_w 133, 3) := by decide +kernel
theorem d_Gl_trees_40 : decode b_Gl_trees 40 = .ok (.goto 4, 3) := by decide +kernel
theorem d_Gl_trees_43 : decode b_Gl_trees 43 = .ok (.lload_n 3, 1) := by decide +kernel
theorem d_Gl_trees_44 : decode b_Gl_trees 44 = .ok (.lreturn, 1) := by decide +kernel
theorem d_Gl_treesWith_0 : decode b_Gl_treesWith 0 = .ok (.aload_n 0, 1) := by decide +kernel
theorem d_Gl_treesWith_1 : decode b_Gl_treesWith 1 = .ok (.getfield 16, 3) := by decide +kernel
theorem d_Gl_treesWith_4 : decode b_Gl_treesWith 4 = .ok (.iload_n 1, 1) := by decide +kernel
theorem d_Gl_treesWith_5 : decode b_Gl_treesWith 5 = .ok (.invokevirtual 88, 3) := by decide +kernel
theorem d_Gl_treesWith_8 : decode b_Gl_treesWith 8 = .ok (.ifCond .eq 11, 3) := by decide +kernel
theorem d_Gl_treesWith_11 : decode b_Gl_treesWith 11 = .ok (.aload_n 0, 1) := by decide +kernel
theorem d_Gl_treesWith_12 : decode b_Gl_treesWith 12 = .ok (.iload_n 2, 1) := by decide +kernel
theorem d_Gl_treesWith_13 : decode b_Gl_treesWith 13 = .ok (.invokevirtual 122, 3) := by decide +kernel
theorem d_Gl_treesWith_16 : decode b_Gl_treesWith 16 = .ok (.ifCond .ne 7, 3) := by decide +kernel
theorem d_Gl_treesWith_19 : decode b_Gl_treesWith 19 = .ok (.ldc2_w 125, 3) := by decide +kernel
theorem d_Gl_treesWith_22 : decode b_Gl_treesWith 22 = .ok (.lreturn, 1) := by decide +kernel
theorem d_Gl_treesWith_23 : decode b_Gl_treesWith 23 = .ok (.aload_n 0, 1) := by decide +kernel
theorem d_Gl_treesWith_24 : decode b_Gl_treesWith 24 = .ok (.getfield 43, 3) := by decide +kernel
theorem d_Gl_treesWith_27 : decode b_Gl_treesWith 27 = .ok (.iconst 0, 1) := by decide +kernel
theorem d_Gl_treesWith_28 : decode b_Gl_treesWith 28 = .ok (.iload_n 2, 1) := by decide +kernel
theorem d_Gl_treesWith_29 : decode b_Gl_treesWith 29 = .ok (.invokevirtual 127, 3) := by decide +kernel
theorem d_Gl_treesWith_32 : decode b_Gl_treesWith 32 = .ok (.lstore_n 3, 1) := by decide +kernel
theorem d_Gl_treesWith_33 : decode b_Gl_treesWith 33 = .ok (.lload_n 3, 1) := by decide +kernel
theorem d_Gl_treesWith_34 : decode b_Gl_treesWith 34 = .ok (.ldc2_w 131, 3) := by decide +kernel
theorem d_Gl_treesWith_37 : decode b_Gl_treesWith 37 = .ok (.lcmp, 1) := by decide +kernel
theorem d_Gl_treesWith_38 : decode b_Gl_treesWith 38 = .ok (.ifCond .le 7, 3) := by decide +kernel
theorem d_Gl_treesWith_41 : decode b_Gl_treesWith 41 = .ok (.ldc2_w 133, 3) := by decide +kernel
theorem d_Gl_treesWith_44 : decode b_Gl_treesWith 44 = .ok (.lreturn, 1) := by decide +kernel
theorem d_Gl_treesWith_45 : decode b_Gl_treesWith 45 = .ok (.aload_n 0, 1) := by decide +kernel
theorem d_Gl_treesWith_46 : decode b_Gl_treesWith 46 = .ok (.getfield 47, 3) := by decide +kernel
theorem d_Gl_treesWith_49 : decode b_Gl_treesWith 49 = .ok (.iload_n 1, 1) := by decide +kernel
theorem d_Gl_treesWith_50 : decode b_Gl_treesWith 50 = .ok (.invokevirtual 135, 3) := by decide +kernel
theorem d_Gl_treesWith_53 : decode b_Gl_treesWith 53 = .ok (.lload_n 3, 1) := by decide +kernel
theorem d_Gl_treesWith_54 : decode b_Gl_treesWith 54 = .ok (.aload_n 0, 1) := by decide +kernel
theorem d_Gl_treesWith_55 : decode b_Gl_treesWith 55 = .ok (.getfield 47, 3) := by decide +kernel
theorem d_Gl_treesWith_58 : decode b_Gl_treesWith 58 = .ok (.iconst 0, 1) := by decide +kernel
theorem d_Gl_treesWith_59 : decode b_Gl_treesWith 59 = .ok (.iload_n 2, 1) := by decide +kernel
theorem d_Gl_treesWith_60 : decode b_Gl_treesWith 60 = .ok (.invokevirtual 127, 3) := by decide +kernel
theorem d_Gl_treesWith_63 : decode b_Gl_treesWith 63 = .ok (.lsub, 1) := by decide +kernel
theorem d_Gl_treesWith_64 : decode b_Gl_treesWith 64 = .ok (.lreturn, 1) := by decide +kernel
theorem d_Ar_fill_0 : decode b_Ar_fill 0 = .ok (.iconst 0, 1) := by decide +kernel
theorem d_Ar_fill_1 : decode b_Ar_fill 1 = .ok (.istore_n 2, 1) := by decide +kernel
theorem d_Ar_fill_2 : decode b_Ar_fill 2 = .ok (.aload_n 0, 1) := by decide +kernel
theorem d_Ar_fill_3 : decode b_Ar_fill 3 = .ok (.arraylength, 1) := by decide +kernel
theorem d_Ar_fill_4 : decode b_Ar_fill 4 = .ok (.istore_n 3, 1) := by decide +kernel
theorem d_Ar_fill_5 : decode b_Ar_fill 5 = .ok (.iload_n 2, 1) := by decide +kernel
theorem d_Ar_fill_6 : decode b_Ar_fill 6 = .ok (.iload_n 3, 1) := by decide +kernel
theorem d_Ar_fill_7 : decode b_Ar_fill 7 = .ok (.if_icmp .ge 13, 3) := by decide +kernel
theorem d_Ar_fill_10 : decode b_Ar_fill 10 = .ok (.aload_n 0, 1) := by decide +kernel
theorem d_Ar_fill_11 : decode b_Ar_fill 11 = .ok (.iload_n 2, 1) := by decide +kernel
theorem d_Ar_fill_12 : decode b_Ar_fill 12 = .ok (.iload_n 1, 1) := by decide +kernel
theorem d_Ar_fill_13 : decode b_Ar_fill 13 = .ok (.iastore, 1) := by decide +kernel
theorem d_Ar_fill_14 : decode b_Ar_fill 14 = .ok (.iinc 2 1, 3) := by decide +kernel
theorem d_Ar_fill_17 : decode b_Ar_fill 17 = .ok (.goto (-12), 3) := by decide +kernel
theorem d_Ar_fill_20 : decode b_Ar_fill 20 = .ok (.return_, 1) := by decide +kernel
end
section
abbrev gs_T (cI cL : ClassId) : List (ClassId × FieldType) := [(cI, .int), (cL, .long)]
theorem sw_3_0 (x : Int32) : x = 0 ∨ x = 1 ∨ x = 2 ∨ (x.toInt < 0 ∨ 2 < x.toInt) := by
  by_cases h0 : x.toInt = 0
  · exact Or.inl (Int32.toInt_inj.mp h0)
  · by_cases h1 : x.toInt = 1
    · exact Or.inr (Or.inl (Int32.toInt_inj.mp h1))
    · by_cases h2 : x.toInt = 2
      · exact Or.inr (Or.inr (Or.inl (Int32.toInt_inj.mp h2)))
      · exact Or.inr (Or.inr (Or.inr (by omega)))
def wG (h : Nat → Nat) (cI cL : ClassId) (σ : gs_St) : va_W := [(h 0, .inr (8, [.ref (h 1), .int (σ.1 0), .ref (h 2), .ref (h 6), .ref (h 9), .ref (h 12), .ref (h 15), .ref (h 22), .ref (h 29), .int (σ.1 1)])),
  (h 1, .inl (cI, 6, .inl (σ.2.1 0))),
  (h 2, .inr (2, [.ref (h 3), .ref (h 4), .ref (h 5), .int (σ.1 2)])),
  (h 3, .inl (cI, 24, .inl (σ.2.1 1))),
  (h 4, .inl (cI, 24, .inl (σ.2.1 2))),
  (h 5, .inl (cI, 144, .inl (σ.2.1 3))),
  (h 6, .inr (4, [.ref (h 2), .ref (h 7), .ref (h 8)])),
  (h 7, .inl (cI, 8, .inl (σ.2.1 4))),
  (h 8, .inl (cI, 8, .inl (σ.2.1 5))),
  (h 9, .inr (3, [.ref (h 2), .ref (h 6), .ref (h 10), .ref (h 11), .int (σ.1 3)])),
  (h 10, .inl (cI, 8, .inl (σ.2.1 6))),
  (h 11, .inl (cI, 8, .inl (σ.2.1 7))),
  (h 12, .inr (0, [.ref (h 2), .ref (h 9), .ref (h 13), .ref (h 14), .int (σ.1 4), .int (σ.1 5)])),
  (h 13, .inl (cL, 136, .inr (.inl (σ.2.2 0)))),
  (h 14, .inl (cL, 2856, .inr (.inl (σ.2.2 1)))),
  (h 15, .inr (0, [.ref (h 2), .ref (h 9), .ref (h 16), .ref (h 17), .int (σ.1 6), .int (σ.1 7)])),
  (h 16, .inl (cL, 136, .inr (.inl (σ.2.2 2)))),
  (h 17, .inl (cL, 2856, .inr (.inl (σ.2.2 3)))),
  (h 18, .inr (6, [.ref (h 19), .ref (h 20), .ref (h 21), .int (σ.1 8)])),
  (h 19, .inl (cI, 216, .inl (σ.2.1 8))),
  (h 20, .inl (cI, 216, .inl (σ.2.1 9))),
  (h 21, .inl (cL, 216, .inr (.inl (σ.2.2 4)))),
  (h 22, .inr (7, [.ref (h 2), .ref (h 12), .ref (h 18), .ref (h 23), .ref (h 26), .int (σ.1 9)])),
  (h 23, .inr (1, [.ref (h 24), .ref (h 25), .int (σ.1 10), .int (σ.1 11)])),
  (h 24, .inl (cI, 200, .inl (σ.2.1 10))),
  (h 25, .inl (cI, 16, .inl (σ.2.1 11))),
  (h 26, .inr (1, [.ref (h 27), .ref (h 28), .int (σ.1 12), .int (σ.1 13)])),
  (h 27, .inl (cI, 200, .inl (σ.2.1 12))),
  (h 28, .inl (cI, 16, .inl (σ.2.1 13))),
  (h 29, .inr (5, [.ref (h 2), .ref (h 12), .ref (h 18), .ref (h 30), .int (σ.1 14)])),
  (h 30, .inl (cI, 200, .inl (σ.2.1 14)))]
theorem set_wG_A0 (h : Nat → Nat) (cI cL : ClassId) (σ : gs_St) (f : Nat → Int32) : (wG h cI cL σ).set 1 (h 1, .inl (cI, 6, .inl f)) = wG h cI cL (gs_A σ 0 f) := rfl
theorem set_wG_A1 (h : Nat → Nat) (cI cL : ClassId) (σ : gs_St) (f : Nat → Int32) : (wG h cI cL σ).set 3 (h 3, .inl (cI, 24, .inl f)) = wG h cI cL (gs_A σ 1 f) := rfl
theorem set_wG_A2 (h : Nat → Nat) (cI cL : ClassId) (σ : gs_St) (f : Nat → Int32) : (wG h cI cL σ).set 4 (h 4, .inl (cI, 24, .inl f)) = wG h cI cL (gs_A σ 2 f) := rfl
theorem set_wG_A3 (h : Nat → Nat) (cI cL : ClassId) (σ : gs_St) (f : Nat → Int32) : (wG h cI cL σ).set 5 (h 5, .inl (cI, 144, .inl f)) = wG h cI cL (gs_A σ 3 f) := rfl
theorem set_wG_A4 (h : Nat → Nat) (cI cL : ClassId) (σ : gs_St) (f : Nat → Int32) : (wG h cI cL σ).set 7 (h 7, .inl (cI, 8, .inl f)) = wG h cI cL (gs_A σ 4 f) := rfl
theorem set_wG_A5 (h : Nat → Nat) (cI cL : ClassId) (σ : gs_St) (f : Nat → Int32) : (wG h cI cL σ).set 8 (h 8, .inl (cI, 8, .inl f)) = wG h cI cL (gs_A σ 5 f) := rfl
theorem set_wG_A6 (h : Nat → Nat) (cI cL : ClassId) (σ : gs_St) (f : Nat → Int32) : (wG h cI cL σ).set 10 (h 10, .inl (cI, 8, .inl f)) = wG h cI cL (gs_A σ 6 f) := rfl
theorem set_wG_A7 (h : Nat → Nat) (cI cL : ClassId) (σ : gs_St) (f : Nat → Int32) : (wG h cI cL σ).set 11 (h 11, .inl (cI, 8, .inl f)) = wG h cI cL (gs_A σ 7 f) := rfl
theorem set_wG_A8 (h : Nat → Nat) (cI cL : ClassId) (σ : gs_St) (f : Nat → Int32) : (wG h cI cL σ).set 19 (h 19, .inl (cI, 216, .inl f)) = wG h cI cL (gs_A σ 8 f) := rfl
theorem set_wG_A9 (h : Nat → Nat) (cI cL : ClassId) (σ : gs_St) (f : Nat → Int32) : (wG h cI cL σ).set 20 (h 20, .inl (cI, 216, .inl f)) = wG h cI cL (gs_A σ 9 f) := rfl
theorem set_wG_A12 (h : Nat → Nat) (cI cL : ClassId) (σ : gs_St) (f : Nat → Int32) : (wG h cI cL σ).set 27 (h 27, .inl (cI, 200, .inl f)) = wG h cI cL (gs_A σ 12 f) := rfl
theorem set_wG_A13 (h : Nat → Nat) (cI cL : ClassId) (σ : gs_St) (f : Nat → Int32) : (wG h cI cL σ).set 28 (h 28, .inl (cI, 16, .inl f)) = wG h cI cL (gs_A σ 13 f) := rfl
theorem set_wG_A14 (h : Nat → Nat) (cI cL : ClassId) (σ : gs_St) (f : Nat → Int32) : (wG h cI cL σ).set 30 (h 30, .inl (cI, 200, .inl f)) = wG h cI cL (gs_A σ 14 f) := rfl
theorem set_wG_I0 (h : Nat → Nat) (cI cL : ClassId) (σ : gs_St) (v : Int32) : (wG h cI cL σ).set 0 (h 0, .inr (8, ([.ref (h 1), .int (σ.1 0), .ref (h 2), .ref (h 6), .ref (h 9), .ref (h 12), .ref (h 15), .ref (h 22), .ref (h 29), .int (σ.1 1)] : List Value).set 1 (.int v))) = wG h cI cL (gs_I σ 0 v) := rfl
theorem set_wG_I1 (h : Nat → Nat) (cI cL : ClassId) (σ : gs_St) (v : Int32) : (wG h cI cL σ).set 0 (h 0, .inr (8, ([.ref (h 1), .int (σ.1 0), .ref (h 2), .ref (h 6), .ref (h 9), .ref (h 12), .ref (h 15), .ref (h 22), .ref (h 29), .int (σ.1 1)] : List Value).set 9 (.int v))) = wG h cI cL (gs_I σ 1 v) := rfl
theorem set_wG_I2 (h : Nat → Nat) (cI cL : ClassId) (σ : gs_St) (v : Int32) : (wG h cI cL σ).set 2 (h 2, .inr (2, ([.ref (h 3), .ref (h 4), .ref (h 5), .int (σ.1 2)] : List Value).set 3 (.int v))) = wG h cI cL (gs_I σ 2 v) := rfl
theorem set_wG_I3 (h : Nat → Nat) (cI cL : ClassId) (σ : gs_St) (v : Int32) : (wG h cI cL σ).set 9 (h 9, .inr (3, ([.ref (h 2), .ref (h 6), .ref (h 10), .ref (h 11), .int (σ.1 3)] : List Value).set 4 (.int v))) = wG h cI cL (gs_I σ 3 v) := rfl
theorem set_wG_I5 (h : Nat → Nat) (cI cL : ClassId) (σ : gs_St) (v : Int32) : (wG h cI cL σ).set 12 (h 12, .inr (0, ([.ref (h 2), .ref (h 9), .ref (h 13), .ref (h 14), .int (σ.1 4), .int (σ.1 5)] : List Value).set 5 (.int v))) = wG h cI cL (gs_I σ 5 v) := rfl
theorem set_wG_I6 (h : Nat → Nat) (cI cL : ClassId) (σ : gs_St) (v : Int32) : (wG h cI cL σ).set 15 (h 15, .inr (0, ([.ref (h 2), .ref (h 9), .ref (h 16), .ref (h 17), .int (σ.1 6), .int (σ.1 7)] : List Value).set 4 (.int v))) = wG h cI cL (gs_I σ 6 v) := rfl
theorem set_wG_I7 (h : Nat → Nat) (cI cL : ClassId) (σ : gs_St) (v : Int32) : (wG h cI cL σ).set 15 (h 15, .inr (0, ([.ref (h 2), .ref (h 9), .ref (h 16), .ref (h 17), .int (σ.1 6), .int (σ.1 7)] : List Value).set 5 (.int v))) = wG h cI cL (gs_I σ 7 v) := rfl
theorem set_wG_I8 (h : Nat → Nat) (cI cL : ClassId) (σ : gs_St) (v : Int32) : (wG h cI cL σ).set 18 (h 18, .inr (6, ([.ref (h 19), .ref (h 20), .ref (h 21), .int (σ.1 8)] : List Value).set 3 (.int v))) = wG h cI cL (gs_I σ 8 v) := rfl
theorem set_wG_I9 (h : Nat → Nat) (cI cL : ClassId) (σ : gs_St) (v : Int32) : (wG h cI cL σ).set 22 (h 22, .inr (7, ([.ref (h 2), .ref (h 12), .ref (h 18), .ref (h 23), .ref (h 26), .int (σ.1 9)] : List Value).set 5 (.int v))) = wG h cI cL (gs_I σ 9 v) := rfl
theorem set_wG_I12 (h : Nat → Nat) (cI cL : ClassId) (σ : gs_St) (v : Int32) : (wG h cI cL σ).set 26 (h 26, .inr (1, ([.ref (h 27), .ref (h 28), .int (σ.1 12), .int (σ.1 13)] : List Value).set 2 (.int v))) = wG h cI cL (gs_I σ 12 v) := rfl
theorem set_wG_I13 (h : Nat → Nat) (cI cL : ClassId) (σ : gs_St) (v : Int32) : (wG h cI cL σ).set 26 (h 26, .inr (1, ([.ref (h 27), .ref (h 28), .int (σ.1 12), .int (σ.1 13)] : List Value).set 3 (.int v))) = wG h cI cL (gs_I σ 13 v) := rfl
theorem set_wG_I14 (h : Nat → Nat) (cI cL : ClassId) (σ : gs_St) (v : Int32) : (wG h cI cL σ).set 29 (h 29, .inr (5, ([.ref (h 2), .ref (h 12), .ref (h 18), .ref (h 30), .int (σ.1 14)] : List Value).set 4 (.int v))) = wG h cI cL (gs_I σ 14 v) := rfl
theorem set_wG_L0 (h : Nat → Nat) (cI cL : ClassId) (σ : gs_St) (f : Nat → Int64) : (wG h cI cL σ).set 13 (h 13, .inl (cL, 136, .inr (.inl f))) = wG h cI cL (gs_L σ 0 f) := rfl
theorem set_wG_L1 (h : Nat → Nat) (cI cL : ClassId) (σ : gs_St) (f : Nat → Int64) : (wG h cI cL σ).set 14 (h 14, .inl (cL, 2856, .inr (.inl f))) = wG h cI cL (gs_L σ 1 f) := rfl
theorem set_wG_L2 (h : Nat → Nat) (cI cL : ClassId) (σ : gs_St) (f : Nat → Int64) : (wG h cI cL σ).set 16 (h 16, .inl (cL, 136, .inr (.inl f))) = wG h cI cL (gs_L σ 2 f) := rfl
theorem set_wG_L3 (h : Nat → Nat) (cI cL : ClassId) (σ : gs_St) (f : Nat → Int64) : (wG h cI cL σ).set 17 (h 17, .inl (cL, 2856, .inr (.inl f))) = wG h cI cL (gs_L σ 3 f) := rfl
theorem set_wG_L4 (h : Nat → Nat) (cI cL : ClassId) (σ : gs_St) (f : Nat → Int64) : (wG h cI cL σ).set 21 (h 21, .inl (cL, 216, .inr (.inl f))) = wG h cI cL (gs_L σ 4 f) := rfl
/-- the same, with other addresses for the two Drawings in the Weaver -/
def wX (h : Nat → Nat) (a b : Nat) (cI cL : ClassId) (σ : gs_St) : va_W := [(h 0, .inr (8, [.ref (h 1), .int (σ.1 0), .ref (h 2), .ref (h 6), .ref (h 9), .ref (h 12), .ref (h 15), .ref (h 22), .ref (h 29), .int (σ.1 1)])),
  (h 1, .inl (cI, 6, .inl (σ.2.1 0))),
  (h 2, .inr (2, [.ref (h 3), .ref (h 4), .ref (h 5), .int (σ.1 2)])),
  (h 3, .inl (cI, 24, .inl (σ.2.1 1))),
  (h 4, .inl (cI, 24, .inl (σ.2.1 2))),
  (h 5, .inl (cI, 144, .inl (σ.2.1 3))),
  (h 6, .inr (4, [.ref (h 2), .ref (h 7), .ref (h 8)])),
  (h 7, .inl (cI, 8, .inl (σ.2.1 4))),
  (h 8, .inl (cI, 8, .inl (σ.2.1 5))),
  (h 9, .inr (3, [.ref (h 2), .ref (h 6), .ref (h 10), .ref (h 11), .int (σ.1 3)])),
  (h 10, .inl (cI, 8, .inl (σ.2.1 6))),
  (h 11, .inl (cI, 8, .inl (σ.2.1 7))),
  (h 12, .inr (0, [.ref (h 2), .ref (h 9), .ref (h 13), .ref (h 14), .int (σ.1 4), .int (σ.1 5)])),
  (h 13, .inl (cL, 136, .inr (.inl (σ.2.2 0)))),
  (h 14, .inl (cL, 2856, .inr (.inl (σ.2.2 1)))),
  (h 15, .inr (0, [.ref (h 2), .ref (h 9), .ref (h 16), .ref (h 17), .int (σ.1 6), .int (σ.1 7)])),
  (h 16, .inl (cL, 136, .inr (.inl (σ.2.2 2)))),
  (h 17, .inl (cL, 2856, .inr (.inl (σ.2.2 3)))),
  (h 18, .inr (6, [.ref (h 19), .ref (h 20), .ref (h 21), .int (σ.1 8)])),
  (h 19, .inl (cI, 216, .inl (σ.2.1 8))),
  (h 20, .inl (cI, 216, .inl (σ.2.1 9))),
  (h 21, .inl (cL, 216, .inr (.inl (σ.2.2 4)))),
  (h 22, .inr (7, [.ref (h 2), .ref (h 12), .ref (h 18), .ref a, .ref b, .int (σ.1 9)])),
  (h 23, .inr (1, [.ref (h 24), .ref (h 25), .int (σ.1 10), .int (σ.1 11)])),
  (h 24, .inl (cI, 200, .inl (σ.2.1 10))),
  (h 25, .inl (cI, 16, .inl (σ.2.1 11))),
  (h 26, .inr (1, [.ref (h 27), .ref (h 28), .int (σ.1 12), .int (σ.1 13)])),
  (h 27, .inl (cI, 200, .inl (σ.2.1 12))),
  (h 28, .inl (cI, 16, .inl (σ.2.1 13))),
  (h 29, .inr (5, [.ref (h 2), .ref (h 12), .ref (h 18), .ref (h 30), .int (σ.1 14)])),
  (h 30, .inl (cI, 200, .inl (σ.2.1 14)))]
/-- the two Drawings change places -/
def gs_sw (h : Nat → Nat) : Nat → Nat := fun k => if k = 23 then h 26 else if k = 24 then h 27 else if k = 25 then h 28 else if k = 26 then h 23 else if k = 27 then h 24 else if k = 28 then h 25 else h k
def wGb (h : Nat → Nat) (cI cL : ClassId) (u : gs_St × Bool) : va_W := wG (bif u.2 then gs_sw h else h) cI cL u.1
end
section
abbrev rm_Gl_symbol : Room := { frames := 0, cells := 0, slots := 0, locals := 0 }
set_option maxHeartbeats 4000000 in
set_option maxRecDepth 100000 in
theorem c_Gl_symbol (l : Launch) (dC : Nat → ClassId) (dI : Nat → Nat → Nat) (h : Nat → Nat) (cI cL : ClassId) (σ : gs_St) (a0 : Int32) (K : Int32 → gs_St → Prop) (hC : C_Gl_symbol a0 σ K) : gj_MI l y_Gl_symbol (gj_ws y_Gl_symbol b_Gl_symbol 2 (some .int)) rm_Gl_symbol (dC, dI) gs_C (gs_T cI cL) ((wG h cI cL) σ) (wG h cI cL) [.ref (h 0), .int a0] K := by
  refine gj_enterI (by decide) (Nat.le_of_ble_eq_true rfl) (fun p e s m args below meth c A X hr hlk hA hnm => ?_)
  change gj_J p l e rm_Gl_symbol s m args below meth c 0 0 (MQ below (va_Qi K (gj_at (dC, dI) gs_C (gs_T cI cL) (wG h cI cL) A) A) args s 0 0 A) (dC, dI) gs_C A 2 0 [(0, .ref (h 0)), (1, .int a0)] [] ((wG h cI cL) σ)
  refine gj_iload_n X d_Gl_symbol_0 rfl 1 rfl ?_
  refine gj_if_lt (tgt := 19) X d_Gl_symbol_1 (by decide) (fun c0 => ?_) (fun c0 => ?_)
  · have hC := hC.1 c0
    refine gj_iconst (v := -1) X d_Gl_symbol_19 (by decide) ?_
    exact gj_iret X hr hlk hC d_Gl_symbol_20
  · have hC := hC.2 c0
    refine gj_iload_n X d_Gl_symbol_4 rfl 1 rfl ?_
    refine gj_bipush (v := 24) X d_Gl_symbol_5 (by decide) ?_
    refine gj_icmp_ge (tgt := 19) X d_Gl_symbol_7 (by decide) (fun c0 => ?_) (fun c0 => ?_)
    · have hC := hC.1 c0
      refine gj_iconst (v := -1) X d_Gl_symbol_19 (by decide) ?_
      exact gj_iret X hr hlk hC d_Gl_symbol_20
    · have hC := hC.2 c0
      refine gj_aload_n X d_Gl_symbol_10 rfl 0 rfl ?_
      refine gj_get X inX8 0 rfl rfl 1 (by decide) tw_209 rfl rfl d_Gl_symbol_11 ?_
      refine gj_bipush (v := 6) X d_Gl_symbol_14 (by decide) ?_
      refine gj_icmp_lt (tgt := 21) X d_Gl_symbol_16 (by decide) (fun c0 => ?_) (fun c0 => ?_)
      · have hC := hC.1 c0
        refine gj_aload_n X d_Gl_symbol_21 rfl 0 rfl ?_
        refine gj_get X inX8 0 rfl rfl 0 (by decide) tw_208 rfl rfl d_Gl_symbol_22 ?_
        refine gj_aload_n X d_Gl_symbol_25 rfl 0 rfl ?_
        refine gj_get X inX8 0 rfl rfl 1 (by decide) tw_209 rfl rfl d_Gl_symbol_26 ?_
        refine gj_iload_n X d_Gl_symbol_29 rfl 1 rfl ?_
        refine gj_iast (w' := (wG h cI cL) (gs_A σ 0 (upd (σ.2.1 0) (σ.1 0).toNatClampNeg a0))) X 1 0 rfl rfl hC.1 (set_wG_A0 h cI cL σ _) d_Gl_symbol_30 ?_
        refine gj_topw (wof := (wG h cI cL)) (fun σ1 eσ1 => ?_)
        have hC := hC.2 σ1 eσ1
        refine gj_aload_n X d_Gl_symbol_31 rfl 0 rfl ?_
        refine gj_dup X d_Gl_symbol_32 rfl ?_
        refine gj_get X inX8 0 rfl rfl 1 (by decide) tw_209 rfl rfl d_Gl_symbol_33 ?_
        refine gj_iconst (v := 1) X d_Gl_symbol_36 (by decide) ?_
        refine gj_iadd X d_Gl_symbol_37 ?_
        refine gj_put (w' := (wG h cI cL) (gs_I σ1 0 ((σ1.1 0) + (1 : Int32)))) X inX8 tyX8 tyX8_ok nmX8 0 rfl rfl 1 (by decide) tw_209 rfl rfl (tyX8_ok 1 (by decide)) rfl rfl (Nat.le_of_ble_eq_true rfl) (set_wG_I0 h cI cL σ1 _) d_Gl_symbol_38 ?_
        refine gj_topw (wof := (wG h cI cL)) (fun σ2 eσ2 => ?_)
        have hC := hC σ2 eσ2
        refine gj_aload_n X d_Gl_symbol_41 rfl 0 rfl ?_
        refine gj_get X inX8 0 rfl rfl 1 (by decide) tw_209 rfl rfl d_Gl_symbol_42 ?_
        exact gj_iret X hr hlk hC d_Gl_symbol_45
      · have hC := hC.2 c0
        refine gj_iconst (v := -1) X d_Gl_symbol_19 (by decide) ?_
        exact gj_iret X hr hlk hC d_Gl_symbol_20
abbrev rm_Gl_isNonterminal : Room := { frames := 0, cells := 0, slots := 0, locals := 0 }
set_option maxHeartbeats 4000000 in
set_option maxRecDepth 100000 in
theorem c_Gl_isNonterminal (l : Launch) (dC : Nat → ClassId) (dI : Nat → Nat → Nat) (h : Nat → Nat) (cI cL : ClassId) (σ : gs_St) (a0 : Int32) (K : Int32 → gs_St → Prop) (hC : C_Gl_isNonterminal a0 σ K) : gj_MI l y_Gl_isNonterminal (gj_ws y_Gl_isNonterminal b_Gl_isNonterminal 1 (some .boolean)) rm_Gl_isNonterminal (dC, dI) gs_C (gs_T cI cL) ((wG h cI cL) σ) (wG h cI cL) [.int a0] (fun r u => K r u ∧ (r = 0 ∨ r = 1)) := by
  refine gj_enterZ (by decide) (Nat.le_of_ble_eq_true rfl) (fun p e s m args below meth c A X hr hlk hA hnm => ?_)
  change gj_J p l e rm_Gl_isNonterminal s m args below meth c 0 0 (MQ below (va_Qi (fun r u => K r u ∧ (r = 0 ∨ r = 1)) (gj_at (dC, dI) gs_C (gs_T cI cL) (wG h cI cL) A) A) args s 0 0 A) (dC, dI) gs_C A 1 0 [(0, .int a0)] [] ((wG h cI cL) σ)
  refine gj_iload_n X d_Gl_isNonterminal_0 rfl 0 rfl ?_
  refine gj_if_lt (tgt := 14) X d_Gl_isNonterminal_1 (by decide) (fun c0 => ?_) (fun c0 => ?_)
  · have hC := hC.1 c0
    refine gj_iconst (v := 0) X d_Gl_isNonterminal_14 (by decide) ?_
    exact gj_zret X hr hlk (by decide) ⟨hC, Or.inl rfl⟩ d_Gl_isNonterminal_15
  · have hC := hC.2 c0
    refine gj_iload_n X d_Gl_isNonterminal_4 rfl 0 rfl ?_
    refine gj_bipush (v := 8) X d_Gl_isNonterminal_5 (by decide) ?_
    refine gj_icmp_ge (tgt := 14) X d_Gl_isNonterminal_7 (by decide) (fun c0 => ?_) (fun c0 => ?_)
    · have hC := hC.1 c0
      refine gj_iconst (v := 0) X d_Gl_isNonterminal_14 (by decide) ?_
      exact gj_zret X hr hlk (by decide) ⟨hC, Or.inl rfl⟩ d_Gl_isNonterminal_15
    · have hC := hC.2 c0
      refine gj_iconst (v := 1) X d_Gl_isNonterminal_10 (by decide) ?_
      refine gj_goto (tgt := 15) X d_Gl_isNonterminal_11 (by decide) ?_
      exact gj_zret X hr hlk (by decide) ⟨hC, Or.inr rfl⟩ d_Gl_isNonterminal_15
abbrev rm_Gr_add_1 : Room := { frames := 1, cells := 0, slots := 0, locals := 18 }
set_option maxHeartbeats 4000000 in
set_option maxRecDepth 100000 in
theorem c_Gr_add_1 (l : Launch) (dC : Nat → ClassId) (dI : Nat → Nat → Nat) (h : Nat → Nat) (cI cL : ClassId) (σ : gs_St) (a0 : Int32) (a2 : Int32) (K : Int32 → gs_St → Prop) (hC : C_Gr_add_1 a0 a2 σ K) : gj_MI l y_Gr_add (gj_ws y_Gr_add b_Gr_add 4 (some .int)) rm_Gr_add_1 (dC, dI) gs_C (gs_T cI cL) ((wG h cI cL) σ) (wG h cI cL) [.ref (h 2), .int a0, .ref (h 1), .int a2] K := by
  refine gj_enterI (by decide) (Nat.le_of_ble_eq_true rfl) (fun p e s m args below meth c A X hr hlk hA hnm => ?_)
  change gj_J p l e rm_Gr_add_1 s m args below meth c 0 0 (MQ below (va_Qi K (gj_at (dC, dI) gs_C (gs_T cI cL) (wG h cI cL) A) A) args s 0 0 A) (dC, dI) gs_C A 4 0 [(0, .ref (h 2)), (1, .int a0), (2, .ref (h 1)), (3, .int a2)] [] ((wG h cI cL) σ)
  refine gj_aload_n X d_Gr_add_0 rfl 0 rfl ?_
  refine gj_get X inX2 2 rfl rfl 0 (by decide) tw_28 rfl rfl d_Gr_add_1 ?_
  refine gj_aload_n X d_Gr_add_4 rfl 0 rfl ?_
  refine gj_get X inX2 2 rfl rfl 3 (by decide) tw_31 rfl rfl d_Gr_add_5 ?_
  refine gj_iload_n X d_Gr_add_8 rfl 1 rfl ?_
  refine gj_iast (w' := (wG h cI cL) (gs_A σ 1 (upd (σ.2.1 1) (σ.1 2).toNatClampNeg a0))) X 3 0 rfl rfl hC.1 (set_wG_A1 h cI cL σ _) d_Gr_add_9 ?_
  refine gj_topw (wof := (wG h cI cL)) (fun σ1 eσ1 => ?_)
  have hC := hC.2 σ1 eσ1
  refine gj_aload_n X d_Gr_add_10 rfl 0 rfl ?_
  refine gj_get X inX2 2 rfl rfl 1 (by decide) tw_29 rfl rfl d_Gr_add_11 ?_
  refine gj_aload_n X d_Gr_add_14 rfl 0 rfl ?_
  refine gj_get X inX2 2 rfl rfl 3 (by decide) tw_31 rfl rfl d_Gr_add_15 ?_
  refine gj_iload_n X d_Gr_add_18 rfl 3 rfl ?_
  refine gj_iast (w' := (wG h cI cL) (gs_A σ1 2 (upd (σ1.2.1 2) (σ1.1 2).toNatClampNeg a2))) X 4 0 rfl rfl hC.1 (set_wG_A2 h cI cL σ1 _) d_Gr_add_19 ?_
  refine gj_topw (wof := (wG h cI cL)) (fun σ2 eσ2 => ?_)
  have hC := hC.2 σ2 eσ2
  refine gj_aload_n X d_Gr_add_20 rfl 2 rfl ?_
  refine gj_iconst (v := 0) X d_Gr_add_21 (by decide) ?_
  refine gj_aload_n X d_Gr_add_22 rfl 0 rfl ?_
  refine gj_get X inX2 2 rfl rfl 2 (by decide) tw_30 rfl rfl d_Gr_add_23 ?_
  refine gj_aload_n X d_Gr_add_26 rfl 0 rfl ?_
  refine gj_get X inX2 2 rfl rfl 3 (by decide) tw_31 rfl rfl d_Gr_add_27 ?_
  refine gj_bipush (v := 6) X d_Gr_add_30 (by decide) ?_
  refine gj_imul X d_Gr_add_32 ?_
  refine gj_iload_n X d_Gr_add_33 rfl 3 rfl ?_
  refine gj_copyi (w' := (wG h cI cL) (gs_A σ2 3 (va_cpy (σ2.2.1 0) (σ2.2.1 3) (0 : Int32).toNatClampNeg ((σ2.1 2) * (6 : Int32)).toNatClampNeg a2.toNatClampNeg))) X tw_254 tw_256 tw_255 tw_11 1 5 0 0 rfl rfl rfl rfl hC.1 hC.2.1 hC.2.2.1 hC.2.2.2.1 hC.2.2.2.2.1 (Nat.le_of_ble_eq_true rfl) (Nat.le_of_ble_eq_true rfl) (set_wG_A3 h cI cL σ2 _) d_Gr_add_34 ?_
  refine gj_topw (wof := (wG h cI cL)) (fun σ3 eσ3 => ?_)
  have hC := hC.2.2.2.2.2 σ3 eσ3
  refine gj_aload_n X d_Gr_add_37 rfl 0 rfl ?_
  refine gj_dup X d_Gr_add_38 rfl ?_
  refine gj_get X inX2 2 rfl rfl 3 (by decide) tw_31 rfl rfl d_Gr_add_39 ?_
  refine gj_iconst (v := 1) X d_Gr_add_42 (by decide) ?_
  refine gj_iadd X d_Gr_add_43 ?_
  refine gj_put (w' := (wG h cI cL) (gs_I σ3 2 ((σ3.1 2) + (1 : Int32)))) X inX2 tyX2 tyX2_ok nmX2 2 rfl rfl 3 (by decide) tw_31 rfl rfl (tyX2_ok 3 (by decide)) rfl rfl (Nat.le_of_ble_eq_true rfl) (set_wG_I2 h cI cL σ3 _) d_Gr_add_44 ?_
  refine gj_topw (wof := (wG h cI cL)) (fun σ4 eσ4 => ?_)
  have hC := hC σ4 eσ4
  refine gj_aload_n X d_Gr_add_47 rfl 0 rfl ?_
  refine gj_get X inX2 2 rfl rfl 3 (by decide) tw_31 rfl rfl d_Gr_add_48 ?_
  refine gj_iconst (v := 1) X d_Gr_add_51 (by decide) ?_
  refine gj_isub X d_Gr_add_52 ?_
  exact gj_iret X hr hlk hC d_Gr_add_53
abbrev rm_Gl_rule : Room := { frames := 2, cells := 0, slots := 0, locals := 41 }
set_option maxHeartbeats 4000000 in
set_option maxRecDepth 100000 in
theorem c_Gl_rule (l : Launch) (dC : Nat → ClassId) (dI : Nat → Nat → Nat) (h : Nat → Nat) (cI cL : ClassId) (σ : gs_St) (a0 : Int32) (K : Int32 → gs_St → Prop) (hC : C_Gl_rule a0 σ K) : gj_MI l y_Gl_rule (gj_ws y_Gl_rule b_Gl_rule 3 (some .int)) rm_Gl_rule (dC, dI) gs_C (gs_T cI cL) ((wG h cI cL) σ) (wG h cI cL) [.ref (h 0), .int a0] K := by
  refine gj_enterI (by decide) (Nat.le_of_ble_eq_true rfl) (fun p e s m args below meth c A X hr hlk hA hnm => ?_)
  change gj_J p l e rm_Gl_rule s m args below meth c 0 0 (MQ below (va_Qi K (gj_at (dC, dI) gs_C (gs_T cI cL) (wG h cI cL) A) A) args s 0 0 A) (dC, dI) gs_C A 3 0 [(0, .ref (h 0)), (1, .int a0)] [] ((wG h cI cL) σ)
  refine gj_aload_n X d_Gl_rule_0 rfl 0 rfl ?_
  refine gj_get X inX8 0 rfl rfl 1 (by decide) tw_209 rfl rfl d_Gl_rule_1 ?_
  refine gj_topi (fun v1 ev1 => ?_)
  have hC := hC v1 ev1
  refine gj_istore_n (L' := [(2, .int v1), (0, .ref (h 0)), (1, .int a0)]) X d_Gl_rule_4 rfl (by decide) rfl ?_
  refine gj_aload_n X d_Gl_rule_5 rfl 1 rfl ?_
  refine gj_iconst (v := 0) X d_Gl_rule_6 (by decide) ?_
  refine gj_put (w' := (wG h cI cL) (gs_I σ 0 (0 : Int32))) X inX8 tyX8 tyX8_ok nmX8 0 rfl rfl 1 (by decide) tw_209 rfl rfl (tyX8_ok 1 (by decide)) rfl rfl (Nat.le_of_ble_eq_true rfl) (set_wG_I0 h cI cL σ _) d_Gl_rule_7 ?_
  refine gj_topw (wof := (wG h cI cL)) (fun σ2 eσ2 => ?_)
  have hC := hC σ2 eσ2
  refine gj_iload_n X d_Gl_rule_10 rfl 2 rfl ?_
  refine gj_callSI (As := [.int a0]) (st := []) X (c_Gl_isNonterminal l dC dI h cI cL σ2 a0 _ hC) ⟨gj_cwB X tw_249 tw_1 tw_247 hd_Gl_isNonterminal rfl rfl ⟨Nat.le_of_ble_eq_true rfl, Nat.le_of_ble_eq_true rfl⟩, X.2.2.2.2.1 _ tw_248⟩ hA rfl (Nat.le_of_ble_eq_true rfl) ⟨Nat.zero_le _, Nat.zero_le _⟩ d_Gl_rule_11 rfl (fun r4 σ3 hC => ?_)
  obtain ⟨hC, hb⟩ := hC
  refine gj_if_eq (tgt := 29) X d_Gl_rule_14 (by decide) (fun c0 => ?_) (fun c0 => ?_)
  · have hC := hC.1 c0
    refine gj_iconst (v := -1) X d_Gl_rule_29 (by decide) ?_
    exact gj_iret X hr hlk hC d_Gl_rule_30
  · have hC := hC.2 c0
    refine gj_aload_n X d_Gl_rule_17 rfl 1 rfl ?_
    refine gj_get X inX8 0 rfl rfl 2 (by decide) tw_210 rfl rfl d_Gl_rule_18 ?_
    refine gj_getN X inX2 2 rfl rfl 3 (by decide) tn_32 rfl rfl d_Gl_rule_21 ?_
    refine gj_bipush (v := 24) X d_Gl_rule_24 (by decide) ?_
    refine gj_icmp_lt (tgt := 31) X d_Gl_rule_26 (by decide) (fun c0 => ?_) (fun c0 => ?_)
    · have hC := hC.1 c0
      refine gj_aload_n X d_Gl_rule_31 rfl 1 rfl ?_
      refine gj_iconst (v := 0) X d_Gl_rule_32 (by decide) ?_
      refine gj_put (w' := (wG h cI cL) (gs_I σ3 1 (0 : Int32))) X inX8 tyX8 tyX8_ok nmX8 0 rfl rfl 9 (by decide) tw_217 rfl rfl (tyX8_ok 9 (by decide)) rfl rfl (Nat.le_of_ble_eq_true rfl) (set_wG_I1 h cI cL σ3 _) d_Gl_rule_33 ?_
      refine gj_topw (wof := (wG h cI cL)) (fun σ5 eσ5 => ?_)
      have hC := hC σ5 eσ5
      refine gj_aload_n X d_Gl_rule_36 rfl 1 rfl ?_
      refine gj_get X inX8 0 rfl rfl 2 (by decide) tw_210 rfl rfl d_Gl_rule_37 ?_
      refine gj_iload_n X d_Gl_rule_40 rfl 2 rfl ?_
      refine gj_aload_n X d_Gl_rule_41 rfl 1 rfl ?_
      refine gj_get X inX8 0 rfl rfl 0 (by decide) tw_208 rfl rfl d_Gl_rule_42 ?_
      refine gj_iload_n X d_Gl_rule_45 rfl 0 rfl ?_
      refine gj_callVI (As := [.int a0, .ref (h 1), .int v1]) (st := []) X (c_Gr_add_1 l dC dI h cI cL σ5 a0 v1 _ hC) ⟨gj_cwB X tw_253 tw_2 tw_250 hd_Gr_add rfl rfl ⟨Nat.le_of_ble_eq_true rfl, Nat.le_of_ble_eq_true rfl⟩, X.2.2.2.2.1 _ tw_251, X.2.2.2.2.1 _ tw_252⟩ 2 rfl rfl hA rfl (Nat.le_of_ble_eq_true rfl) ⟨Nat.zero_le _, Nat.zero_le _⟩ d_Gl_rule_46 rfl (fun r7 σ6 hC => ?_)
      exact gj_iret X hr hlk hC d_Gl_rule_49
    · have hC := hC.2 c0
      refine gj_iconst (v := -1) X d_Gl_rule_29 (by decide) ?_
      exact gj_iret X hr hlk hC d_Gl_rule_30
abbrev rm_Gr_has : Room := { frames := 0, cells := 0, slots := 0, locals := 0 }
set_option maxHeartbeats 4000000 in
set_option maxRecDepth 100000 in
theorem c_Gr_has (l : Launch) (dC : Nat → ClassId) (dI : Nat → Nat → Nat) (h : Nat → Nat) (cI cL : ClassId) (σ : gs_St) (a0 : Int32) (K : Int32 → gs_St → Prop) (hC : C_Gr_has a0 σ K) : gj_MI l y_Gr_has (gj_ws y_Gr_has b_Gr_has 2 (some .boolean)) rm_Gr_has (dC, dI) gs_C (gs_T cI cL) ((wG h cI cL) σ) (wG h cI cL) [.ref (h 2), .int a0] (fun r u => K r u ∧ (r = 0 ∨ r = 1)) := by
  refine gj_enterZ (by decide) (Nat.le_of_ble_eq_true rfl) (fun p e s m args below meth c A X hr hlk hA hnm => ?_)
  change gj_J p l e rm_Gr_has s m args below meth c 0 0 (MQ below (va_Qi (fun r u => K r u ∧ (r = 0 ∨ r = 1)) (gj_at (dC, dI) gs_C (gs_T cI cL) (wG h cI cL) A) A) args s 0 0 A) (dC, dI) gs_C A 2 0 [(0, .ref (h 2)), (1, .int a0)] [] ((wG h cI cL) σ)
  refine gj_iload_n X d_Gr_has_0 rfl 1 rfl ?_
  refine gj_if_lt (tgt := 16) X d_Gr_has_1 (by decide) (fun c0 => ?_) (fun c0 => ?_)
  · have hC := hC.1 c0
    refine gj_iconst (v := 0) X d_Gr_has_16 (by decide) ?_
    exact gj_zret X hr hlk (by decide) ⟨hC, Or.inl rfl⟩ d_Gr_has_17
  · have hC := hC.2 c0
    refine gj_iload_n X d_Gr_has_4 rfl 1 rfl ?_
    refine gj_aload_n X d_Gr_has_5 rfl 0 rfl ?_
    refine gj_get X inX2 2 rfl rfl 3 (by decide) tw_31 rfl rfl d_Gr_has_6 ?_
    refine gj_icmp_ge (tgt := 16) X d_Gr_has_9 (by decide) (fun c0 => ?_) (fun c0 => ?_)
    · have hC := hC.1 c0
      refine gj_iconst (v := 0) X d_Gr_has_16 (by decide) ?_
      exact gj_zret X hr hlk (by decide) ⟨hC, Or.inl rfl⟩ d_Gr_has_17
    · have hC := hC.2 c0
      refine gj_iconst (v := 1) X d_Gr_has_12 (by decide) ?_
      refine gj_goto (tgt := 17) X d_Gr_has_13 (by decide) ?_
      exact gj_zret X hr hlk (by decide) ⟨hC, Or.inr rfl⟩ d_Gr_has_17
abbrev rm_Gr_remove : Room := { frames := 1, cells := 0, slots := 0, locals := 18 }
set_option maxHeartbeats 4000000 in
set_option maxRecDepth 100000 in
theorem c_Gr_remove (l : Launch) (dC : Nat → ClassId) (dI : Nat → Nat → Nat) (h : Nat → Nat) (cI cL : ClassId) (σ : gs_St) (a0 : Int32) (K : gs_St → Prop) (hC : C_Gr_remove a0 σ K) : gj_MV 0 0 l y_Gr_remove (gj_ws y_Gr_remove b_Gr_remove 4 (none)) rm_Gr_remove (dC, dI) gs_C (gs_T cI cL) ((wG h cI cL) σ) (wG h cI cL) [.ref (h 2), .int a0] K := by
  refine gj_enterV (by decide) (Nat.le_of_ble_eq_true rfl) (fun p e s m args below meth c A X hr hlk hA hnm => ?_)
  change gj_J p l e rm_Gr_remove s m args below meth c 0 0 (MQ below (va_Qv K (gj_at (dC, dI) gs_C (gs_T cI cL) (wG h cI cL) A) A) args s 0 0 A) (dC, dI) gs_C A 4 0 [(0, .ref (h 2)), (1, .int a0)] [] ((wG h cI cL) σ)
  refine gj_iload_n X d_Gr_remove_0 rfl 1 rfl ?_
  refine gj_iconst (v := 1) X d_Gr_remove_1 (by decide) ?_
  refine gj_iadd X d_Gr_remove_2 ?_
  refine gj_topi (fun v1 ev1 => ?_)
  have hC := hC v1 ev1
  refine gj_istore_n (L' := [(2, .int v1), (0, .ref (h 2)), (1, .int a0)]) X d_Gr_remove_3 rfl (by decide) rfl ?_
  refine gj_aload_n X d_Gr_remove_4 rfl 1 rfl ?_
  refine gj_get X inX2 2 rfl rfl 3 (by decide) tw_31 rfl rfl d_Gr_remove_5 ?_
  refine gj_iload_n X d_Gr_remove_8 rfl 0 rfl ?_
  refine gj_isub X d_Gr_remove_9 ?_
  refine gj_topi (fun v2 ev2 => ?_)
  have hC := hC v2 ev2
  refine gj_istore_n (L' := [(3, .int v2), (2, .int v1), (0, .ref (h 2)), (1, .int a0)]) X d_Gr_remove_10 rfl (by decide) rfl ?_
  refine gj_aload_n X d_Gr_remove_11 rfl 2 rfl ?_
  refine gj_get X inX2 2 rfl rfl 0 (by decide) tw_28 rfl rfl d_Gr_remove_12 ?_
  refine gj_iload_n X d_Gr_remove_15 rfl 1 rfl ?_
  refine gj_aload_n X d_Gr_remove_16 rfl 2 rfl ?_
  refine gj_get X inX2 2 rfl rfl 0 (by decide) tw_28 rfl rfl d_Gr_remove_17 ?_
  refine gj_iload_n X d_Gr_remove_20 rfl 3 rfl ?_
  refine gj_iload_n X d_Gr_remove_21 rfl 0 rfl ?_
  refine gj_copyi (w' := (wG h cI cL) (gs_A σ 1 (va_cpy (σ.2.1 1) (σ.2.1 1) v1.toNatClampNeg a0.toNatClampNeg v2.toNatClampNeg))) X tw_254 tw_256 tw_255 tw_11 3 3 0 0 rfl rfl rfl rfl hC.1 hC.2.1 hC.2.2.1 hC.2.2.2.1 hC.2.2.2.2.1 (Nat.le_of_ble_eq_true rfl) (Nat.le_of_ble_eq_true rfl) (set_wG_A1 h cI cL σ _) d_Gr_remove_22 ?_
  refine gj_topw (wof := (wG h cI cL)) (fun σ3 eσ3 => ?_)
  have hC := hC.2.2.2.2.2 σ3 eσ3
  refine gj_aload_n X d_Gr_remove_25 rfl 2 rfl ?_
  refine gj_get X inX2 2 rfl rfl 1 (by decide) tw_29 rfl rfl d_Gr_remove_26 ?_
  refine gj_iload_n X d_Gr_remove_29 rfl 1 rfl ?_
  refine gj_aload_n X d_Gr_remove_30 rfl 2 rfl ?_
  refine gj_get X inX2 2 rfl rfl 1 (by decide) tw_29 rfl rfl d_Gr_remove_31 ?_
  refine gj_iload_n X d_Gr_remove_34 rfl 3 rfl ?_
  refine gj_iload_n X d_Gr_remove_35 rfl 0 rfl ?_
  refine gj_copyi (w' := (wG h cI cL) (gs_A σ3 2 (va_cpy (σ3.2.1 2) (σ3.2.1 2) v1.toNatClampNeg a0.toNatClampNeg v2.toNatClampNeg))) X tw_254 tw_256 tw_255 tw_11 4 4 0 0 rfl rfl rfl rfl hC.1 hC.2.1 hC.2.2.1 hC.2.2.2.1 hC.2.2.2.2.1 (Nat.le_of_ble_eq_true rfl) (Nat.le_of_ble_eq_true rfl) (set_wG_A2 h cI cL σ3 _) d_Gr_remove_36 ?_
  refine gj_topw (wof := (wG h cI cL)) (fun σ4 eσ4 => ?_)
  have hC := hC.2.2.2.2.2 σ4 eσ4
  refine gj_aload_n X d_Gr_remove_39 rfl 2 rfl ?_
  refine gj_get X inX2 2 rfl rfl 2 (by decide) tw_30 rfl rfl d_Gr_remove_40 ?_
  refine gj_iload_n X d_Gr_remove_43 rfl 1 rfl ?_
  refine gj_bipush (v := 6) X d_Gr_remove_44 (by decide) ?_
  refine gj_imul X d_Gr_remove_46 ?_
  refine gj_aload_n X d_Gr_remove_47 rfl 2 rfl ?_
  refine gj_get X inX2 2 rfl rfl 2 (by decide) tw_30 rfl rfl d_Gr_remove_48 ?_
  refine gj_iload_n X d_Gr_remove_51 rfl 3 rfl ?_
  refine gj_bipush (v := 6) X d_Gr_remove_52 (by decide) ?_
  refine gj_imul X d_Gr_remove_54 ?_
  refine gj_iload_n X d_Gr_remove_55 rfl 0 rfl ?_
  refine gj_bipush (v := 6) X d_Gr_remove_56 (by decide) ?_
  refine gj_imul X d_Gr_remove_58 ?_
  refine gj_copyi (w' := (wG h cI cL) (gs_A σ4 3 (va_cpy (σ4.2.1 3) (σ4.2.1 3) (v1 * (6 : Int32)).toNatClampNeg (a0 * (6 : Int32)).toNatClampNeg (v2 * (6 : Int32)).toNatClampNeg))) X tw_254 tw_256 tw_255 tw_11 5 5 0 0 rfl rfl rfl rfl hC.1 hC.2.1 hC.2.2.1 hC.2.2.2.1 hC.2.2.2.2.1 (Nat.le_of_ble_eq_true rfl) (Nat.le_of_ble_eq_true rfl) (set_wG_A3 h cI cL σ4 _) d_Gr_remove_59 ?_
  refine gj_topw (wof := (wG h cI cL)) (fun σ5 eσ5 => ?_)
  have hC := hC.2.2.2.2.2 σ5 eσ5
  refine gj_aload_n X d_Gr_remove_62 rfl 2 rfl ?_
  refine gj_dup X d_Gr_remove_63 rfl ?_
  refine gj_get X inX2 2 rfl rfl 3 (by decide) tw_31 rfl rfl d_Gr_remove_64 ?_
  refine gj_iconst (v := 1) X d_Gr_remove_67 (by decide) ?_
  refine gj_isub X d_Gr_remove_68 ?_
  refine gj_put (w' := (wG h cI cL) (gs_I σ5 2 ((σ5.1 2) - (1 : Int32)))) X inX2 tyX2 tyX2_ok nmX2 2 rfl rfl 3 (by decide) tw_31 rfl rfl (tyX2_ok 3 (by decide)) rfl rfl (Nat.le_of_ble_eq_true rfl) (set_wG_I2 h cI cL σ5 _) d_Gr_remove_69 ?_
  refine gj_topw (wof := (wG h cI cL)) (fun σ6 eσ6 => ?_)
  have hC := hC σ6 eσ6
  exact gj_vret X hr hlk hC d_Gr_remove_72
abbrev rm_Gl_drop : Room := { frames := 2, cells := 0, slots := 0, locals := 41 }
set_option maxHeartbeats 4000000 in
set_option maxRecDepth 100000 in
theorem c_Gl_drop (l : Launch) (dC : Nat → ClassId) (dI : Nat → Nat → Nat) (h : Nat → Nat) (cI cL : ClassId) (σ : gs_St) (a0 : Int32) (K : Int32 → gs_St → Prop) (hC : C_Gl_drop a0 σ K) : gj_MI l y_Gl_drop (gj_ws y_Gl_drop b_Gl_drop 2 (some .boolean)) rm_Gl_drop (dC, dI) gs_C (gs_T cI cL) ((wG h cI cL) σ) (wG h cI cL) [.ref (h 0), .int a0] (fun r u => K r u ∧ (r = 0 ∨ r = 1)) := by
  refine gj_enterZ (by decide) (Nat.le_of_ble_eq_true rfl) (fun p e s m args below meth c A X hr hlk hA hnm => ?_)
  change gj_J p l e rm_Gl_drop s m args below meth c 0 0 (MQ below (va_Qi (fun r u => K r u ∧ (r = 0 ∨ r = 1)) (gj_at (dC, dI) gs_C (gs_T cI cL) (wG h cI cL) A) A) args s 0 0 A) (dC, dI) gs_C A 2 0 [(0, .ref (h 0)), (1, .int a0)] [] ((wG h cI cL) σ)
  refine gj_aload_n X d_Gl_drop_0 rfl 0 rfl ?_
  refine gj_get X inX8 0 rfl rfl 2 (by decide) tw_210 rfl rfl d_Gl_drop_1 ?_
  refine gj_iload_n X d_Gl_drop_4 rfl 1 rfl ?_
  refine gj_callVI (As := [.int a0]) (st := []) X (c_Gr_has l dC dI h cI cL σ a0 _ hC) ⟨gj_cwB X tw_264 tw_2 tw_261 hd_Gr_has rfl rfl ⟨Nat.le_of_ble_eq_true rfl, Nat.le_of_ble_eq_true rfl⟩, X.2.2.2.2.1 _ tw_262, X.2.2.2.2.1 _ tw_263⟩ 2 rfl rfl hA rfl (Nat.le_of_ble_eq_true rfl) ⟨Nat.zero_le _, Nat.zero_le _⟩ d_Gl_drop_5 rfl (fun r2 σ1 hC => ?_)
  obtain ⟨hC, hb⟩ := hC
  refine gj_if_ne (tgt := 13) X d_Gl_drop_8 (by decide) (fun c0 => ?_) (fun c0 => ?_)
  · have hC := hC.1 c0
    refine gj_aload_n X d_Gl_drop_13 rfl 0 rfl ?_
    refine gj_iconst (v := 0) X d_Gl_drop_14 (by decide) ?_
    refine gj_put (w' := (wG h cI cL) (gs_I σ1 1 (0 : Int32))) X inX8 tyX8 tyX8_ok nmX8 0 rfl rfl 9 (by decide) tw_217 rfl rfl (tyX8_ok 9 (by decide)) rfl rfl (Nat.le_of_ble_eq_true rfl) (set_wG_I1 h cI cL σ1 _) d_Gl_drop_15 ?_
    refine gj_topw (wof := (wG h cI cL)) (fun σ3 eσ3 => ?_)
    have hC := hC σ3 eσ3
    refine gj_aload_n X d_Gl_drop_18 rfl 0 rfl ?_
    refine gj_get X inX8 0 rfl rfl 2 (by decide) tw_210 rfl rfl d_Gl_drop_19 ?_
    refine gj_iload_n X d_Gl_drop_22 rfl 1 rfl ?_
    refine gj_callVV (As := [.int a0]) (st := []) X (c_Gr_remove l dC dI h cI cL σ3 a0 _ hC) ⟨gj_cwB X tw_268 tw_2 tw_265 hd_Gr_remove rfl rfl ⟨Nat.le_of_ble_eq_true rfl, Nat.le_of_ble_eq_true rfl⟩, X.2.2.2.2.1 _ tw_266, X.2.2.2.2.1 _ tw_267⟩ 2 rfl rfl hA rfl (Nat.le_of_ble_eq_true rfl) ⟨Nat.zero_le _, Nat.zero_le _⟩ d_Gl_drop_23 rfl (fun σ4 hC => ?_)
    refine gj_iconst (v := 1) X d_Gl_drop_26 (by decide) ?_
    exact gj_zret X hr hlk (by decide) ⟨hC, Or.inr rfl⟩ d_Gl_drop_27
  · have hC := hC.2 c0
    refine gj_iconst (v := 0) X d_Gl_drop_11 (by decide) ?_
    exact gj_zret X hr hlk (by decide) ⟨hC, Or.inl rfl⟩ d_Gl_drop_12
abbrev rm_Gl_count : Room := { frames := 0, cells := 0, slots := 0, locals := 0 }
set_option maxHeartbeats 4000000 in
set_option maxRecDepth 100000 in
theorem c_Gl_count (l : Launch) (dC : Nat → ClassId) (dI : Nat → Nat → Nat) (h : Nat → Nat) (cI cL : ClassId) (σ : gs_St) (a0 : Int32) (K : Int32 → gs_St → Prop) (hC : C_Gl_count a0 σ K) : gj_MI l y_Gl_count (gj_ws y_Gl_count b_Gl_count 2 (some .int)) rm_Gl_count (dC, dI) gs_C (gs_T cI cL) ((wG h cI cL) σ) (wG h cI cL) [.ref (h 0), .int a0] K := by
  refine gj_enterI (by decide) (Nat.le_of_ble_eq_true rfl) (fun p e s m args below meth c A X hr hlk hA hnm => ?_)
  change gj_J p l e rm_Gl_count s m args below meth c 0 0 (MQ below (va_Qi K (gj_at (dC, dI) gs_C (gs_T cI cL) (wG h cI cL) A) A) args s 0 0 A) (dC, dI) gs_C A 2 0 [(0, .ref (h 0)), (1, .int a0)] [] ((wG h cI cL) σ)
  refine gj_iload_n X d_Gl_count_0 rfl 1 rfl ?_
  rcases sw_3_0 a0 with c0 | c0 | c0 | c0
  · refine gj_tableIn (tgt := 28) X d_Gl_count_1 (by rw [c0]; decide) (by rw [c0]; decide) (by rw [c0]; rfl) (by decide) ?_
    have hC := hC.1 c0
    refine gj_aload_n X d_Gl_count_28 rfl 0 rfl ?_
    refine gj_get X inX8 0 rfl rfl 2 (by decide) tw_210 rfl rfl d_Gl_count_29 ?_
    refine gj_getN X inX2 2 rfl rfl 3 (by decide) tn_32 rfl rfl d_Gl_count_32 ?_
    exact gj_iret X hr hlk hC d_Gl_count_35
  · refine gj_tableIn (tgt := 36) X d_Gl_count_1 (by rw [c0]; decide) (by rw [c0]; decide) (by rw [c0]; rfl) (by decide) ?_
    have hC := hC.2.1 c0
    refine gj_aload_n X d_Gl_count_36 rfl 0 rfl ?_
    refine gj_get X inX8 0 rfl rfl 1 (by decide) tw_209 rfl rfl d_Gl_count_37 ?_
    exact gj_iret X hr hlk hC d_Gl_count_40
  · refine gj_tableIn (tgt := 41) X d_Gl_count_1 (by rw [c0]; decide) (by rw [c0]; decide) (by rw [c0]; rfl) (by decide) ?_
    have hC := hC.2.2.1 c0
    refine gj_aload_n X d_Gl_count_41 rfl 0 rfl ?_
    refine gj_get X inX8 0 rfl rfl 8 (by decide) tw_216 rfl rfl d_Gl_count_42 ?_
    refine gj_getN X inX5 29 rfl rfl 4 (by decide) tn_196 rfl rfl d_Gl_count_45 ?_
    exact gj_iret X hr hlk hC d_Gl_count_48
  · refine gj_tableOut (tgt := 49) X d_Gl_count_1 c0 (by decide) ?_
    have hC := hC.2.2.2 c0
    refine gj_iconst (v := -1) X d_Gl_count_49 (by decide) ?_
    exact gj_iret X hr hlk hC d_Gl_count_50
abbrev rm_Gr_sizeOf : Room := { frames := 0, cells := 0, slots := 0, locals := 0 }
set_option maxHeartbeats 4000000 in
set_option maxRecDepth 100000 in
theorem c_Gr_sizeOf (l : Launch) (dC : Nat → ClassId) (dI : Nat → Nat → Nat) (h : Nat → Nat) (cI cL : ClassId) (σ : gs_St) (a0 : Int32) (K : Int32 → gs_St → Prop) (hC : C_Gr_sizeOf a0 σ K) : gj_MI l y_Gr_sizeOf (gj_ws y_Gr_sizeOf b_Gr_sizeOf 2 (some .int)) rm_Gr_sizeOf (dC, dI) gs_C (gs_T cI cL) ((wG h cI cL) σ) (wG h cI cL) [.ref (h 2), .int a0] K := by
  refine gj_enterI (by decide) (Nat.le_of_ble_eq_true rfl) (fun p e s m args below meth c A X hr hlk hA hnm => ?_)
  change gj_J p l e rm_Gr_sizeOf s m args below meth c 0 0 (MQ below (va_Qi K (gj_at (dC, dI) gs_C (gs_T cI cL) (wG h cI cL) A) A) args s 0 0 A) (dC, dI) gs_C A 2 0 [(0, .ref (h 2)), (1, .int a0)] [] ((wG h cI cL) σ)
  refine gj_aload_n X d_Gr_sizeOf_0 rfl 0 rfl ?_
  refine gj_get X inX2 2 rfl rfl 1 (by decide) tw_29 rfl rfl d_Gr_sizeOf_1 ?_
  refine gj_iload_n X d_Gr_sizeOf_4 rfl 1 rfl ?_
  refine gj_iald X 4 0 rfl rfl hC.1 d_Gr_sizeOf_5 ?_
  have hC := hC.2
  exact gj_iret X hr hlk hC d_Gr_sizeOf_6
abbrev rm_Gr_symbolAt : Room := { frames := 0, cells := 0, slots := 0, locals := 0 }
set_option maxHeartbeats 4000000 in
set_option maxRecDepth 100000 in
theorem c_Gr_symbolAt (l : Launch) (dC : Nat → ClassId) (dI : Nat → Nat → Nat) (h : Nat → Nat) (cI cL : ClassId) (σ : gs_St) (a0 : Int32) (a1 : Int32) (K : Int32 → gs_St → Prop) (hC : C_Gr_symbolAt a0 a1 σ K) : gj_MI l y_Gr_symbolAt (gj_ws y_Gr_symbolAt b_Gr_symbolAt 3 (some .int)) rm_Gr_symbolAt (dC, dI) gs_C (gs_T cI cL) ((wG h cI cL) σ) (wG h cI cL) [.ref (h 2), .int a0, .int a1] K := by
  refine gj_enterI (by decide) (Nat.le_of_ble_eq_true rfl) (fun p e s m args below meth c A X hr hlk hA hnm => ?_)
  change gj_J p l e rm_Gr_symbolAt s m args below meth c 0 0 (MQ below (va_Qi K (gj_at (dC, dI) gs_C (gs_T cI cL) (wG h cI cL) A) A) args s 0 0 A) (dC, dI) gs_C A 3 0 [(0, .ref (h 2)), (1, .int a0), (2, .int a1)] [] ((wG h cI cL) σ)
  refine gj_aload_n X d_Gr_symbolAt_0 rfl 0 rfl ?_
  refine gj_get X inX2 2 rfl rfl 2 (by decide) tw_30 rfl rfl d_Gr_symbolAt_1 ?_
  refine gj_iload_n X d_Gr_symbolAt_4 rfl 1 rfl ?_
  refine gj_bipush (v := 6) X d_Gr_symbolAt_5 (by decide) ?_
  refine gj_imul X d_Gr_symbolAt_7 ?_
  refine gj_iload_n X d_Gr_symbolAt_8 rfl 2 rfl ?_
  refine gj_iadd X d_Gr_symbolAt_9 ?_
  refine gj_iald X 5 0 rfl rfl hC.1 d_Gr_symbolAt_10 ?_
  have hC := hC.2
  exact gj_iret X hr hlk hC d_Gr_symbolAt_11
abbrev rm_Gr_leftOf : Room := { frames := 0, cells := 0, slots := 0, locals := 0 }
set_option maxHeartbeats 4000000 in
set_option maxRecDepth 100000 in
theorem c_Gr_leftOf (l : Launch) (dC : Nat → ClassId) (dI : Nat → Nat → Nat) (h : Nat → Nat) (cI cL : ClassId) (σ : gs_St) (a0 : Int32) (K : Int32 → gs_St → Prop) (hC : C_Gr_leftOf a0 σ K) : gj_MI l y_Gr_leftOf (gj_ws y_Gr_leftOf b_Gr_leftOf 2 (some .int)) rm_Gr_leftOf (dC, dI) gs_C (gs_T cI cL) ((wG h cI cL) σ) (wG h cI cL) [.ref (h 2), .int a0] K := by
  refine gj_enterI (by decide) (Nat.le_of_ble_eq_true rfl) (fun p e s m args below meth c A X hr hlk hA hnm => ?_)
  change gj_J p l e rm_Gr_leftOf s m args below meth c 0 0 (MQ below (va_Qi K (gj_at (dC, dI) gs_C (gs_T cI cL) (wG h cI cL) A) A) args s 0 0 A) (dC, dI) gs_C A 2 0 [(0, .ref (h 2)), (1, .int a0)] [] ((wG h cI cL) σ)
  refine gj_aload_n X d_Gr_leftOf_0 rfl 0 rfl ?_
  refine gj_get X inX2 2 rfl rfl 0 (by decide) tw_28 rfl rfl d_Gr_leftOf_1 ?_
  refine gj_iload_n X d_Gr_leftOf_4 rfl 1 rfl ?_
  refine gj_iald X 3 0 rfl rfl hC.1 d_Gr_leftOf_5 ?_
  have hC := hC.2
  exact gj_iret X hr hlk hC d_Gr_leftOf_6
abbrev rm_Gl_about : Room := { frames := 1, cells := 0, slots := 0, locals := 22 }
set_option maxHeartbeats 4000000 in
set_option maxRecDepth 100000 in
theorem c_Gl_about (l : Launch) (dC : Nat → ClassId) (dI : Nat → Nat → Nat) (h : Nat → Nat) (cI cL : ClassId) (σ : gs_St) (a0 : Int32) (a1 : Int32) (K : Int32 → gs_St → Prop) (hC : C_Gl_about a0 a1 σ K) : gj_MI l y_Gl_about (gj_ws y_Gl_about b_Gl_about 3 (some .int)) rm_Gl_about (dC, dI) gs_C (gs_T cI cL) ((wG h cI cL) σ) (wG h cI cL) [.ref (h 0), .int a0, .int a1] K := by
  refine gj_enterI (by decide) (Nat.le_of_ble_eq_true rfl) (fun p e s m args below meth c A X hr hlk hA hnm => ?_)
  change gj_J p l e rm_Gl_about s m args below meth c 0 0 (MQ below (va_Qi K (gj_at (dC, dI) gs_C (gs_T cI cL) (wG h cI cL) A) A) args s 0 0 A) (dC, dI) gs_C A 3 0 [(0, .ref (h 0)), (1, .int a0), (2, .int a1)] [] ((wG h cI cL) σ)
  refine gj_aload_n X d_Gl_about_0 rfl 0 rfl ?_
  refine gj_get X inX8 0 rfl rfl 2 (by decide) tw_210 rfl rfl d_Gl_about_1 ?_
  refine gj_iload_n X d_Gl_about_4 rfl 1 rfl ?_
  refine gj_callVI (As := [.int a0]) (st := []) X (c_Gr_has l dC dI h cI cL σ a0 _ hC) ⟨gj_cwB X tw_264 tw_2 tw_261 hd_Gr_has rfl rfl ⟨Nat.le_of_ble_eq_true rfl, Nat.le_of_ble_eq_true rfl⟩, X.2.2.2.2.1 _ tw_262, X.2.2.2.2.1 _ tw_263⟩ 2 rfl rfl hA rfl (Nat.le_of_ble_eq_true rfl) ⟨Nat.zero_le _, Nat.zero_le _⟩ d_Gl_about_5 rfl (fun r2 σ1 hC => ?_)
  obtain ⟨hC, hb⟩ := hC
  refine gj_if_eq (tgt := 28) X d_Gl_about_8 (by decide) (fun c0 => ?_) (fun c0 => ?_)
  · have hC := hC.1 c0
    refine gj_iconst (v := -1) X d_Gl_about_28 (by decide) ?_
    exact gj_iret X hr hlk hC d_Gl_about_29
  · have hC := hC.2 c0
    refine gj_iload_n X d_Gl_about_11 rfl 2 rfl ?_
    refine gj_iconst (v := -1) X d_Gl_about_12 (by decide) ?_
    refine gj_icmp_lt (tgt := 28) X d_Gl_about_13 (by decide) (fun c0 => ?_) (fun c0 => ?_)
    · have hC := hC.1 c0
      refine gj_iconst (v := -1) X d_Gl_about_28 (by decide) ?_
      exact gj_iret X hr hlk hC d_Gl_about_29
    · have hC := hC.2 c0
      refine gj_iload_n X d_Gl_about_16 rfl 2 rfl ?_
      refine gj_aload_n X d_Gl_about_17 rfl 0 rfl ?_
      refine gj_get X inX8 0 rfl rfl 2 (by decide) tw_210 rfl rfl d_Gl_about_18 ?_
      refine gj_iload_n X d_Gl_about_21 rfl 1 rfl ?_
      refine gj_callVI (As := [.int a0]) (st := [.int a1]) X (c_Gr_sizeOf l dC dI h cI cL σ1 a0 _ hC) ⟨gj_cwB X tw_280 tw_2 tw_277 hd_Gr_sizeOf rfl rfl ⟨Nat.le_of_ble_eq_true rfl, Nat.le_of_ble_eq_true rfl⟩, X.2.2.2.2.1 _ tw_278, X.2.2.2.2.1 _ tw_279⟩ 2 rfl rfl hA rfl (Nat.le_of_ble_eq_true rfl) ⟨Nat.zero_le _, Nat.zero_le _⟩ d_Gl_about_22 rfl (fun r4 σ3 hC => ?_)
      refine gj_icmp_lt (tgt := 30) X d_Gl_about_25 (by decide) (fun c0 => ?_) (fun c0 => ?_)
      · have hC := hC.1 c0
        refine gj_iload_n X d_Gl_about_30 rfl 2 rfl ?_
        refine gj_iconst (v := -1) X d_Gl_about_31 (by decide) ?_
        refine gj_icmp_ne (tgt := 46) X d_Gl_about_32 (by decide) (fun c0 => ?_) (fun c0 => ?_)
        · have hC := hC.1 c0
          refine gj_aload_n X d_Gl_about_46 rfl 0 rfl ?_
          refine gj_get X inX8 0 rfl rfl 2 (by decide) tw_210 rfl rfl d_Gl_about_47 ?_
          refine gj_iload_n X d_Gl_about_50 rfl 1 rfl ?_
          refine gj_iload_n X d_Gl_about_51 rfl 2 rfl ?_
          refine gj_callVI (As := [.int a0, .int a1]) (st := []) X (c_Gr_symbolAt l dC dI h cI cL σ3 a0 a1 _ hC) ⟨gj_cwB X tw_288 tw_2 tw_285 hd_Gr_symbolAt rfl rfl ⟨Nat.le_of_ble_eq_true rfl, Nat.le_of_ble_eq_true rfl⟩, X.2.2.2.2.1 _ tw_286, X.2.2.2.2.1 _ tw_287⟩ 2 rfl rfl hA rfl (Nat.le_of_ble_eq_true rfl) ⟨Nat.zero_le _, Nat.zero_le _⟩ d_Gl_about_52 rfl (fun r6 σ5 hC => ?_)
          exact gj_iret X hr hlk hC d_Gl_about_55
        · have hC := hC.2 c0
          refine gj_aload_n X d_Gl_about_35 rfl 0 rfl ?_
          refine gj_get X inX8 0 rfl rfl 2 (by decide) tw_210 rfl rfl d_Gl_about_36 ?_
          refine gj_iload_n X d_Gl_about_39 rfl 1 rfl ?_
          refine gj_callVI (As := [.int a0]) (st := []) X (c_Gr_leftOf l dC dI h cI cL σ3 a0 _ hC) ⟨gj_cwB X tw_284 tw_2 tw_281 hd_Gr_leftOf rfl rfl ⟨Nat.le_of_ble_eq_true rfl, Nat.le_of_ble_eq_true rfl⟩, X.2.2.2.2.1 _ tw_282, X.2.2.2.2.1 _ tw_283⟩ 2 rfl rfl hA rfl (Nat.le_of_ble_eq_true rfl) ⟨Nat.zero_le _, Nat.zero_le _⟩ d_Gl_about_40 rfl (fun r8 σ7 hC => ?_)
          refine gj_goto (tgt := 55) X d_Gl_about_43 (by decide) ?_
          exact gj_iret X hr hlk hC d_Gl_about_55
      · have hC := hC.2 c0
        refine gj_iconst (v := -1) X d_Gl_about_28 (by decide) ?_
        exact gj_iret X hr hlk hC d_Gl_about_29
abbrev rm_Ar_fill_7 : Room := { frames := 0, cells := 0, slots := 0, locals := 0 }
set_option maxHeartbeats 4000000 in
set_option maxRecDepth 100000 in
theorem c_Ar_fill_7 (l : Launch) (dC : Nat → ClassId) (dI : Nat → Nat → Nat) (h : Nat → Nat) (cI cL : ClassId) (σ : gs_St) (a1 : Int32) (K : gs_St → Prop) (hC : C_Ar_fill_7 a1 σ K) : gj_MV 0 0 l y_Ar_fill (gj_ws y_Ar_fill b_Ar_fill 4 (none)) rm_Ar_fill_7 (dC, dI) gs_C (gs_T cI cL) ((wG h cI cL) σ) (wG h cI cL) [.ref (h 7), .int a1] K := by
  refine gj_enterV (by decide) (Nat.le_of_ble_eq_true rfl) (fun p e s m args below meth c A X hr hlk hA hnm => ?_)
  change gj_J p l e rm_Ar_fill_7 s m args below meth c 0 0 (MQ below (va_Qv K (gj_at (dC, dI) gs_C (gs_T cI cL) (wG h cI cL) A) A) args s 0 0 A) (dC, dI) gs_C A 4 0 [(0, .ref (h 7)), (1, .int a1)] [] ((wG h cI cL) σ)
  have hC := hC
    (fun (v_1 : Int32) (v_2 : Int32) (v_3 : Int32) (σ : gs_St) => gj_J p l e rm_Ar_fill_7 s m args below meth c 0 0 (MQ below (va_Qv K (gj_at (dC, dI) gs_C (gs_T cI cL) (wG h cI cL) A) A) args s 0 0 A) (dC, dI) gs_C A 4 5 [(0, .ref (h 7)), (1, .int v_1), (2, .int v_2), (3, .int v_3)] [] ((wG h cI cL) σ))
    (by
      intro v_1 v_2 v_3 σ hC
      refine gj_iload_n X d_Ar_fill_5 rfl 2 rfl ?_
      refine gj_iload_n X d_Ar_fill_6 rfl 3 rfl ?_
      refine gj_icmp_ge (tgt := 20) X d_Ar_fill_7 (by decide) (fun c0 => ?_) (fun c0 => ?_)
      · have hC := hC.1 c0
        exact gj_vret X hr hlk hC d_Ar_fill_20
      · have hC := hC.2 c0
        refine gj_aload_n X d_Ar_fill_10 rfl 0 rfl ?_
        refine gj_iload_n X d_Ar_fill_11 rfl 2 rfl ?_
        refine gj_iload_n X d_Ar_fill_12 rfl 1 rfl ?_
        refine gj_iast (w' := (wG h cI cL) (gs_A σ 4 (upd (σ.2.1 4) v_2.toNatClampNeg v_1))) X 7 0 rfl rfl hC.1 (set_wG_A4 h cI cL σ _) d_Ar_fill_13 ?_
        refine gj_topw (wof := (wG h cI cL)) (fun σ1 eσ1 => ?_)
        have hC := hC.2 σ1 eσ1
        obtain ⟨v2, ev2⟩ : ∃ y : Int32, y = v_2 + 1 := ⟨_, rfl⟩
        have hC := hC v2 ev2
        refine gj_iinc (v := v2) (L' := [(2, .int v2), (0, .ref (h 7)), (1, .int v_1), (3, .int v_3)]) X d_Ar_fill_14 2 rfl (by rw [ev2]; rfl) (by decide) rfl ?_
        refine gj_goto (tgt := 5) X d_Ar_fill_17 (by decide) ?_
        exact gj_loc [1, 2, 0, 3] rfl hC)
  refine gj_iconst (v := 0) X d_Ar_fill_0 (by decide) ?_
  refine gj_istore_n (L' := [(2, .int (0 : Int32)), (0, .ref (h 7)), (1, .int a1)]) X d_Ar_fill_1 rfl (by decide) rfl ?_
  refine gj_aload_n X d_Ar_fill_2 rfl 1 rfl ?_
  refine gj_alen (v := 8) X 7 0 rfl rfl rfl d_Ar_fill_3 ?_
  refine gj_istore_n (L' := [(3, .int (8 : Int32)), (2, .int (0 : Int32)), (0, .ref (h 7)), (1, .int a1)]) X d_Ar_fill_4 rfl (by decide) rfl ?_
  exact gj_loc [2, 3, 1, 0] rfl hC
abbrev rm_Ar_fill_8 : Room := { frames := 0, cells := 0, slots := 0, locals := 0 }
set_option maxHeartbeats 4000000 in
set_option maxRecDepth 100000 in
theorem c_Ar_fill_8 (l : Launch) (dC : Nat → ClassId) (dI : Nat → Nat → Nat) (h : Nat → Nat) (cI cL : ClassId) (σ : gs_St) (a1 : Int32) (K : gs_St → Prop) (hC : C_Ar_fill_8 a1 σ K) : gj_MV 0 0 l y_Ar_fill (gj_ws y_Ar_fill b_Ar_fill 4 (none)) rm_Ar_fill_8 (dC, dI) gs_C (gs_T cI cL) ((wG h cI cL) σ) (wG h cI cL) [.ref (h 8), .int a1] K := by
  refine gj_enterV (by decide) (Nat.le_of_ble_eq_true rfl) (fun p e s m args below meth c A X hr hlk hA hnm => ?_)
  change gj_J p l e rm_Ar_fill_8 s m args below meth c 0 0 (MQ below (va_Qv K (gj_at (dC, dI) gs_C (gs_T cI cL) (wG h cI cL) A) A) args s 0 0 A) (dC, dI) gs_C A 4 0 [(0, .ref (h 8)), (1, .int a1)] [] ((wG h cI cL) σ)
  have hC := hC
    (fun (v_1 : Int32) (v_2 : Int32) (v_3 : Int32) (σ : gs_St) => gj_J p l e rm_Ar_fill_8 s m args below meth c 0 0 (MQ below (va_Qv K (gj_at (dC, dI) gs_C (gs_T cI cL) (wG h cI cL) A) A) args s 0 0 A) (dC, dI) gs_C A 4 5 [(0, .ref (h 8)), (1, .int v_1), (2, .int v_2), (3, .int v_3)] [] ((wG h cI cL) σ))
    (by
      intro v_1 v_2 v_3 σ hC
      refine gj_iload_n X d_Ar_fill_5 rfl 2 rfl ?_
      refine gj_iload_n X d_Ar_fill_6 rfl 3 rfl ?_
      refine gj_icmp_ge (tgt := 20) X d_Ar_fill_7 (by decide) (fun c0 => ?_) (fun c0 => ?_)
      · have hC := hC.1 c0
        exact gj_vret X hr hlk hC d_Ar_fill_20
      · have hC := hC.2 c0
        refine gj_aload_n X d_Ar_fill_10 rfl 0 rfl ?_
        refine gj_iload_n X d_Ar_fill_11 rfl 2 rfl ?_
        refine gj_iload_n X d_Ar_fill_12 rfl 1 rfl ?_
        refine gj_iast (w' := (wG h cI cL) (gs_A σ 5 (upd (σ.2.1 5) v_2.toNatClampNeg v_1))) X 8 0 rfl rfl hC.1 (set_wG_A5 h cI cL σ _) d_Ar_fill_13 ?_
        refine gj_topw (wof := (wG h cI cL)) (fun σ1 eσ1 => ?_)
        have hC := hC.2 σ1 eσ1
        obtain ⟨v2, ev2⟩ : ∃ y : Int32, y = v_2 + 1 := ⟨_, rfl⟩
        have hC := hC v2 ev2
        refine gj_iinc (v := v2) (L' := [(2, .int v2), (0, .ref (h 8)), (1, .int v_1), (3, .int v_3)]) X d_Ar_fill_14 2 rfl (by rw [ev2]; rfl) (by decide) rfl ?_
        refine gj_goto (tgt := 5) X d_Ar_fill_17 (by decide) ?_
        exact gj_loc [1, 2, 0, 3] rfl hC)
  refine gj_iconst (v := 0) X d_Ar_fill_0 (by decide) ?_
  refine gj_istore_n (L' := [(2, .int (0 : Int32)), (0, .ref (h 8)), (1, .int a1)]) X d_Ar_fill_1 rfl (by decide) rfl ?_
  refine gj_aload_n X d_Ar_fill_2 rfl 1 rfl ?_
  refine gj_alen (v := 8) X 8 0 rfl rfl rfl d_Ar_fill_3 ?_
  refine gj_istore_n (L' := [(3, .int (8 : Int32)), (2, .int (0 : Int32)), (0, .ref (h 8)), (1, .int a1)]) X d_Ar_fill_4 rfl (by decide) rfl ?_
  exact gj_loc [2, 3, 1, 0] rfl hC
abbrev rm_Le_leastBut : Room := { frames := 1, cells := 0, slots := 0, locals := 22 }
set_option maxHeartbeats 4000000 in
set_option maxRecDepth 100000 in
theorem c_Le_leastBut (l : Launch) (dC : Nat → ClassId) (dI : Nat → Nat → Nat) (h : Nat → Nat) (cI cL : ClassId) (σ : gs_St) (a0 : Int32) (a1 : Int32) (K : Int32 → gs_St → Prop) (hC : C_Le_leastBut a0 a1 σ K) : gj_MI l y_Le_leastBut (gj_ws y_Le_leastBut b_Le_leastBut 7 (some .int)) rm_Le_leastBut (dC, dI) gs_C (gs_T cI cL) ((wG h cI cL) σ) (wG h cI cL) [.ref (h 6), .int a0, .int a1] K := by
  refine gj_enterI (by decide) (Nat.le_of_ble_eq_true rfl) (fun p e s m args below meth c A X hr hlk hA hnm => ?_)
  change gj_J p l e rm_Le_leastBut s m args below meth c 0 0 (MQ below (va_Qi K (gj_at (dC, dI) gs_C (gs_T cI cL) (wG h cI cL) A) A) args s 0 0 A) (dC, dI) gs_C A 7 0 [(0, .ref (h 6)), (1, .int a0), (2, .int a1)] [] ((wG h cI cL) σ)
  have hC := hC
    (fun (v_1 : Int32) (v_2 : Int32) (v_3 : Int32) (v_4 : Int32) (σ : gs_St) => gj_J p l e rm_Le_leastBut s m args below meth c 0 0 (MQ below (va_Qi K (gj_at (dC, dI) gs_C (gs_T cI cL) (wG h cI cL) A) A) args s 0 0 A) (dC, dI) gs_C A 7 5 [(0, .ref (h 6)), (1, .int v_1), (2, .int v_2), (3, .int v_3), (4, .int v_4)] [] ((wG h cI cL) σ))
    (by
      intro v_1 v_2 v_3 v_4 σ hC
      refine gj_iload X d_Le_leastBut_5 4 rfl ?_
      refine gj_aload_n X d_Le_leastBut_7 rfl 0 rfl ?_
      refine gj_get X inX4 6 rfl rfl 0 (by decide) tw_53 rfl rfl d_Le_leastBut_8 ?_
      refine gj_iload_n X d_Le_leastBut_11 rfl 1 rfl ?_
      refine gj_callVI (As := [.int v_1]) (st := [.int v_4]) X (c_Gr_sizeOf l dC dI h cI cL σ v_1 _ hC) ⟨gj_cwB X tw_280 tw_2 tw_309 hd_Gr_sizeOf rfl rfl ⟨Nat.le_of_ble_eq_true rfl, Nat.le_of_ble_eq_true rfl⟩, X.2.2.2.2.1 _ tw_278, X.2.2.2.2.1 _ tw_279⟩ 2 rfl rfl hA rfl (Nat.le_of_ble_eq_true rfl) ⟨Nat.zero_le _, Nat.zero_le _⟩ d_Le_leastBut_12 rfl (fun r2 σ1 hC => ?_)
      refine gj_icmp_ge (tgt := 79) X d_Le_leastBut_15 (by decide) (fun c0 => ?_) (fun c0 => ?_)
      · have hC := hC.1 c0
        refine gj_iload_n X d_Le_leastBut_79 rfl 3 rfl ?_
        exact gj_iret X hr hlk hC d_Le_leastBut_80
      · have hC := hC.2 c0
        refine gj_iload X d_Le_leastBut_18 4 rfl ?_
        refine gj_iload_n X d_Le_leastBut_20 rfl 2 rfl ?_
        refine gj_icmp_ne (tgt := 27) X d_Le_leastBut_21 (by decide) (fun c0 => ?_) (fun c0 => ?_)
        · have hC := hC.1 c0
          refine gj_aload_n X d_Le_leastBut_27 rfl 0 rfl ?_
          refine gj_get X inX4 6 rfl rfl 0 (by decide) tw_53 rfl rfl d_Le_leastBut_28 ?_
          refine gj_iload_n X d_Le_leastBut_31 rfl 1 rfl ?_
          refine gj_iload X d_Le_leastBut_32 4 rfl ?_
          refine gj_callVI (As := [.int v_1, .int v_4]) (st := []) X (c_Gr_symbolAt l dC dI h cI cL σ1 v_1 v_4 _ hC) ⟨gj_cwB X tw_288 tw_2 tw_310 hd_Gr_symbolAt rfl rfl ⟨Nat.le_of_ble_eq_true rfl, Nat.le_of_ble_eq_true rfl⟩, X.2.2.2.2.1 _ tw_286, X.2.2.2.2.1 _ tw_287⟩ 2 rfl rfl hA rfl (Nat.le_of_ble_eq_true rfl) ⟨Nat.zero_le _, Nat.zero_le _⟩ d_Le_leastBut_34 rfl (fun r4 σ3 hC => ?_)
          refine gj_istore (L' := [(5, .int r4), (0, .ref (h 6)), (1, .int v_1), (2, .int v_2), (3, .int v_3), (4, .int v_4)]) X d_Le_leastBut_37 (by decide) rfl ?_
          refine gj_iload X d_Le_leastBut_39 0 rfl ?_
          refine gj_callSNI (As := [.int r4]) (st := []) X (c_Gl_isNonterminal l dC dI h cI cL σ3 r4 _ hC) ⟨gj_cwN X tw_249 tw_1 tn_311 hd_Gl_isNonterminal rfl rfl ⟨Nat.le_of_ble_eq_true rfl, Nat.le_of_ble_eq_true rfl⟩, X.2.2.2.2.1 _ tw_248, trivial⟩ hA rfl (Nat.le_of_ble_eq_true rfl) ⟨Nat.zero_le _, Nat.zero_le _⟩ d_Le_leastBut_41 rfl (fun r6 σ5 hC => ?_)
          obtain ⟨hC, hb⟩ := hC
          refine gj_if_eq (tgt := 57) X d_Le_leastBut_44 (by decide) (fun c0 => ?_) (fun c0 => ?_)
          · have hC := hC.1 c0
            refine gj_iconst (v := 1) X d_Le_leastBut_57 (by decide) ?_
            refine gj_istore (L' := [(6, .int (1 : Int32)), (5, .int r4), (0, .ref (h 6)), (1, .int v_1), (2, .int v_2), (3, .int v_3), (4, .int v_4)]) X d_Le_leastBut_58 (by decide) rfl ?_
            refine gj_iload X d_Le_leastBut_60 0 rfl ?_
            refine gj_iconst (v := -1) X d_Le_leastBut_62 (by decide) ?_
            refine gj_icmp_ne (tgt := 68) X d_Le_leastBut_63 (by decide) (fun c0 => ?_) (fun c0 => ?_)
            · have hC := hC.1 c0
              refine gj_iload_n X d_Le_leastBut_68 rfl 5 rfl ?_
              refine gj_iload X d_Le_leastBut_69 0 rfl ?_
              refine gj_iadd X d_Le_leastBut_71 ?_
              refine gj_topi (fun v7 ev7 => ?_)
              have hC := hC v7 ev7
              refine gj_istore_n (L' := [(3, .int v7), (6, .int (1 : Int32)), (5, .int r4), (0, .ref (h 6)), (1, .int v_1), (2, .int v_2), (4, .int v_4)]) X d_Le_leastBut_72 rfl (by decide) rfl ?_
              obtain ⟨v8, ev8⟩ : ∃ y : Int32, y = v_4 + 1 := ⟨_, rfl⟩
              have hC := hC v8 ev8
              refine gj_iinc (v := v8) (L' := [(4, .int v8), (3, .int v7), (6, .int (1 : Int32)), (5, .int r4), (0, .ref (h 6)), (1, .int v_1), (2, .int v_2)]) X d_Le_leastBut_73 6 rfl (by rw [ev8]; rfl) (by decide) rfl ?_
              refine gj_goto (tgt := 5) X d_Le_leastBut_76 (by decide) ?_
              exact gj_loc [4, 5, 6, 1, 0] rfl hC
            · have hC := hC.2 c0
              refine gj_iconst (v := -1) X d_Le_leastBut_66 (by decide) ?_
              exact gj_iret X hr hlk hC d_Le_leastBut_67
          · have hC := hC.2 c0
            refine gj_aload_n X d_Le_leastBut_47 rfl 1 rfl ?_
            refine gj_get X inX4 6 rfl rfl 1 (by decide) tw_54 rfl rfl d_Le_leastBut_48 ?_
            refine gj_iload X d_Le_leastBut_51 0 rfl ?_
            refine gj_iald X 7 0 rfl rfl hC.1 d_Le_leastBut_53 ?_
            have hC := hC.2
            refine gj_goto (tgt := 58) X d_Le_leastBut_54 (by decide) ?_
            refine gj_topi (fun v9 ev9 => ?_)
            have hC := hC v9 ev9
            refine gj_istore (L' := [(6, .int v9), (5, .int r4), (0, .ref (h 6)), (1, .int v_1), (2, .int v_2), (3, .int v_3), (4, .int v_4)]) X d_Le_leastBut_58 (by decide) rfl ?_
            refine gj_iload X d_Le_leastBut_60 0 rfl ?_
            refine gj_iconst (v := -1) X d_Le_leastBut_62 (by decide) ?_
            refine gj_icmp_ne (tgt := 68) X d_Le_leastBut_63 (by decide) (fun c0 => ?_) (fun c0 => ?_)
            · have hC := hC.1 c0
              refine gj_iload_n X d_Le_leastBut_68 rfl 5 rfl ?_
              refine gj_iload X d_Le_leastBut_69 0 rfl ?_
              refine gj_iadd X d_Le_leastBut_71 ?_
              refine gj_topi (fun v10 ev10 => ?_)
              have hC := hC v10 ev10
              refine gj_istore_n (L' := [(3, .int v10), (6, .int v9), (5, .int r4), (0, .ref (h 6)), (1, .int v_1), (2, .int v_2), (4, .int v_4)]) X d_Le_leastBut_72 rfl (by decide) rfl ?_
              obtain ⟨v11, ev11⟩ : ∃ y : Int32, y = v_4 + 1 := ⟨_, rfl⟩
              have hC := hC v11 ev11
              refine gj_iinc (v := v11) (L' := [(4, .int v11), (3, .int v10), (6, .int v9), (5, .int r4), (0, .ref (h 6)), (1, .int v_1), (2, .int v_2)]) X d_Le_leastBut_73 6 rfl (by rw [ev11]; rfl) (by decide) rfl ?_
              refine gj_goto (tgt := 5) X d_Le_leastBut_76 (by decide) ?_
              exact gj_loc [4, 5, 6, 1, 0] rfl hC
            · have hC := hC.2 c0
              refine gj_iconst (v := -1) X d_Le_leastBut_66 (by decide) ?_
              exact gj_iret X hr hlk hC d_Le_leastBut_67
        · have hC := hC.2 c0
          refine gj_goto (tgt := 73) X d_Le_leastBut_24 (by decide) ?_
          obtain ⟨v12, ev12⟩ : ∃ y : Int32, y = v_4 + 1 := ⟨_, rfl⟩
          have hC := hC v12 ev12
          refine gj_iinc (v := v12) (L' := [(4, .int v12), (0, .ref (h 6)), (1, .int v_1), (2, .int v_2), (3, .int v_3)]) X d_Le_leastBut_73 4 rfl (by rw [ev12]; rfl) (by decide) rfl ?_
          refine gj_goto (tgt := 5) X d_Le_leastBut_76 (by decide) ?_
          exact gj_loc [1, 2, 3, 4, 0] rfl hC)
  refine gj_iconst (v := 0) X d_Le_leastBut_0 (by decide) ?_
  refine gj_istore_n (L' := [(3, .int (0 : Int32)), (0, .ref (h 6)), (1, .int a0), (2, .int a1)]) X d_Le_leastBut_1 rfl (by decide) rfl ?_
  refine gj_iconst (v := 0) X d_Le_leastBut_2 (by decide) ?_
  refine gj_istore (L' := [(4, .int (0 : Int32)), (3, .int (0 : Int32)), (0, .ref (h 6)), (1, .int a0), (2, .int a1)]) X d_Le_leastBut_3 (by decide) rfl ?_
  exact gj_loc [2, 3, 4, 1, 0] rfl hC
end
section
abbrev rm_Le_lower_7 : Room := { frames := 0, cells := 0, slots := 0, locals := 0 }
set_option maxHeartbeats 4000000 in
set_option maxRecDepth 100000 in
theorem c_Le_lower_7 (l : Launch) (dC : Nat → ClassId) (dI : Nat → Nat → Nat) (h : Nat → Nat) (cI cL : ClassId) (σ : gs_St) (a1 : Int32) (a2 : Int32) (K : gs_St → Prop) (hC : C_Le_lower_7 a1 a2 σ K) : gj_MV 0 0 l y_Le_lower (gj_ws y_Le_lower b_Le_lower 4 (none)) rm_Le_lower_7 (dC, dI) gs_C (gs_T cI cL) ((wG h cI cL) σ) (wG h cI cL) [.ref (h 7), .int a1, .int a2] K := by
  refine gj_enterV (by decide) (Nat.le_of_ble_eq_true rfl) (fun p e s m args below meth c A X hr hlk hA hnm => ?_)
  change gj_J p l e rm_Le_lower_7 s m args below meth c 0 0 (MQ below (va_Qv K (gj_at (dC, dI) gs_C (gs_T cI cL) (wG h cI cL) A) A) args s 0 0 A) (dC, dI) gs_C A 4 0 [(0, .ref (h 7)), (1, .int a1), (2, .int a2)] [] ((wG h cI cL) σ)
  refine gj_aload_n X d_Le_lower_0 rfl 0 rfl ?_
  refine gj_iload_n X d_Le_lower_1 rfl 1 rfl ?_
  refine gj_iald X 7 0 rfl rfl hC.1 d_Le_lower_2 ?_
  have hC := hC.2
  refine gj_topi (fun v1 ev1 => ?_)
  have hC := hC v1 ev1
  refine gj_istore_n (L' := [(3, .int v1), (0, .ref (h 7)), (1, .int a1), (2, .int a2)]) X d_Le_lower_3 rfl (by decide) rfl ?_
  refine gj_iload_n X d_Le_lower_4 rfl 3 rfl ?_
  refine gj_iconst (v := -1) X d_Le_lower_5 (by decide) ?_
  refine gj_icmp_eq (tgt := 23) X d_Le_lower_6 (by decide) (fun c0 => ?_) (fun c0 => ?_)
  · have hC := hC.1 c0
    exact gj_vret X hr hlk hC d_Le_lower_23
  · have hC := hC.2 c0
    refine gj_iload_n X d_Le_lower_9 rfl 0 rfl ?_
    refine gj_iconst (v := -1) X d_Le_lower_10 (by decide) ?_
    refine gj_icmp_eq (tgt := 19) X d_Le_lower_11 (by decide) (fun c0 => ?_) (fun c0 => ?_)
    · have hC := hC.1 c0
      refine gj_aload_n X d_Le_lower_19 rfl 1 rfl ?_
      refine gj_iload_n X d_Le_lower_20 rfl 2 rfl ?_
      refine gj_iload_n X d_Le_lower_21 rfl 3 rfl ?_
      refine gj_iast (w' := (wG h cI cL) (gs_A σ 4 (upd (σ.2.1 4) a1.toNatClampNeg a2))) X 7 0 rfl rfl hC.1 (set_wG_A4 h cI cL σ _) d_Le_lower_22 ?_
      refine gj_topw (wof := (wG h cI cL)) (fun σ2 eσ2 => ?_)
      have hC := hC.2 σ2 eσ2
      exact gj_vret X hr hlk hC d_Le_lower_23
    · have hC := hC.2 c0
      refine gj_iload_n X d_Le_lower_14 rfl 3 rfl ?_
      refine gj_iload_n X d_Le_lower_15 rfl 0 rfl ?_
      refine gj_icmp_ge (tgt := 23) X d_Le_lower_16 (by decide) (fun c0 => ?_) (fun c0 => ?_)
      · have hC := hC.1 c0
        exact gj_vret X hr hlk hC d_Le_lower_23
      · have hC := hC.2 c0
        refine gj_aload_n X d_Le_lower_19 rfl 1 rfl ?_
        refine gj_iload_n X d_Le_lower_20 rfl 2 rfl ?_
        refine gj_iload_n X d_Le_lower_21 rfl 3 rfl ?_
        refine gj_iast (w' := (wG h cI cL) (gs_A σ 4 (upd (σ.2.1 4) a1.toNatClampNeg a2))) X 7 0 rfl rfl hC.1 (set_wG_A4 h cI cL σ _) d_Le_lower_22 ?_
        refine gj_topw (wof := (wG h cI cL)) (fun σ3 eσ3 => ?_)
        have hC := hC.2 σ3 eσ3
        exact gj_vret X hr hlk hC d_Le_lower_23
abbrev rm_Le_lower_8 : Room := { frames := 0, cells := 0, slots := 0, locals := 0 }
set_option maxHeartbeats 4000000 in
set_option maxRecDepth 100000 in
theorem c_Le_lower_8 (l : Launch) (dC : Nat → ClassId) (dI : Nat → Nat → Nat) (h : Nat → Nat) (cI cL : ClassId) (σ : gs_St) (a1 : Int32) (a2 : Int32) (K : gs_St → Prop) (hC : C_Le_lower_8 a1 a2 σ K) : gj_MV 0 0 l y_Le_lower (gj_ws y_Le_lower b_Le_lower 4 (none)) rm_Le_lower_8 (dC, dI) gs_C (gs_T cI cL) ((wG h cI cL) σ) (wG h cI cL) [.ref (h 8), .int a1, .int a2] K := by
  refine gj_enterV (by decide) (Nat.le_of_ble_eq_true rfl) (fun p e s m args below meth c A X hr hlk hA hnm => ?_)
  change gj_J p l e rm_Le_lower_8 s m args below meth c 0 0 (MQ below (va_Qv K (gj_at (dC, dI) gs_C (gs_T cI cL) (wG h cI cL) A) A) args s 0 0 A) (dC, dI) gs_C A 4 0 [(0, .ref (h 8)), (1, .int a1), (2, .int a2)] [] ((wG h cI cL) σ)
  refine gj_aload_n X d_Le_lower_0 rfl 0 rfl ?_
  refine gj_iload_n X d_Le_lower_1 rfl 1 rfl ?_
  refine gj_iald X 8 0 rfl rfl hC.1 d_Le_lower_2 ?_
  have hC := hC.2
  refine gj_topi (fun v1 ev1 => ?_)
  have hC := hC v1 ev1
  refine gj_istore_n (L' := [(3, .int v1), (0, .ref (h 8)), (1, .int a1), (2, .int a2)]) X d_Le_lower_3 rfl (by decide) rfl ?_
  refine gj_iload_n X d_Le_lower_4 rfl 3 rfl ?_
  refine gj_iconst (v := -1) X d_Le_lower_5 (by decide) ?_
  refine gj_icmp_eq (tgt := 23) X d_Le_lower_6 (by decide) (fun c0 => ?_) (fun c0 => ?_)
  · have hC := hC.1 c0
    exact gj_vret X hr hlk hC d_Le_lower_23
  · have hC := hC.2 c0
    refine gj_iload_n X d_Le_lower_9 rfl 0 rfl ?_
    refine gj_iconst (v := -1) X d_Le_lower_10 (by decide) ?_
    refine gj_icmp_eq (tgt := 19) X d_Le_lower_11 (by decide) (fun c0 => ?_) (fun c0 => ?_)
    · have hC := hC.1 c0
      refine gj_aload_n X d_Le_lower_19 rfl 1 rfl ?_
      refine gj_iload_n X d_Le_lower_20 rfl 2 rfl ?_
      refine gj_iload_n X d_Le_lower_21 rfl 3 rfl ?_
      refine gj_iast (w' := (wG h cI cL) (gs_A σ 5 (upd (σ.2.1 5) a1.toNatClampNeg a2))) X 8 0 rfl rfl hC.1 (set_wG_A5 h cI cL σ _) d_Le_lower_22 ?_
      refine gj_topw (wof := (wG h cI cL)) (fun σ2 eσ2 => ?_)
      have hC := hC.2 σ2 eσ2
      exact gj_vret X hr hlk hC d_Le_lower_23
    · have hC := hC.2 c0
      refine gj_iload_n X d_Le_lower_14 rfl 3 rfl ?_
      refine gj_iload_n X d_Le_lower_15 rfl 0 rfl ?_
      refine gj_icmp_ge (tgt := 23) X d_Le_lower_16 (by decide) (fun c0 => ?_) (fun c0 => ?_)
      · have hC := hC.1 c0
        exact gj_vret X hr hlk hC d_Le_lower_23
      · have hC := hC.2 c0
        refine gj_aload_n X d_Le_lower_19 rfl 1 rfl ?_
        refine gj_iload_n X d_Le_lower_20 rfl 2 rfl ?_
        refine gj_iload_n X d_Le_lower_21 rfl 3 rfl ?_
        refine gj_iast (w' := (wG h cI cL) (gs_A σ 5 (upd (σ.2.1 5) a1.toNatClampNeg a2))) X 8 0 rfl rfl hC.1 (set_wG_A5 h cI cL σ _) d_Le_lower_22 ?_
        refine gj_topw (wof := (wG h cI cL)) (fun σ3 eσ3 => ?_)
        have hC := hC.2 σ3 eσ3
        exact gj_vret X hr hlk hC d_Le_lower_23
abbrev rm_Le_lowerAround : Room := { frames := 2, cells := 0, slots := 0, locals := 48 }
set_option maxHeartbeats 4000000 in
set_option maxRecDepth 100000 in
theorem c_Le_lowerAround (l : Launch) (dC : Nat → ClassId) (dI : Nat → Nat → Nat) (h : Nat → Nat) (cI cL : ClassId) (σ : gs_St) (a0 : Int32) (K : gs_St → Prop) (hC : C_Le_lowerAround a0 σ K) : gj_MV 0 0 l y_Le_lowerAround (gj_ws y_Le_lowerAround b_Le_lowerAround 6 (none)) rm_Le_lowerAround (dC, dI) gs_C (gs_T cI cL) ((wG h cI cL) σ) (wG h cI cL) [.ref (h 6), .int a0] K := by
  refine gj_enterV (by decide) (Nat.le_of_ble_eq_true rfl) (fun p e s m args below meth c A X hr hlk hA hnm => ?_)
  change gj_J p l e rm_Le_lowerAround s m args below meth c 0 0 (MQ below (va_Qv K (gj_at (dC, dI) gs_C (gs_T cI cL) (wG h cI cL) A) A) args s 0 0 A) (dC, dI) gs_C A 6 0 [(0, .ref (h 6)), (1, .int a0)] [] ((wG h cI cL) σ)
  have hC := hC
    (fun (v_1 : Int32) (v_2 : Int32) (v_3 : Int32) (σ : gs_St) => gj_J p l e rm_Le_lowerAround s m args below meth c 0 0 (MQ below (va_Qv K (gj_at (dC, dI) gs_C (gs_T cI cL) (wG h cI cL) A) A) args s 0 0 A) (dC, dI) gs_C A 6 22 [(0, .ref (h 6)), (1, .int v_1), (2, .int v_2), (3, .int v_3)] [] ((wG h cI cL) σ))
    (by
      intro v_1 v_2 v_3 σ hC
      refine gj_iload_n X d_Le_lowerAround_22 rfl 3 rfl ?_
      refine gj_aload_n X d_Le_lowerAround_23 rfl 0 rfl ?_
      refine gj_get X inX4 6 rfl rfl 0 (by decide) tw_53 rfl rfl d_Le_lowerAround_24 ?_
      refine gj_iload_n X d_Le_lowerAround_27 rfl 1 rfl ?_
      refine gj_callVI (As := [.int v_1]) (st := [.int v_3]) X (c_Gr_sizeOf l dC dI h cI cL σ v_1 _ hC) ⟨gj_cwB X tw_280 tw_2 tw_309 hd_Gr_sizeOf rfl rfl ⟨Nat.le_of_ble_eq_true rfl, Nat.le_of_ble_eq_true rfl⟩, X.2.2.2.2.1 _ tw_278, X.2.2.2.2.1 _ tw_279⟩ 2 rfl rfl hA rfl (Nat.le_of_ble_eq_true rfl) ⟨Nat.zero_le _, Nat.zero_le _⟩ d_Le_lowerAround_28 rfl (fun r5 σ4 hC => ?_)
      refine gj_icmp_ge (tgt := 86) X d_Le_lowerAround_31 (by decide) (fun c0 => ?_) (fun c0 => ?_)
      · have hC := hC.1 c0
        exact gj_vret X hr hlk hC d_Le_lowerAround_86
      · have hC := hC.2 c0
        refine gj_aload_n X d_Le_lowerAround_34 rfl 0 rfl ?_
        refine gj_get X inX4 6 rfl rfl 0 (by decide) tw_53 rfl rfl d_Le_lowerAround_35 ?_
        refine gj_iload_n X d_Le_lowerAround_38 rfl 1 rfl ?_
        refine gj_iload_n X d_Le_lowerAround_39 rfl 3 rfl ?_
        refine gj_callVI (As := [.int v_1, .int v_3]) (st := []) X (c_Gr_symbolAt l dC dI h cI cL σ4 v_1 v_3 _ hC) ⟨gj_cwB X tw_288 tw_2 tw_310 hd_Gr_symbolAt rfl rfl ⟨Nat.le_of_ble_eq_true rfl, Nat.le_of_ble_eq_true rfl⟩, X.2.2.2.2.1 _ tw_286, X.2.2.2.2.1 _ tw_287⟩ 2 rfl rfl hA rfl (Nat.le_of_ble_eq_true rfl) ⟨Nat.zero_le _, Nat.zero_le _⟩ d_Le_lowerAround_40 rfl (fun r7 σ6 hC => ?_)
        refine gj_istore (L' := [(4, .int r7), (0, .ref (h 6)), (1, .int v_1), (2, .int v_2), (3, .int v_3)]) X d_Le_lowerAround_43 (by decide) rfl ?_
        refine gj_aload_n X d_Le_lowerAround_45 rfl 1 rfl ?_
        refine gj_iload_n X d_Le_lowerAround_46 rfl 2 rfl ?_
        refine gj_iload_n X d_Le_lowerAround_47 rfl 4 rfl ?_
        refine gj_callVI (As := [.int v_1, .int v_3]) (st := []) X (c_Le_leastBut l dC dI h cI cL σ6 v_1 v_3 _ hC) ⟨gj_cwB X tw_308 tw_3 tw_305 hd_Le_leastBut rfl rfl ⟨Nat.le_of_ble_eq_true rfl, Nat.le_of_ble_eq_true rfl⟩, X.2.2.2.2.1 _ tw_307, X.2.2.2.2.1 _ ts_1⟩ 6 rfl rfl hA rfl (Nat.le_of_ble_eq_true rfl) ⟨Nat.zero_le _, Nat.zero_le _⟩ d_Le_lowerAround_48 rfl (fun r9 σ8 hC => ?_)
        refine gj_istore (L' := [(5, .int r9), (4, .int r7), (0, .ref (h 6)), (1, .int v_1), (2, .int v_2), (3, .int v_3)]) X d_Le_lowerAround_51 (by decide) rfl ?_
        refine gj_iload X d_Le_lowerAround_53 1 rfl ?_
        refine gj_callSNI (As := [.int r7]) (st := []) X (c_Gl_isNonterminal l dC dI h cI cL σ8 r7 _ hC) ⟨gj_cwN X tw_249 tw_1 tn_311 hd_Gl_isNonterminal rfl rfl ⟨Nat.le_of_ble_eq_true rfl, Nat.le_of_ble_eq_true rfl⟩, X.2.2.2.2.1 _ tw_248, trivial⟩ hA rfl (Nat.le_of_ble_eq_true rfl) ⟨Nat.zero_le _, Nat.zero_le _⟩ d_Le_lowerAround_55 rfl (fun r11 σ10 hC => ?_)
        obtain ⟨hC, hb⟩ := hC
        refine gj_if_eq (tgt := 80) X d_Le_lowerAround_58 (by decide) (fun c0 => ?_) (fun c0 => ?_)
        · have hC := hC.1 c0
          obtain ⟨v12, ev12⟩ : ∃ y : Int32, y = v_3 + 1 := ⟨_, rfl⟩
          have hC := hC v12 ev12
          refine gj_iinc (v := v12) (L' := [(3, .int v12), (5, .int r9), (4, .int r7), (0, .ref (h 6)), (1, .int v_1), (2, .int v_2)]) X d_Le_lowerAround_80 5 rfl (by rw [ev12]; rfl) (by decide) rfl ?_
          refine gj_goto (tgt := 22) X d_Le_lowerAround_83 (by decide) ?_
          exact gj_loc [3, 4, 5, 0] rfl hC
        · have hC := hC.2 c0
          refine gj_iload X d_Le_lowerAround_61 0 rfl ?_
          refine gj_iconst (v := -1) X d_Le_lowerAround_63 (by decide) ?_
          refine gj_icmp_eq (tgt := 80) X d_Le_lowerAround_64 (by decide) (fun c0 => ?_) (fun c0 => ?_)
          · have hC := hC.1 c0
            obtain ⟨v13, ev13⟩ : ∃ y : Int32, y = v_3 + 1 := ⟨_, rfl⟩
            have hC := hC v13 ev13
            refine gj_iinc (v := v13) (L' := [(3, .int v13), (5, .int r9), (4, .int r7), (0, .ref (h 6)), (1, .int v_1), (2, .int v_2)]) X d_Le_lowerAround_80 5 rfl (by rw [ev13]; rfl) (by decide) rfl ?_
            refine gj_goto (tgt := 22) X d_Le_lowerAround_83 (by decide) ?_
            exact gj_loc [3, 4, 5, 0] rfl hC
          · have hC := hC.2 c0
            refine gj_aload_n X d_Le_lowerAround_67 rfl 2 rfl ?_
            refine gj_get X inX4 6 rfl rfl 2 (by decide) tw_55 rfl rfl d_Le_lowerAround_68 ?_
            refine gj_iload X d_Le_lowerAround_71 1 rfl ?_
            refine gj_iload_n X d_Le_lowerAround_73 rfl 4 rfl ?_
            refine gj_iload X d_Le_lowerAround_74 0 rfl ?_
            refine gj_iadd X d_Le_lowerAround_76 ?_
            refine gj_callSV (As := [.ref (h 8), .int r7, .int (v_2 + r9)]) (st := []) X (c_Le_lower_8 l dC dI h cI cL σ10 r7 (v_2 + r9) _ hC) ⟨gj_cwB X tw_314 tw_3 tw_312 hd_Le_lower rfl rfl ⟨Nat.le_of_ble_eq_true rfl, Nat.le_of_ble_eq_true rfl⟩, X.2.2.2.2.1 _ tw_313⟩ hA rfl (Nat.le_of_ble_eq_true rfl) ⟨Nat.zero_le _, Nat.zero_le _⟩ d_Le_lowerAround_77 rfl (fun σ14 hC => ?_)
            obtain ⟨v15, ev15⟩ : ∃ y : Int32, y = v_3 + 1 := ⟨_, rfl⟩
            have hC := hC v15 ev15
            refine gj_iinc (v := v15) (L' := [(3, .int v15), (5, .int r9), (4, .int r7), (0, .ref (h 6)), (1, .int v_1), (2, .int v_2)]) X d_Le_lowerAround_80 5 rfl (by rw [ev15]; rfl) (by decide) rfl ?_
            refine gj_goto (tgt := 22) X d_Le_lowerAround_83 (by decide) ?_
            exact gj_loc [3, 4, 5, 0] rfl hC)
  refine gj_aload_n X d_Le_lowerAround_0 rfl 0 rfl ?_
  refine gj_get X inX4 6 rfl rfl 2 (by decide) tw_55 rfl rfl d_Le_lowerAround_1 ?_
  refine gj_aload_n X d_Le_lowerAround_4 rfl 0 rfl ?_
  refine gj_get X inX4 6 rfl rfl 0 (by decide) tw_53 rfl rfl d_Le_lowerAround_5 ?_
  refine gj_iload_n X d_Le_lowerAround_8 rfl 1 rfl ?_
  refine gj_callVI (As := [.int a0]) (st := [.ref (h 8)]) X (c_Gr_leftOf l dC dI h cI cL σ a0 _ hC) ⟨gj_cwB X tw_284 tw_2 tw_304 hd_Gr_leftOf rfl rfl ⟨Nat.le_of_ble_eq_true rfl, Nat.le_of_ble_eq_true rfl⟩, X.2.2.2.2.1 _ tw_282, X.2.2.2.2.1 _ tw_283⟩ 2 rfl rfl hA rfl (Nat.le_of_ble_eq_true rfl) ⟨Nat.zero_le _, Nat.zero_le _⟩ d_Le_lowerAround_9 rfl (fun r2 σ1 hC => ?_)
  refine gj_iald X 8 0 rfl rfl hC.1 d_Le_lowerAround_12 ?_
  have hC := hC.2
  refine gj_topi (fun v3 ev3 => ?_)
  have hC := hC v3 ev3
  refine gj_istore_n (L' := [(2, .int v3), (0, .ref (h 6)), (1, .int a0)]) X d_Le_lowerAround_13 rfl (by decide) rfl ?_
  refine gj_iload_n X d_Le_lowerAround_14 rfl 0 rfl ?_
  refine gj_iconst (v := -1) X d_Le_lowerAround_15 (by decide) ?_
  refine gj_icmp_ne (tgt := 20) X d_Le_lowerAround_16 (by decide) (fun c0 => ?_) (fun c0 => ?_)
  · have hC := hC.1 c0
    refine gj_iconst (v := 0) X d_Le_lowerAround_20 (by decide) ?_
    refine gj_istore_n (L' := [(3, .int (0 : Int32)), (2, .int v3), (0, .ref (h 6)), (1, .int a0)]) X d_Le_lowerAround_21 rfl (by decide) rfl ?_
    exact gj_loc [2, 3, 1, 0] rfl hC
  · have hC := hC.2 c0
    exact gj_vret X hr hlk hC d_Le_lowerAround_19
abbrev rm_Le_find : Room := { frames := 3, cells := 0, slots := 0, locals := 73 }
set_option maxHeartbeats 4000000 in
set_option maxRecDepth 100000 in
theorem c_Le_find (l : Launch) (dC : Nat → ClassId) (dI : Nat → Nat → Nat) (h : Nat → Nat) (cI cL : ClassId) (σ : gs_St) (K : gs_St → Prop) (hC : C_Le_find σ K) : gj_MV 0 0 l y_Le_find (gj_ws y_Le_find b_Le_find 3 (none)) rm_Le_find (dC, dI) gs_C (gs_T cI cL) ((wG h cI cL) σ) (wG h cI cL) [.ref (h 6)] K := by
  refine gj_enterV (by decide) (Nat.le_of_ble_eq_true rfl) (fun p e s m args below meth c A X hr hlk hA hnm => ?_)
  change gj_J p l e rm_Le_find s m args below meth c 0 0 (MQ below (va_Qv K (gj_at (dC, dI) gs_C (gs_T cI cL) (wG h cI cL) A) A) args s 0 0 A) (dC, dI) gs_C A 3 0 [(0, .ref (h 6))] [] ((wG h cI cL) σ)
  have hC := hC
    (fun (v_1 : Int32) (σ : gs_St) => gj_J p l e rm_Le_find s m args below meth c 0 0 (MQ below (va_Qv K (gj_at (dC, dI) gs_C (gs_T cI cL) (wG h cI cL) A) A) args s 0 0 A) (dC, dI) gs_C A 3 10 [(0, .ref (h 6)), (1, .int v_1)] [] ((wG h cI cL) σ))
    (fun (v_1 : Int32) (v_2 : Int32) (σ : gs_St) => gj_J p l e rm_Le_find s m args below meth c 0 0 (MQ below (va_Qv K (gj_at (dC, dI) gs_C (gs_T cI cL) (wG h cI cL) A) A) args s 0 0 A) (dC, dI) gs_C A 3 18 [(0, .ref (h 6)), (1, .int v_1), (2, .int v_2)] [] ((wG h cI cL) σ))
    (fun (v_1 : Int32) (σ : gs_St) => gj_J p l e rm_Le_find s m args below meth c 0 0 (MQ below (va_Qv K (gj_at (dC, dI) gs_C (gs_T cI cL) (wG h cI cL) A) A) args s 0 0 A) (dC, dI) gs_C A 3 79 [(0, .ref (h 6)), (1, .int v_1)] [] ((wG h cI cL) σ))
    (fun (v_1 : Int32) (v_2 : Int32) (σ : gs_St) => gj_J p l e rm_Le_find s m args below meth c 0 0 (MQ below (va_Qv K (gj_at (dC, dI) gs_C (gs_T cI cL) (wG h cI cL) A) A) args s 0 0 A) (dC, dI) gs_C A 3 87 [(0, .ref (h 6)), (1, .int v_1), (2, .int v_2)] [] ((wG h cI cL) σ))
    (by
      intro v_1 σ hC
      refine gj_iload_n X d_Le_find_10 rfl 1 rfl ?_
      refine gj_bipush (v := 8) X d_Le_find_11 (by decide) ?_
      refine gj_icmp_ge (tgt := 62) X d_Le_find_13 (by decide) (fun c0 => ?_) (fun c0 => ?_)
      · have hC := hC.1 c0
        refine gj_aload_n X d_Le_find_62 rfl 0 rfl ?_
        refine gj_get X inX4 6 rfl rfl 2 (by decide) tw_55 rfl rfl d_Le_find_63 ?_
        refine gj_iconst (v := -1) X d_Le_find_66 (by decide) ?_
        refine gj_callSV (As := [.ref (h 8), .int (-1 : Int32)]) (st := []) X (c_Ar_fill_8 l dC dI h cI cL σ (-1 : Int32) _ hC) ⟨gj_cwB X tw_303 tw_12 tw_301 hd_Ar_fill rfl rfl ⟨Nat.le_of_ble_eq_true rfl, Nat.le_of_ble_eq_true rfl⟩, X.2.2.2.2.1 _ tw_302⟩ hA rfl (Nat.le_of_ble_eq_true rfl) ⟨Nat.zero_le _, Nat.zero_le _⟩ d_Le_find_67 rfl (fun σ2 hC => ?_)
        refine gj_aload_n X d_Le_find_70 rfl 0 rfl ?_
        refine gj_get X inX4 6 rfl rfl 2 (by decide) tw_55 rfl rfl d_Le_find_71 ?_
        refine gj_iconst (v := 0) X d_Le_find_74 (by decide) ?_
        refine gj_iconst (v := 0) X d_Le_find_75 (by decide) ?_
        refine gj_iast (w' := (wG h cI cL) (gs_A σ2 5 (upd (σ2.2.1 5) (0 : Int32).toNatClampNeg (0 : Int32)))) X 8 0 rfl rfl hC.1 (set_wG_A5 h cI cL σ2 _) d_Le_find_76 ?_
        refine gj_topw (wof := (wG h cI cL)) (fun σ3 eσ3 => ?_)
        have hC := hC.2 σ3 eσ3
        refine gj_iconst (v := 0) X d_Le_find_77 (by decide) ?_
        refine gj_istore_n (L' := [(1, .int (0 : Int32)), (0, .ref (h 6))]) X d_Le_find_78 rfl (by decide) rfl ?_
        exact gj_loc [1, 0] rfl hC
      · have hC := hC.2 c0
        refine gj_iconst (v := 0) X d_Le_find_16 (by decide) ?_
        refine gj_istore_n (L' := [(2, .int (0 : Int32)), (0, .ref (h 6)), (1, .int v_1)]) X d_Le_find_17 rfl (by decide) rfl ?_
        exact gj_loc [1, 2, 0] rfl hC)
    (by
      intro v_1 v_2 σ hC
      refine gj_iload_n X d_Le_find_18 rfl 2 rfl ?_
      refine gj_aload_n X d_Le_find_19 rfl 0 rfl ?_
      refine gj_get X inX4 6 rfl rfl 0 (by decide) tw_53 rfl rfl d_Le_find_20 ?_
      refine gj_getN X inX2 2 rfl rfl 3 (by decide) tn_35 rfl rfl d_Le_find_23 ?_
      refine gj_icmp_ge (tgt := 56) X d_Le_find_26 (by decide) (fun c0 => ?_) (fun c0 => ?_)
      · have hC := hC.1 c0
        obtain ⟨v4, ev4⟩ : ∃ y : Int32, y = v_1 + 1 := ⟨_, rfl⟩
        have hC := hC v4 ev4
        refine gj_iinc (v := v4) (L' := [(1, .int v4), (0, .ref (h 6)), (2, .int v_2)]) X d_Le_find_56 1 rfl (by rw [ev4]; rfl) (by decide) rfl ?_
        refine gj_goto (tgt := 10) X d_Le_find_59 (by decide) ?_
        exact gj_loc [1, 0] rfl hC
      · have hC := hC.2 c0
        refine gj_aload_n X d_Le_find_29 rfl 0 rfl ?_
        refine gj_get X inX4 6 rfl rfl 1 (by decide) tw_54 rfl rfl d_Le_find_30 ?_
        refine gj_aload_n X d_Le_find_33 rfl 0 rfl ?_
        refine gj_get X inX4 6 rfl rfl 0 (by decide) tw_53 rfl rfl d_Le_find_34 ?_
        refine gj_iload_n X d_Le_find_37 rfl 2 rfl ?_
        refine gj_callVI (As := [.int v_2]) (st := [.ref (h 7)]) X (c_Gr_leftOf l dC dI h cI cL σ v_2 _ hC) ⟨gj_cwB X tw_284 tw_2 tw_304 hd_Gr_leftOf rfl rfl ⟨Nat.le_of_ble_eq_true rfl, Nat.le_of_ble_eq_true rfl⟩, X.2.2.2.2.1 _ tw_282, X.2.2.2.2.1 _ tw_283⟩ 2 rfl rfl hA rfl (Nat.le_of_ble_eq_true rfl) ⟨Nat.zero_le _, Nat.zero_le _⟩ d_Le_find_38 rfl (fun r6 σ5 hC => ?_)
        refine gj_aload_n X d_Le_find_41 rfl 0 rfl ?_
        refine gj_iload_n X d_Le_find_42 rfl 2 rfl ?_
        refine gj_iconst (v := -1) X d_Le_find_43 (by decide) ?_
        refine gj_callVI (As := [.int v_2, .int (-1 : Int32)]) (st := [.int r6, .ref (h 7)]) X (c_Le_leastBut l dC dI h cI cL σ5 v_2 (-1 : Int32) _ hC) ⟨gj_cwB X tw_308 tw_3 tw_305 hd_Le_leastBut rfl rfl ⟨Nat.le_of_ble_eq_true rfl, Nat.le_of_ble_eq_true rfl⟩, X.2.2.2.2.1 _ tw_307, X.2.2.2.2.1 _ ts_1⟩ 6 rfl rfl hA rfl (Nat.le_of_ble_eq_true rfl) ⟨Nat.zero_le _, Nat.zero_le _⟩ d_Le_find_44 rfl (fun r8 σ7 hC => ?_)
        refine gj_callSV (As := [.ref (h 7), .int r6, .int r8]) (st := []) X (c_Le_lower_7 l dC dI h cI cL σ7 r6 r8 _ hC) ⟨gj_cwB X tw_314 tw_3 tw_312 hd_Le_lower rfl rfl ⟨Nat.le_of_ble_eq_true rfl, Nat.le_of_ble_eq_true rfl⟩, X.2.2.2.2.1 _ tw_313⟩ hA rfl (Nat.le_of_ble_eq_true rfl) ⟨Nat.zero_le _, Nat.zero_le _⟩ d_Le_find_47 rfl (fun σ9 hC => ?_)
        obtain ⟨v10, ev10⟩ : ∃ y : Int32, y = v_2 + 1 := ⟨_, rfl⟩
        have hC := hC v10 ev10
        refine gj_iinc (v := v10) (L' := [(2, .int v10), (0, .ref (h 6)), (1, .int v_1)]) X d_Le_find_50 2 rfl (by rw [ev10]; rfl) (by decide) rfl ?_
        refine gj_goto (tgt := 18) X d_Le_find_53 (by decide) ?_
        exact gj_loc [1, 2, 0] rfl hC)
    (by
      intro v_1 σ hC
      refine gj_iload_n X d_Le_find_79 rfl 1 rfl ?_
      refine gj_bipush (v := 8) X d_Le_find_80 (by decide) ?_
      refine gj_icmp_ge (tgt := 115) X d_Le_find_82 (by decide) (fun c0 => ?_) (fun c0 => ?_)
      · have hC := hC.1 c0
        exact gj_vret X hr hlk hC d_Le_find_115
      · have hC := hC.2 c0
        refine gj_iconst (v := 0) X d_Le_find_85 (by decide) ?_
        refine gj_istore_n (L' := [(2, .int (0 : Int32)), (0, .ref (h 6)), (1, .int v_1)]) X d_Le_find_86 rfl (by decide) rfl ?_
        exact gj_loc [1, 2, 0] rfl hC)
    (by
      intro v_1 v_2 σ hC
      refine gj_iload_n X d_Le_find_87 rfl 2 rfl ?_
      refine gj_aload_n X d_Le_find_88 rfl 0 rfl ?_
      refine gj_get X inX4 6 rfl rfl 0 (by decide) tw_53 rfl rfl d_Le_find_89 ?_
      refine gj_getN X inX2 2 rfl rfl 3 (by decide) tn_35 rfl rfl d_Le_find_92 ?_
      refine gj_icmp_ge (tgt := 109) X d_Le_find_95 (by decide) (fun c0 => ?_) (fun c0 => ?_)
      · have hC := hC.1 c0
        obtain ⟨v11, ev11⟩ : ∃ y : Int32, y = v_1 + 1 := ⟨_, rfl⟩
        have hC := hC v11 ev11
        refine gj_iinc (v := v11) (L' := [(1, .int v11), (0, .ref (h 6)), (2, .int v_2)]) X d_Le_find_109 1 rfl (by rw [ev11]; rfl) (by decide) rfl ?_
        refine gj_goto (tgt := 79) X d_Le_find_112 (by decide) ?_
        exact gj_loc [1, 0] rfl hC
      · have hC := hC.2 c0
        refine gj_aload_n X d_Le_find_98 rfl 0 rfl ?_
        refine gj_iload_n X d_Le_find_99 rfl 2 rfl ?_
        refine gj_callVV (As := [.int v_2]) (st := []) X (c_Le_lowerAround l dC dI h cI cL σ v_2 _ hC) ⟨gj_cwB X tw_318 tw_3 tw_315 hd_Le_lowerAround rfl rfl ⟨Nat.le_of_ble_eq_true rfl, Nat.le_of_ble_eq_true rfl⟩, X.2.2.2.2.1 _ tw_317, X.2.2.2.2.1 _ ts_2⟩ 6 rfl rfl hA rfl (Nat.le_of_ble_eq_true rfl) ⟨Nat.zero_le _, Nat.zero_le _⟩ d_Le_find_100 rfl (fun σ12 hC => ?_)
        obtain ⟨v13, ev13⟩ : ∃ y : Int32, y = v_2 + 1 := ⟨_, rfl⟩
        have hC := hC v13 ev13
        refine gj_iinc (v := v13) (L' := [(2, .int v13), (0, .ref (h 6)), (1, .int v_1)]) X d_Le_find_103 2 rfl (by rw [ev13]; rfl) (by decide) rfl ?_
        refine gj_goto (tgt := 87) X d_Le_find_106 (by decide) ?_
        exact gj_loc [1, 2, 0] rfl hC)
  refine gj_aload_n X d_Le_find_0 rfl 0 rfl ?_
  refine gj_get X inX4 6 rfl rfl 1 (by decide) tw_54 rfl rfl d_Le_find_1 ?_
  refine gj_iconst (v := -1) X d_Le_find_4 (by decide) ?_
  refine gj_callSV (As := [.ref (h 7), .int (-1 : Int32)]) (st := []) X (c_Ar_fill_7 l dC dI h cI cL σ (-1 : Int32) _ hC) ⟨gj_cwB X tw_303 tw_12 tw_301 hd_Ar_fill rfl rfl ⟨Nat.le_of_ble_eq_true rfl, Nat.le_of_ble_eq_true rfl⟩, X.2.2.2.2.1 _ tw_302⟩ hA rfl (Nat.le_of_ble_eq_true rfl) ⟨Nat.zero_le _, Nat.zero_le _⟩ d_Le_find_5 rfl (fun σ1 hC => ?_)
  refine gj_iconst (v := 0) X d_Le_find_8 (by decide) ?_
  refine gj_istore_n (L' := [(1, .int (0 : Int32)), (0, .ref (h 6))]) X d_Le_find_9 rfl (by decide) rfl ?_
  exact gj_loc [1, 0] rfl hC
abbrev rm_Ar_fill_10 : Room := { frames := 0, cells := 0, slots := 0, locals := 0 }
set_option maxHeartbeats 4000000 in
set_option maxRecDepth 100000 in
theorem c_Ar_fill_10 (l : Launch) (dC : Nat → ClassId) (dI : Nat → Nat → Nat) (h : Nat → Nat) (cI cL : ClassId) (σ : gs_St) (a1 : Int32) (K : gs_St → Prop) (hC : C_Ar_fill_10 a1 σ K) : gj_MV 0 0 l y_Ar_fill (gj_ws y_Ar_fill b_Ar_fill 4 (none)) rm_Ar_fill_10 (dC, dI) gs_C (gs_T cI cL) ((wG h cI cL) σ) (wG h cI cL) [.ref (h 10), .int a1] K := by
  refine gj_enterV (by decide) (Nat.le_of_ble_eq_true rfl) (fun p e s m args below meth c A X hr hlk hA hnm => ?_)
  change gj_J p l e rm_Ar_fill_10 s m args below meth c 0 0 (MQ below (va_Qv K (gj_at (dC, dI) gs_C (gs_T cI cL) (wG h cI cL) A) A) args s 0 0 A) (dC, dI) gs_C A 4 0 [(0, .ref (h 10)), (1, .int a1)] [] ((wG h cI cL) σ)
  have hC := hC
    (fun (v_1 : Int32) (v_2 : Int32) (v_3 : Int32) (σ : gs_St) => gj_J p l e rm_Ar_fill_10 s m args below meth c 0 0 (MQ below (va_Qv K (gj_at (dC, dI) gs_C (gs_T cI cL) (wG h cI cL) A) A) args s 0 0 A) (dC, dI) gs_C A 4 5 [(0, .ref (h 10)), (1, .int v_1), (2, .int v_2), (3, .int v_3)] [] ((wG h cI cL) σ))
    (by
      intro v_1 v_2 v_3 σ hC
      refine gj_iload_n X d_Ar_fill_5 rfl 2 rfl ?_
      refine gj_iload_n X d_Ar_fill_6 rfl 3 rfl ?_
      refine gj_icmp_ge (tgt := 20) X d_Ar_fill_7 (by decide) (fun c0 => ?_) (fun c0 => ?_)
      · have hC := hC.1 c0
        exact gj_vret X hr hlk hC d_Ar_fill_20
      · have hC := hC.2 c0
        refine gj_aload_n X d_Ar_fill_10 rfl 0 rfl ?_
        refine gj_iload_n X d_Ar_fill_11 rfl 2 rfl ?_
        refine gj_iload_n X d_Ar_fill_12 rfl 1 rfl ?_
        refine gj_iast (w' := (wG h cI cL) (gs_A σ 6 (upd (σ.2.1 6) v_2.toNatClampNeg v_1))) X 10 0 rfl rfl hC.1 (set_wG_A6 h cI cL σ _) d_Ar_fill_13 ?_
        refine gj_topw (wof := (wG h cI cL)) (fun σ1 eσ1 => ?_)
        have hC := hC.2 σ1 eσ1
        obtain ⟨v2, ev2⟩ : ∃ y : Int32, y = v_2 + 1 := ⟨_, rfl⟩
        have hC := hC v2 ev2
        refine gj_iinc (v := v2) (L' := [(2, .int v2), (0, .ref (h 10)), (1, .int v_1), (3, .int v_3)]) X d_Ar_fill_14 2 rfl (by rw [ev2]; rfl) (by decide) rfl ?_
        refine gj_goto (tgt := 5) X d_Ar_fill_17 (by decide) ?_
        exact gj_loc [1, 2, 0, 3] rfl hC)
  refine gj_iconst (v := 0) X d_Ar_fill_0 (by decide) ?_
  refine gj_istore_n (L' := [(2, .int (0 : Int32)), (0, .ref (h 10)), (1, .int a1)]) X d_Ar_fill_1 rfl (by decide) rfl ?_
  refine gj_aload_n X d_Ar_fill_2 rfl 1 rfl ?_
  refine gj_alen (v := 8) X 10 0 rfl rfl rfl d_Ar_fill_3 ?_
  refine gj_istore_n (L' := [(3, .int (8 : Int32)), (2, .int (0 : Int32)), (0, .ref (h 10)), (1, .int a1)]) X d_Ar_fill_4 rfl (by decide) rfl ?_
  exact gj_loc [2, 3, 1, 0] rfl hC
abbrev rm_Ld_putInOrder : Room := { frames := 0, cells := 0, slots := 0, locals := 0 }
set_option maxHeartbeats 4000000 in
set_option maxRecDepth 100000 in
theorem c_Ld_putInOrder (l : Launch) (dC : Nat → ClassId) (dI : Nat → Nat → Nat) (h : Nat → Nat) (cI cL : ClassId) (σ : gs_St) (K : gs_St → Prop) (hC : C_Ld_putInOrder σ K) : gj_MV 0 0 l y_Ld_putInOrder (gj_ws y_Ld_putInOrder b_Ld_putInOrder 5 (none)) rm_Ld_putInOrder (dC, dI) gs_C (gs_T cI cL) ((wG h cI cL) σ) (wG h cI cL) [.ref (h 9)] K := by
  refine gj_enterV (by decide) (Nat.le_of_ble_eq_true rfl) (fun p e s m args below meth c A X hr hlk hA hnm => ?_)
  change gj_J p l e rm_Ld_putInOrder s m args below meth c 0 0 (MQ below (va_Qv K (gj_at (dC, dI) gs_C (gs_T cI cL) (wG h cI cL) A) A) args s 0 0 A) (dC, dI) gs_C A 5 0 [(0, .ref (h 9))] [] ((wG h cI cL) σ)
  have hC := hC
    (fun (v_1 : Int32) (v_2 : Int32) (σ : gs_St) => gj_J p l e rm_Ld_putInOrder s m args below meth c 0 0 (MQ below (va_Qv K (gj_at (dC, dI) gs_C (gs_T cI cL) (wG h cI cL) A) A) args s 0 0 A) (dC, dI) gs_C A 5 9 [(0, .ref (h 9)), (1, .int v_1), (2, .int v_2)] [] ((wG h cI cL) σ))
    (fun (v_1 : Int32) (v_2 : Int32) (v_3 : Int32) (σ : gs_St) => gj_J p l e rm_Ld_putInOrder s m args below meth c 0 0 (MQ below (va_Qv K (gj_at (dC, dI) gs_C (gs_T cI cL) (wG h cI cL) A) A) args s 0 0 A) (dC, dI) gs_C A 5 17 [(0, .ref (h 9)), (1, .int v_1), (2, .int v_2), (3, .int v_3)] [] ((wG h cI cL) σ))
    (fun (v_1 : Int32) (v_2 : Int32) (v_3 : Int32) (s_0 : Int32) (σ : gs_St) => gj_J p l e rm_Ld_putInOrder s m args below meth c 0 0 (MQ below (va_Qv K (gj_at (dC, dI) gs_C (gs_T cI cL) (wG h cI cL) A) A) args s 0 0 A) (dC, dI) gs_C A 5 36 [(0, .ref (h 9)), (1, .int v_1), (2, .int v_2), (3, .int v_3)] [.int s_0] ((wG h cI cL) σ))
    (by
      intro v_1 v_2 σ hC
      refine gj_iload_n X d_Ld_putInOrder_9 rfl 2 rfl ?_
      refine gj_bipush (v := 8) X d_Ld_putInOrder_10 (by decide) ?_
      refine gj_icmp_ge (tgt := 94) X d_Ld_putInOrder_12 (by decide) (fun c0 => ?_) (fun c0 => ?_)
      · have hC := hC.1 c0
        exact gj_vret X hr hlk hC d_Ld_putInOrder_94
      · have hC := hC.2 c0
        refine gj_iconst (v := 0) X d_Ld_putInOrder_15 (by decide) ?_
        refine gj_istore_n (L' := [(3, .int (0 : Int32)), (0, .ref (h 9)), (1, .int v_1), (2, .int v_2)]) X d_Ld_putInOrder_16 rfl (by decide) rfl ?_
        exact gj_loc [1, 2, 3, 0] rfl hC)
    (by
      intro v_1 v_2 v_3 σ hC
      refine gj_iload_n X d_Ld_putInOrder_17 rfl 3 rfl ?_
      refine gj_bipush (v := 8) X d_Ld_putInOrder_18 (by decide) ?_
      refine gj_icmp_ge (tgt := 88) X d_Ld_putInOrder_20 (by decide) (fun c0 => ?_) (fun c0 => ?_)
      · have hC := hC.1 c0
        obtain ⟨v2, ev2⟩ : ∃ y : Int32, y = v_2 + 1 := ⟨_, rfl⟩
        have hC := hC v2 ev2
        refine gj_iinc (v := v2) (L' := [(2, .int v2), (0, .ref (h 9)), (1, .int v_1), (3, .int v_3)]) X d_Ld_putInOrder_88 2 rfl (by rw [ev2]; rfl) (by decide) rfl ?_
        refine gj_goto (tgt := 9) X d_Ld_putInOrder_91 (by decide) ?_
        exact gj_loc [1, 2, 0] rfl hC
      · have hC := hC.2 c0
        refine gj_iload_n X d_Ld_putInOrder_23 rfl 1 rfl ?_
        refine gj_iconst (v := 1) X d_Ld_putInOrder_24 (by decide) ?_
        refine gj_iload_n X d_Ld_putInOrder_25 rfl 3 rfl ?_
        refine gj_ishl X d_Ld_putInOrder_26 ?_
        refine gj_iand X d_Ld_putInOrder_27 ?_
        refine gj_if_ne (tgt := 35) X d_Ld_putInOrder_28 (by decide) (fun c0 => ?_) (fun c0 => ?_)
        · have hC := hC.1 c0
          refine gj_iconst (v := 0) X d_Ld_putInOrder_35 (by decide) ?_
          exact gj_loc [0, 1, 2, 3] rfl hC
        · have hC := hC.2 c0
          refine gj_iconst (v := 1) X d_Ld_putInOrder_31 (by decide) ?_
          refine gj_goto (tgt := 36) X d_Ld_putInOrder_32 (by decide) ?_
          exact gj_loc [0, 1, 2, 3] rfl hC)
    (by
      intro v_1 v_2 v_3 s_0 σ hC
      refine gj_istore (L' := [(4, .int s_0), (0, .ref (h 9)), (1, .int v_1), (2, .int v_2), (3, .int v_3)]) X d_Ld_putInOrder_36 (by decide) rfl ?_
      refine gj_iload X d_Ld_putInOrder_38 0 rfl ?_
      refine gj_if_eq (tgt := 82) X d_Ld_putInOrder_40 (by decide) (fun c0 => ?_) (fun c0 => ?_)
      · have hC := hC.1 c0
        obtain ⟨v3, ev3⟩ : ∃ y : Int32, y = v_3 + 1 := ⟨_, rfl⟩
        have hC := hC v3 ev3
        refine gj_iinc (v := v3) (L' := [(3, .int v3), (4, .int s_0), (0, .ref (h 9)), (1, .int v_1), (2, .int v_2)]) X d_Ld_putInOrder_82 4 rfl (by rw [ev3]; rfl) (by decide) rfl ?_
        refine gj_goto (tgt := 17) X d_Ld_putInOrder_85 (by decide) ?_
        exact gj_loc [2, 3, 4, 0] rfl hC
      · have hC := hC.2 c0
        refine gj_aload_n X d_Ld_putInOrder_43 rfl 1 rfl ?_
        refine gj_get X inX3 9 rfl rfl 2 (by decide) tw_71 rfl rfl d_Ld_putInOrder_44 ?_
        refine gj_iload_n X d_Ld_putInOrder_47 rfl 4 rfl ?_
        refine gj_iald X 10 0 rfl rfl hC.1 d_Ld_putInOrder_48 ?_
        have hC := hC.2
        refine gj_iload_n X d_Ld_putInOrder_49 rfl 2 rfl ?_
        refine gj_iconst (v := -1) X d_Ld_putInOrder_50 (by decide) ?_
        refine gj_ixor X d_Ld_putInOrder_51 ?_
        refine gj_iand X d_Ld_putInOrder_52 ?_
        refine gj_if_ne (tgt := 82) X d_Ld_putInOrder_53 (by decide) (fun c0 => ?_) (fun c0 => ?_)
        · have hC := hC.1 c0
          obtain ⟨v4, ev4⟩ : ∃ y : Int32, y = v_3 + 1 := ⟨_, rfl⟩
          have hC := hC v4 ev4
          refine gj_iinc (v := v4) (L' := [(3, .int v4), (4, .int s_0), (0, .ref (h 9)), (1, .int v_1), (2, .int v_2)]) X d_Ld_putInOrder_82 4 rfl (by rw [ev4]; rfl) (by decide) rfl ?_
          refine gj_goto (tgt := 17) X d_Ld_putInOrder_85 (by decide) ?_
          exact gj_loc [2, 3, 4, 0] rfl hC
        · have hC := hC.2 c0
          refine gj_iload_n X d_Ld_putInOrder_56 rfl 2 rfl ?_
          refine gj_iconst (v := 1) X d_Ld_putInOrder_57 (by decide) ?_
          refine gj_iload_n X d_Ld_putInOrder_58 rfl 4 rfl ?_
          refine gj_ishl X d_Ld_putInOrder_59 ?_
          refine gj_ior X d_Ld_putInOrder_60 ?_
          refine gj_topi (fun v5 ev5 => ?_)
          have hC := hC v5 ev5
          refine gj_istore_n (L' := [(1, .int v5), (4, .int s_0), (0, .ref (h 9)), (2, .int v_2), (3, .int v_3)]) X d_Ld_putInOrder_61 rfl (by decide) rfl ?_
          refine gj_aload_n X d_Ld_putInOrder_62 rfl 2 rfl ?_
          refine gj_get X inX3 9 rfl rfl 3 (by decide) tw_72 rfl rfl d_Ld_putInOrder_63 ?_
          refine gj_aload_n X d_Ld_putInOrder_66 rfl 2 rfl ?_
          refine gj_get X inX3 9 rfl rfl 4 (by decide) tw_73 rfl rfl d_Ld_putInOrder_67 ?_
          refine gj_iload_n X d_Ld_putInOrder_70 rfl 4 rfl ?_
          refine gj_iast (w' := (wG h cI cL) (gs_A σ 7 (upd (σ.2.1 7) (σ.1 3).toNatClampNeg v_3))) X 11 0 rfl rfl hC.1 (set_wG_A7 h cI cL σ _) d_Ld_putInOrder_71 ?_
          refine gj_topw (wof := (wG h cI cL)) (fun σ6 eσ6 => ?_)
          have hC := hC.2 σ6 eσ6
          refine gj_aload_n X d_Ld_putInOrder_72 rfl 2 rfl ?_
          refine gj_dup X d_Ld_putInOrder_73 rfl ?_
          refine gj_get X inX3 9 rfl rfl 4 (by decide) tw_73 rfl rfl d_Ld_putInOrder_74 ?_
          refine gj_iconst (v := 1) X d_Ld_putInOrder_77 (by decide) ?_
          refine gj_iadd X d_Ld_putInOrder_78 ?_
          refine gj_put (w' := (wG h cI cL) (gs_I σ6 3 ((σ6.1 3) + (1 : Int32)))) X inX3 tyX3 tyX3_ok nmX3 9 rfl rfl 4 (by decide) tw_73 rfl rfl (tyX3_ok 4 (by decide)) rfl rfl (Nat.le_of_ble_eq_true rfl) (set_wG_I3 h cI cL σ6 _) d_Ld_putInOrder_79 ?_
          refine gj_topw (wof := (wG h cI cL)) (fun σ7 eσ7 => ?_)
          have hC := hC σ7 eσ7
          obtain ⟨v8, ev8⟩ : ∃ y : Int32, y = v_3 + 1 := ⟨_, rfl⟩
          have hC := hC v8 ev8
          refine gj_iinc (v := v8) (L' := [(3, .int v8), (1, .int v5), (4, .int s_0), (0, .ref (h 9)), (2, .int v_2)]) X d_Ld_putInOrder_82 4 rfl (by rw [ev8]; rfl) (by decide) rfl ?_
          refine gj_goto (tgt := 17) X d_Ld_putInOrder_85 (by decide) ?_
          exact gj_loc [3, 1, 4, 0] rfl hC)
  refine gj_aload_n X d_Ld_putInOrder_0 rfl 0 rfl ?_
  refine gj_iconst (v := 0) X d_Ld_putInOrder_1 (by decide) ?_
  refine gj_put (w' := (wG h cI cL) (gs_I σ 3 (0 : Int32))) X inX3 tyX3 tyX3_ok nmX3 9 rfl rfl 4 (by decide) tw_73 rfl rfl (tyX3_ok 4 (by decide)) rfl rfl (Nat.le_of_ble_eq_true rfl) (set_wG_I3 h cI cL σ _) d_Ld_putInOrder_2 ?_
  refine gj_topw (wof := (wG h cI cL)) (fun σ1 eσ1 => ?_)
  have hC := hC σ1 eσ1
  refine gj_iconst (v := 0) X d_Ld_putInOrder_5 (by decide) ?_
  refine gj_istore_n (L' := [(1, .int (0 : Int32)), (0, .ref (h 9))]) X d_Ld_putInOrder_6 rfl (by decide) rfl ?_
  refine gj_iconst (v := 0) X d_Ld_putInOrder_7 (by decide) ?_
  refine gj_istore_n (L' := [(2, .int (0 : Int32)), (1, .int (0 : Int32)), (0, .ref (h 9))]) X d_Ld_putInOrder_8 rfl (by decide) rfl ?_
  exact gj_loc [2, 1, 0] rfl hC
abbrev rm_Le_isEmpty : Room := { frames := 1, cells := 0, slots := 0, locals := 20 }
set_option maxHeartbeats 4000000 in
set_option maxRecDepth 100000 in
theorem c_Le_isEmpty (l : Launch) (dC : Nat → ClassId) (dI : Nat → Nat → Nat) (h : Nat → Nat) (cI cL : ClassId) (σ : gs_St) (a0 : Int32) (K : Int32 → gs_St → Prop) (hC : C_Le_isEmpty a0 σ K) : gj_MI l y_Le_isEmpty (gj_ws y_Le_isEmpty b_Le_isEmpty 2 (some .boolean)) rm_Le_isEmpty (dC, dI) gs_C (gs_T cI cL) ((wG h cI cL) σ) (wG h cI cL) [.ref (h 6), .int a0] (fun r u => K r u ∧ (r = 0 ∨ r = 1)) := by
  refine gj_enterZ (by decide) (Nat.le_of_ble_eq_true rfl) (fun p e s m args below meth c A X hr hlk hA hnm => ?_)
  change gj_J p l e rm_Le_isEmpty s m args below meth c 0 0 (MQ below (va_Qi (fun r u => K r u ∧ (r = 0 ∨ r = 1)) (gj_at (dC, dI) gs_C (gs_T cI cL) (wG h cI cL) A) A) args s 0 0 A) (dC, dI) gs_C A 2 0 [(0, .ref (h 6)), (1, .int a0)] [] ((wG h cI cL) σ)
  refine gj_iload_n X d_Le_isEmpty_0 rfl 1 rfl ?_
  refine gj_callSNI (As := [.int a0]) (st := []) X (c_Gl_isNonterminal l dC dI h cI cL σ a0 _ hC) ⟨gj_cwN X tw_249 tw_1 tn_311 hd_Gl_isNonterminal rfl rfl ⟨Nat.le_of_ble_eq_true rfl, Nat.le_of_ble_eq_true rfl⟩, X.2.2.2.2.1 _ tw_248, trivial⟩ hA rfl (Nat.le_of_ble_eq_true rfl) ⟨Nat.zero_le _, Nat.zero_le _⟩ d_Le_isEmpty_1 rfl (fun r2 σ1 hC => ?_)
  obtain ⟨hC, hb⟩ := hC
  refine gj_if_eq (tgt := 20) X d_Le_isEmpty_4 (by decide) (fun c0 => ?_) (fun c0 => ?_)
  · have hC := hC.1 c0
    refine gj_iconst (v := 0) X d_Le_isEmpty_20 (by decide) ?_
    exact gj_zret X hr hlk (by decide) ⟨hC, Or.inl rfl⟩ d_Le_isEmpty_21
  · have hC := hC.2 c0
    refine gj_aload_n X d_Le_isEmpty_7 rfl 0 rfl ?_
    refine gj_get X inX4 6 rfl rfl 1 (by decide) tw_54 rfl rfl d_Le_isEmpty_8 ?_
    refine gj_iload_n X d_Le_isEmpty_11 rfl 1 rfl ?_
    refine gj_iald X 7 0 rfl rfl hC.1 d_Le_isEmpty_12 ?_
    have hC := hC.2
    refine gj_if_ne (tgt := 20) X d_Le_isEmpty_13 (by decide) (fun c0 => ?_) (fun c0 => ?_)
    · have hC := hC.1 c0
      refine gj_iconst (v := 0) X d_Le_isEmpty_20 (by decide) ?_
      exact gj_zret X hr hlk (by decide) ⟨hC, Or.inl rfl⟩ d_Le_isEmpty_21
    · have hC := hC.2 c0
      refine gj_iconst (v := 1) X d_Le_isEmpty_16 (by decide) ?_
      refine gj_goto (tgt := 21) X d_Le_isEmpty_17 (by decide) ?_
      exact gj_zret X hr hlk (by decide) ⟨hC, Or.inr rfl⟩ d_Le_isEmpty_21
abbrev rm_Ld_isEmptyBut : Room := { frames := 2, cells := 0, slots := 0, locals := 41 }
set_option maxHeartbeats 4000000 in
set_option maxRecDepth 100000 in
theorem c_Ld_isEmptyBut (l : Launch) (dC : Nat → ClassId) (dI : Nat → Nat → Nat) (h : Nat → Nat) (cI cL : ClassId) (σ : gs_St) (a0 : Int32) (a1 : Int32) (K : Int32 → gs_St → Prop) (hC : C_Ld_isEmptyBut a0 a1 σ K) : gj_MI l y_Ld_isEmptyBut (gj_ws y_Ld_isEmptyBut b_Ld_isEmptyBut 4 (some .boolean)) rm_Ld_isEmptyBut (dC, dI) gs_C (gs_T cI cL) ((wG h cI cL) σ) (wG h cI cL) [.ref (h 9), .int a0, .int a1] (fun r u => K r u ∧ (r = 0 ∨ r = 1)) := by
  refine gj_enterZ (by decide) (Nat.le_of_ble_eq_true rfl) (fun p e s m args below meth c A X hr hlk hA hnm => ?_)
  change gj_J p l e rm_Ld_isEmptyBut s m args below meth c 0 0 (MQ below (va_Qi (fun r u => K r u ∧ (r = 0 ∨ r = 1)) (gj_at (dC, dI) gs_C (gs_T cI cL) (wG h cI cL) A) A) args s 0 0 A) (dC, dI) gs_C A 4 0 [(0, .ref (h 9)), (1, .int a0), (2, .int a1)] [] ((wG h cI cL) σ)
  have hC := hC
    (fun (v_1 : Int32) (v_2 : Int32) (v_3 : Int32) (σ : gs_St) => gj_J p l e rm_Ld_isEmptyBut s m args below meth c 0 0 (MQ below (va_Qi (fun r u => K r u ∧ (r = 0 ∨ r = 1)) (gj_at (dC, dI) gs_C (gs_T cI cL) (wG h cI cL) A) A) args s 0 0 A) (dC, dI) gs_C A 4 2 [(0, .ref (h 9)), (1, .int v_1), (2, .int v_2), (3, .int v_3)] [] ((wG h cI cL) σ))
    (by
      intro v_1 v_2 v_3 σ hC
      refine gj_iload_n X d_Ld_isEmptyBut_2 rfl 3 rfl ?_
      refine gj_aload_n X d_Ld_isEmptyBut_3 rfl 0 rfl ?_
      refine gj_get X inX3 9 rfl rfl 0 (by decide) tw_69 rfl rfl d_Ld_isEmptyBut_4 ?_
      refine gj_iload_n X d_Ld_isEmptyBut_7 rfl 1 rfl ?_
      refine gj_callVI (As := [.int v_1]) (st := [.int v_3]) X (c_Gr_sizeOf l dC dI h cI cL σ v_1 _ hC) ⟨gj_cwB X tw_280 tw_2 tw_324 hd_Gr_sizeOf rfl rfl ⟨Nat.le_of_ble_eq_true rfl, Nat.le_of_ble_eq_true rfl⟩, X.2.2.2.2.1 _ tw_278, X.2.2.2.2.1 _ tw_279⟩ 2 rfl rfl hA rfl (Nat.le_of_ble_eq_true rfl) ⟨Nat.zero_le _, Nat.zero_le _⟩ d_Ld_isEmptyBut_8 rfl (fun r2 σ1 hC => ?_)
      refine gj_icmp_ge (tgt := 46) X d_Ld_isEmptyBut_11 (by decide) (fun c0 => ?_) (fun c0 => ?_)
      · have hC := hC.1 c0
        refine gj_iconst (v := 1) X d_Ld_isEmptyBut_46 (by decide) ?_
        exact gj_zret X hr hlk (by decide) ⟨hC, Or.inr rfl⟩ d_Ld_isEmptyBut_47
      · have hC := hC.2 c0
        refine gj_iload_n X d_Ld_isEmptyBut_14 rfl 3 rfl ?_
        refine gj_iload_n X d_Ld_isEmptyBut_15 rfl 2 rfl ?_
        refine gj_icmp_eq (tgt := 40) X d_Ld_isEmptyBut_16 (by decide) (fun c0 => ?_) (fun c0 => ?_)
        · have hC := hC.1 c0
          obtain ⟨v3, ev3⟩ : ∃ y : Int32, y = v_3 + 1 := ⟨_, rfl⟩
          have hC := hC v3 ev3
          refine gj_iinc (v := v3) (L' := [(3, .int v3), (0, .ref (h 9)), (1, .int v_1), (2, .int v_2)]) X d_Ld_isEmptyBut_40 3 rfl (by rw [ev3]; rfl) (by decide) rfl ?_
          refine gj_goto (tgt := 2) X d_Ld_isEmptyBut_43 (by decide) ?_
          exact gj_loc [1, 2, 3, 0] rfl hC
        · have hC := hC.2 c0
          refine gj_aload_n X d_Ld_isEmptyBut_19 rfl 0 rfl ?_
          refine gj_get X inX3 9 rfl rfl 1 (by decide) tw_70 rfl rfl d_Ld_isEmptyBut_20 ?_
          refine gj_aload_n X d_Ld_isEmptyBut_23 rfl 0 rfl ?_
          refine gj_get X inX3 9 rfl rfl 0 (by decide) tw_69 rfl rfl d_Ld_isEmptyBut_24 ?_
          refine gj_iload_n X d_Ld_isEmptyBut_27 rfl 1 rfl ?_
          refine gj_iload_n X d_Ld_isEmptyBut_28 rfl 3 rfl ?_
          refine gj_callVI (As := [.int v_1, .int v_3]) (st := [.ref (h 6)]) X (c_Gr_symbolAt l dC dI h cI cL σ1 v_1 v_3 _ hC) ⟨gj_cwB X tw_288 tw_2 tw_325 hd_Gr_symbolAt rfl rfl ⟨Nat.le_of_ble_eq_true rfl, Nat.le_of_ble_eq_true rfl⟩, X.2.2.2.2.1 _ tw_286, X.2.2.2.2.1 _ tw_287⟩ 2 rfl rfl hA rfl (Nat.le_of_ble_eq_true rfl) ⟨Nat.zero_le _, Nat.zero_le _⟩ d_Ld_isEmptyBut_29 rfl (fun r5 σ4 hC => ?_)
          refine gj_callVI (As := [.int r5]) (st := []) X (c_Le_isEmpty l dC dI h cI cL σ4 r5 _ hC) ⟨gj_cwB X tw_334 tw_3 tw_331 hd_Le_isEmpty rfl rfl ⟨Nat.le_of_ble_eq_true rfl, Nat.le_of_ble_eq_true rfl⟩, X.2.2.2.2.1 _ tw_332, X.2.2.2.2.1 _ tw_333⟩ 6 rfl rfl hA rfl (Nat.le_of_ble_eq_true rfl) ⟨Nat.zero_le _, Nat.zero_le _⟩ d_Ld_isEmptyBut_32 rfl (fun r7 σ6 hC => ?_)
          obtain ⟨hC, hb⟩ := hC
          refine gj_if_ne (tgt := 40) X d_Ld_isEmptyBut_35 (by decide) (fun c0 => ?_) (fun c0 => ?_)
          · have hC := hC.1 c0
            obtain ⟨v8, ev8⟩ : ∃ y : Int32, y = v_3 + 1 := ⟨_, rfl⟩
            have hC := hC v8 ev8
            refine gj_iinc (v := v8) (L' := [(3, .int v8), (0, .ref (h 9)), (1, .int v_1), (2, .int v_2)]) X d_Ld_isEmptyBut_40 3 rfl (by rw [ev8]; rfl) (by decide) rfl ?_
            refine gj_goto (tgt := 2) X d_Ld_isEmptyBut_43 (by decide) ?_
            exact gj_loc [1, 2, 3, 0] rfl hC
          · have hC := hC.2 c0
            refine gj_iconst (v := 0) X d_Ld_isEmptyBut_38 (by decide) ?_
            exact gj_zret X hr hlk (by decide) ⟨hC, Or.inl rfl⟩ d_Ld_isEmptyBut_39)
  refine gj_iconst (v := 0) X d_Ld_isEmptyBut_0 (by decide) ?_
  refine gj_istore_n (L' := [(3, .int (0 : Int32)), (0, .ref (h 9)), (1, .int a0), (2, .int a1)]) X d_Ld_isEmptyBut_1 rfl (by decide) rfl ?_
  exact gj_loc [1, 2, 3, 0] rfl hC
end
section
abbrev rm_Ld_find : Room := { frames := 3, cells := 0, slots := 0, locals := 64 }
set_option maxHeartbeats 4000000 in
set_option maxRecDepth 100000 in
theorem c_Ld_find (l : Launch) (dC : Nat → ClassId) (dI : Nat → Nat → Nat) (h : Nat → Nat) (cI cL : ClassId) (σ : gs_St) (K : gs_St → Prop) (hC : C_Ld_find σ K) : gj_MV 0 0 l y_Ld_find (gj_ws y_Ld_find b_Ld_find 4 (none)) rm_Ld_find (dC, dI) gs_C (gs_T cI cL) ((wG h cI cL) σ) (wG h cI cL) [.ref (h 9)] K := by
  refine gj_enterV (by decide) (Nat.le_of_ble_eq_true rfl) (fun p e s m args below meth c A X hr hlk hA hnm => ?_)
  change gj_J p l e rm_Ld_find s m args below meth c 0 0 (MQ below (va_Qv K (gj_at (dC, dI) gs_C (gs_T cI cL) (wG h cI cL) A) A) args s 0 0 A) (dC, dI) gs_C A 4 0 [(0, .ref (h 9))] [] ((wG h cI cL) σ)
  have hC := hC
    (fun (v_1 : Int32) (σ : gs_St) => gj_J p l e rm_Ld_find s m args below meth c 0 0 (MQ below (va_Qv K (gj_at (dC, dI) gs_C (gs_T cI cL) (wG h cI cL) A) A) args s 0 0 A) (dC, dI) gs_C A 4 10 [(0, .ref (h 9)), (1, .int v_1)] [] ((wG h cI cL) σ))
    (fun (v_1 : Int32) (v_2 : Int32) (σ : gs_St) => gj_J p l e rm_Ld_find s m args below meth c 0 0 (MQ below (va_Qv K (gj_at (dC, dI) gs_C (gs_T cI cL) (wG h cI cL) A) A) args s 0 0 A) (dC, dI) gs_C A 4 23 [(0, .ref (h 9)), (1, .int v_1), (2, .int v_2)] [] ((wG h cI cL) σ))
    (by
      intro v_1 σ hC
      refine gj_iload_n X d_Ld_find_10 rfl 1 rfl ?_
      refine gj_aload_n X d_Ld_find_11 rfl 0 rfl ?_
      refine gj_get X inX3 9 rfl rfl 0 (by decide) tw_69 rfl rfl d_Ld_find_12 ?_
      refine gj_getN X inX2 2 rfl rfl 3 (by decide) tn_33 rfl rfl d_Ld_find_15 ?_
      refine gj_icmp_ge (tgt := 92) X d_Ld_find_18 (by decide) (fun c0 => ?_) (fun c0 => ?_)
      · have hC := hC.1 c0
        refine gj_aload_n X d_Ld_find_92 rfl 0 rfl ?_
        refine gj_callVV (As := []) (st := []) X (c_Ld_putInOrder l dC dI h cI cL σ _ hC) ⟨gj_cwB X tw_339 tw_4 tw_336 hd_Ld_putInOrder rfl rfl ⟨Nat.le_of_ble_eq_true rfl, Nat.le_of_ble_eq_true rfl⟩, X.2.2.2.2.1 _ tw_338, X.2.2.2.2.1 _ ts_4⟩ 9 rfl rfl hA rfl (Nat.le_of_ble_eq_true rfl) ⟨Nat.zero_le _, Nat.zero_le _⟩ d_Ld_find_93 rfl (fun σ2 hC => ?_)
        exact gj_vret X hr hlk hC d_Ld_find_96
      · have hC := hC.2 c0
        refine gj_iconst (v := 0) X d_Ld_find_21 (by decide) ?_
        refine gj_istore_n (L' := [(2, .int (0 : Int32)), (0, .ref (h 9)), (1, .int v_1)]) X d_Ld_find_22 rfl (by decide) rfl ?_
        exact gj_loc [1, 2, 0] rfl hC)
    (by
      intro v_1 v_2 σ hC
      refine gj_iload_n X d_Ld_find_23 rfl 2 rfl ?_
      refine gj_aload_n X d_Ld_find_24 rfl 0 rfl ?_
      refine gj_get X inX3 9 rfl rfl 0 (by decide) tw_69 rfl rfl d_Ld_find_25 ?_
      refine gj_iload_n X d_Ld_find_28 rfl 1 rfl ?_
      refine gj_callVI (As := [.int v_1]) (st := [.int v_2]) X (c_Gr_sizeOf l dC dI h cI cL σ v_1 _ hC) ⟨gj_cwB X tw_280 tw_2 tw_324 hd_Gr_sizeOf rfl rfl ⟨Nat.le_of_ble_eq_true rfl, Nat.le_of_ble_eq_true rfl⟩, X.2.2.2.2.1 _ tw_278, X.2.2.2.2.1 _ tw_279⟩ 2 rfl rfl hA rfl (Nat.le_of_ble_eq_true rfl) ⟨Nat.zero_le _, Nat.zero_le _⟩ d_Ld_find_29 rfl (fun r4 σ3 hC => ?_)
      refine gj_icmp_ge (tgt := 86) X d_Ld_find_32 (by decide) (fun c0 => ?_) (fun c0 => ?_)
      · have hC := hC.1 c0
        obtain ⟨v5, ev5⟩ : ∃ y : Int32, y = v_1 + 1 := ⟨_, rfl⟩
        have hC := hC v5 ev5
        refine gj_iinc (v := v5) (L' := [(1, .int v5), (0, .ref (h 9)), (2, .int v_2)]) X d_Ld_find_86 1 rfl (by rw [ev5]; rfl) (by decide) rfl ?_
        refine gj_goto (tgt := 10) X d_Ld_find_89 (by decide) ?_
        exact gj_loc [1, 0] rfl hC
      · have hC := hC.2 c0
        refine gj_aload_n X d_Ld_find_35 rfl 0 rfl ?_
        refine gj_get X inX3 9 rfl rfl 0 (by decide) tw_69 rfl rfl d_Ld_find_36 ?_
        refine gj_iload_n X d_Ld_find_39 rfl 1 rfl ?_
        refine gj_iload_n X d_Ld_find_40 rfl 2 rfl ?_
        refine gj_callVI (As := [.int v_1, .int v_2]) (st := []) X (c_Gr_symbolAt l dC dI h cI cL σ3 v_1 v_2 _ hC) ⟨gj_cwB X tw_288 tw_2 tw_325 hd_Gr_symbolAt rfl rfl ⟨Nat.le_of_ble_eq_true rfl, Nat.le_of_ble_eq_true rfl⟩, X.2.2.2.2.1 _ tw_286, X.2.2.2.2.1 _ tw_287⟩ 2 rfl rfl hA rfl (Nat.le_of_ble_eq_true rfl) ⟨Nat.zero_le _, Nat.zero_le _⟩ d_Ld_find_41 rfl (fun r7 σ6 hC => ?_)
        refine gj_istore_n (L' := [(3, .int r7), (0, .ref (h 9)), (1, .int v_1), (2, .int v_2)]) X d_Ld_find_44 rfl (by decide) rfl ?_
        refine gj_iload_n X d_Ld_find_45 rfl 0 rfl ?_
        refine gj_callSNI (As := [.int r7]) (st := []) X (c_Gl_isNonterminal l dC dI h cI cL σ6 r7 _ hC) ⟨gj_cwN X tw_249 tw_1 tn_326 hd_Gl_isNonterminal rfl rfl ⟨Nat.le_of_ble_eq_true rfl, Nat.le_of_ble_eq_true rfl⟩, X.2.2.2.2.1 _ tw_248, trivial⟩ hA rfl (Nat.le_of_ble_eq_true rfl) ⟨Nat.zero_le _, Nat.zero_le _⟩ d_Ld_find_46 rfl (fun r9 σ8 hC => ?_)
        obtain ⟨hC, hb⟩ := hC
        refine gj_if_eq (tgt := 80) X d_Ld_find_49 (by decide) (fun c0 => ?_) (fun c0 => ?_)
        · have hC := hC.1 c0
          obtain ⟨v10, ev10⟩ : ∃ y : Int32, y = v_2 + 1 := ⟨_, rfl⟩
          have hC := hC v10 ev10
          refine gj_iinc (v := v10) (L' := [(2, .int v10), (3, .int r7), (0, .ref (h 9)), (1, .int v_1)]) X d_Ld_find_80 3 rfl (by rw [ev10]; rfl) (by decide) rfl ?_
          refine gj_goto (tgt := 23) X d_Ld_find_83 (by decide) ?_
          exact gj_loc [2, 3, 0] rfl hC
        · have hC := hC.2 c0
          refine gj_aload_n X d_Ld_find_52 rfl 1 rfl ?_
          refine gj_iload_n X d_Ld_find_53 rfl 2 rfl ?_
          refine gj_iload_n X d_Ld_find_54 rfl 3 rfl ?_
          refine gj_callVI (As := [.int v_1, .int v_2]) (st := []) X (c_Ld_isEmptyBut l dC dI h cI cL σ8 v_1 v_2 _ hC) ⟨gj_cwB X tw_330 tw_4 tw_327 hd_Ld_isEmptyBut rfl rfl ⟨Nat.le_of_ble_eq_true rfl, Nat.le_of_ble_eq_true rfl⟩, X.2.2.2.2.1 _ tw_329, X.2.2.2.2.1 _ ts_3⟩ 9 rfl rfl hA rfl (Nat.le_of_ble_eq_true rfl) ⟨Nat.zero_le _, Nat.zero_le _⟩ d_Ld_find_55 rfl (fun r12 σ11 hC => ?_)
          obtain ⟨hC, hb⟩ := hC
          refine gj_if_eq (tgt := 80) X d_Ld_find_58 (by decide) (fun c0 => ?_) (fun c0 => ?_)
          · have hC := hC.1 c0
            obtain ⟨v13, ev13⟩ : ∃ y : Int32, y = v_2 + 1 := ⟨_, rfl⟩
            have hC := hC v13 ev13
            refine gj_iinc (v := v13) (L' := [(2, .int v13), (3, .int r7), (0, .ref (h 9)), (1, .int v_1)]) X d_Ld_find_80 3 rfl (by rw [ev13]; rfl) (by decide) rfl ?_
            refine gj_goto (tgt := 23) X d_Ld_find_83 (by decide) ?_
            exact gj_loc [2, 3, 0] rfl hC
          · have hC := hC.2 c0
            refine gj_aload_n X d_Ld_find_61 rfl 1 rfl ?_
            refine gj_get X inX3 9 rfl rfl 2 (by decide) tw_71 rfl rfl d_Ld_find_62 ?_
            refine gj_aload_n X d_Ld_find_65 rfl 1 rfl ?_
            refine gj_get X inX3 9 rfl rfl 0 (by decide) tw_69 rfl rfl d_Ld_find_66 ?_
            refine gj_iload_n X d_Ld_find_69 rfl 2 rfl ?_
            refine gj_callVI (As := [.int v_1]) (st := [.ref (h 10)]) X (c_Gr_leftOf l dC dI h cI cL σ11 v_1 _ hC) ⟨gj_cwB X tw_284 tw_2 tw_335 hd_Gr_leftOf rfl rfl ⟨Nat.le_of_ble_eq_true rfl, Nat.le_of_ble_eq_true rfl⟩, X.2.2.2.2.1 _ tw_282, X.2.2.2.2.1 _ tw_283⟩ 2 rfl rfl hA rfl (Nat.le_of_ble_eq_true rfl) ⟨Nat.zero_le _, Nat.zero_le _⟩ d_Ld_find_70 rfl (fun r15 σ14 hC => ?_)
            refine gj_dup2 X d_Ld_find_73 rfl rfl ?_
            refine gj_iald X 10 0 rfl rfl hC.1 d_Ld_find_74 ?_
            have hC := hC.2
            refine gj_iconst (v := 1) X d_Ld_find_75 (by decide) ?_
            refine gj_iload_n X d_Ld_find_76 rfl 0 rfl ?_
            refine gj_ishl X d_Ld_find_77 ?_
            refine gj_ior X d_Ld_find_78 ?_
            refine gj_iast (w' := (wG h cI cL) (gs_A σ14 6 (upd (σ14.2.1 6) r15.toNatClampNeg ((σ14.2.1 6 r15.toNatClampNeg) ||| ((1 : Int32) <<< (r7 &&& 31)))))) X 10 0 rfl rfl hC.1 (set_wG_A6 h cI cL σ14 _) d_Ld_find_79 ?_
            refine gj_topw (wof := (wG h cI cL)) (fun σ16 eσ16 => ?_)
            have hC := hC.2 σ16 eσ16
            obtain ⟨v17, ev17⟩ : ∃ y : Int32, y = v_2 + 1 := ⟨_, rfl⟩
            have hC := hC v17 ev17
            refine gj_iinc (v := v17) (L' := [(2, .int v17), (3, .int r7), (0, .ref (h 9)), (1, .int v_1)]) X d_Ld_find_80 3 rfl (by rw [ev17]; rfl) (by decide) rfl ?_
            refine gj_goto (tgt := 23) X d_Ld_find_83 (by decide) ?_
            exact gj_loc [2, 3, 0] rfl hC)
  refine gj_aload_n X d_Ld_find_0 rfl 0 rfl ?_
  refine gj_get X inX3 9 rfl rfl 2 (by decide) tw_71 rfl rfl d_Ld_find_1 ?_
  refine gj_iconst (v := 0) X d_Ld_find_4 (by decide) ?_
  refine gj_callSV (As := [.ref (h 10), .int (0 : Int32)]) (st := []) X (c_Ar_fill_10 l dC dI h cI cL σ (0 : Int32) _ hC) ⟨gj_cwB X tw_303 tw_12 tw_323 hd_Ar_fill rfl rfl ⟨Nat.le_of_ble_eq_true rfl, Nat.le_of_ble_eq_true rfl⟩, X.2.2.2.2.1 _ tw_302⟩ hA rfl (Nat.le_of_ble_eq_true rfl) ⟨Nat.zero_le _, Nat.zero_le _⟩ d_Ld_find_5 rfl (fun σ1 hC => ?_)
  refine gj_iconst (v := 0) X d_Ld_find_8 (by decide) ?_
  refine gj_istore_n (L' := [(1, .int (0 : Int32)), (0, .ref (h 9))]) X d_Ld_find_9 rfl (by decide) rfl ?_
  exact gj_loc [1, 0] rfl hC
abbrev rm_Co_forget : Room := { frames := 0, cells := 0, slots := 0, locals := 0 }
set_option maxHeartbeats 4000000 in
set_option maxRecDepth 100000 in
theorem c_Co_forget (l : Launch) (dC : Nat → ClassId) (dI : Nat → Nat → Nat) (h : Nat → Nat) (cI cL : ClassId) (σ : gs_St) (K : gs_St → Prop) (hC : C_Co_forget σ K) : gj_MV 0 0 l y_Co_forget (gj_ws y_Co_forget b_Co_forget 1 (none)) rm_Co_forget (dC, dI) gs_C (gs_T cI cL) ((wG h cI cL) σ) (wG h cI cL) [.ref (h 12)] K := by
  refine gj_enterV (by decide) (Nat.le_of_ble_eq_true rfl) (fun p e s m args below meth c A X hr hlk hA hnm => ?_)
  change gj_J p l e rm_Co_forget s m args below meth c 0 0 (MQ below (va_Qv K (gj_at (dC, dI) gs_C (gs_T cI cL) (wG h cI cL) A) A) args s 0 0 A) (dC, dI) gs_C A 1 0 [(0, .ref (h 12))] [] ((wG h cI cL) σ)
  refine gj_aload_n X d_Co_forget_0 rfl 0 rfl ?_
  refine gj_iconst (v := 0) X d_Co_forget_1 (by decide) ?_
  refine gj_put (w' := (wG h cI cL) (gs_I σ 5 (0 : Int32))) X inX0 tyX0 tyX0_ok nmX0 12 rfl rfl 5 (by decide) tw_96 rfl rfl (tyX0_ok 5 (by decide)) rfl rfl (Nat.le_of_ble_eq_true rfl) (set_wG_I5 h cI cL σ _) d_Co_forget_2 ?_
  refine gj_topw (wof := (wG h cI cL)) (fun σ1 eσ1 => ?_)
  have hC := hC σ1 eσ1
  exact gj_vret X hr hlk hC d_Co_forget_5
abbrev rm_Co_forgetw : Room := { frames := 0, cells := 0, slots := 0, locals := 0 }
set_option maxHeartbeats 4000000 in
set_option maxRecDepth 100000 in
theorem c_Co_forgetw (l : Launch) (dC : Nat → ClassId) (dI : Nat → Nat → Nat) (h : Nat → Nat) (cI cL : ClassId) (σ : gs_St) (K : gs_St → Prop) (hC : C_Co_forgetw σ K) : gj_MV 0 0 l y_Co_forget (gj_ws y_Co_forget b_Co_forget 1 (none)) rm_Co_forgetw (dC, dI) gs_C (gs_T cI cL) ((wG h cI cL) σ) (wG h cI cL) [.ref (h 15)] K := by
  refine gj_enterV (by decide) (Nat.le_of_ble_eq_true rfl) (fun p e s m args below meth c A X hr hlk hA hnm => ?_)
  change gj_J p l e rm_Co_forgetw s m args below meth c 0 0 (MQ below (va_Qv K (gj_at (dC, dI) gs_C (gs_T cI cL) (wG h cI cL) A) A) args s 0 0 A) (dC, dI) gs_C A 1 0 [(0, .ref (h 15))] [] ((wG h cI cL) σ)
  refine gj_aload_n X d_Co_forget_0 rfl 0 rfl ?_
  refine gj_iconst (v := 0) X d_Co_forget_1 (by decide) ?_
  refine gj_put (w' := (wG h cI cL) (gs_I σ 7 (0 : Int32))) X inX0 tyX0 tyX0_ok nmX0 15 rfl rfl 5 (by decide) tw_96 rfl rfl (tyX0_ok 5 (by decide)) rfl rfl (Nat.le_of_ble_eq_true rfl) (set_wG_I7 h cI cL σ _) d_Co_forget_2 ?_
  refine gj_topw (wof := (wG h cI cL)) (fun σ1 eσ1 => ?_)
  have hC := hC σ1 eσ1
  exact gj_vret X hr hlk hC d_Co_forget_5
abbrev rm_Gl_study : Room := { frames := 4, cells := 0, slots := 0, locals := 95 }
set_option maxHeartbeats 4000000 in
set_option maxRecDepth 100000 in
theorem c_Gl_study (l : Launch) (dC : Nat → ClassId) (dI : Nat → Nat → Nat) (h : Nat → Nat) (cI cL : ClassId) (σ : gs_St) (K : gs_St → Prop) (hC : C_Gl_study σ K) : gj_MV 0 0 l y_Gl_study (gj_ws y_Gl_study b_Gl_study 1 (none)) rm_Gl_study (dC, dI) gs_C (gs_T cI cL) ((wG h cI cL) σ) (wG h cI cL) [.ref (h 0)] K := by
  refine gj_enterV (by decide) (Nat.le_of_ble_eq_true rfl) (fun p e s m args below meth c A X hr hlk hA hnm => ?_)
  change gj_J p l e rm_Gl_study s m args below meth c 0 0 (MQ below (va_Qv K (gj_at (dC, dI) gs_C (gs_T cI cL) (wG h cI cL) A) A) args s 0 0 A) (dC, dI) gs_C A 1 0 [(0, .ref (h 0))] [] ((wG h cI cL) σ)
  refine gj_aload_n X d_Gl_study_0 rfl 0 rfl ?_
  refine gj_get X inX8 0 rfl rfl 9 (by decide) tw_217 rfl rfl d_Gl_study_1 ?_
  refine gj_if_eq (tgt := 8) X d_Gl_study_4 (by decide) (fun c0 => ?_) (fun c0 => ?_)
  · have hC := hC.1 c0
    refine gj_aload_n X d_Gl_study_8 rfl 0 rfl ?_
    refine gj_iconst (v := 1) X d_Gl_study_9 (by decide) ?_
    refine gj_put (w' := (wG h cI cL) (gs_I σ 1 (1 : Int32))) X inX8 tyX8 tyX8_ok nmX8 0 rfl rfl 9 (by decide) tw_217 rfl rfl (tyX8_ok 9 (by decide)) rfl rfl (Nat.le_of_ble_eq_true rfl) (set_wG_I1 h cI cL σ _) d_Gl_study_10 ?_
    refine gj_topw (wof := (wG h cI cL)) (fun σ1 eσ1 => ?_)
    have hC := hC σ1 eσ1
    refine gj_aload_n X d_Gl_study_13 rfl 0 rfl ?_
    refine gj_get X inX8 0 rfl rfl 3 (by decide) tw_211 rfl rfl d_Gl_study_14 ?_
    refine gj_callVV (As := []) (st := []) X (c_Le_find l dC dI h cI cL σ1 _ hC) ⟨gj_cwB X tw_300 tw_3 tw_297 hd_Le_find rfl rfl ⟨Nat.le_of_ble_eq_true rfl, Nat.le_of_ble_eq_true rfl⟩, X.2.2.2.2.1 _ tw_298, X.2.2.2.2.1 _ tw_299⟩ 6 rfl rfl hA rfl (Nat.le_of_ble_eq_true rfl) ⟨Nat.zero_le _, Nat.zero_le _⟩ d_Gl_study_17 rfl (fun σ2 hC => ?_)
    refine gj_aload_n X d_Gl_study_20 rfl 0 rfl ?_
    refine gj_get X inX8 0 rfl rfl 4 (by decide) tw_212 rfl rfl d_Gl_study_21 ?_
    refine gj_callVV (As := []) (st := []) X (c_Ld_find l dC dI h cI cL σ2 _ hC) ⟨gj_cwB X tw_322 tw_4 tw_319 hd_Ld_find rfl rfl ⟨Nat.le_of_ble_eq_true rfl, Nat.le_of_ble_eq_true rfl⟩, X.2.2.2.2.1 _ tw_320, X.2.2.2.2.1 _ tw_321⟩ 9 rfl rfl hA rfl (Nat.le_of_ble_eq_true rfl) ⟨Nat.zero_le _, Nat.zero_le _⟩ d_Gl_study_24 rfl (fun σ3 hC => ?_)
    refine gj_aload_n X d_Gl_study_27 rfl 0 rfl ?_
    refine gj_get X inX8 0 rfl rfl 5 (by decide) tw_213 rfl rfl d_Gl_study_28 ?_
    refine gj_callVV (As := []) (st := []) X (c_Co_forget l dC dI h cI cL σ3 _ hC) ⟨gj_cwB X tw_343 tw_5 tw_340 hd_Co_forget rfl rfl ⟨Nat.le_of_ble_eq_true rfl, Nat.le_of_ble_eq_true rfl⟩, X.2.2.2.2.1 _ tw_341, X.2.2.2.2.1 _ tw_342⟩ 12 rfl rfl hA rfl (Nat.le_of_ble_eq_true rfl) ⟨Nat.zero_le _, Nat.zero_le _⟩ d_Gl_study_31 rfl (fun σ4 hC => ?_)
    refine gj_aload_n X d_Gl_study_34 rfl 0 rfl ?_
    refine gj_get X inX8 0 rfl rfl 6 (by decide) tw_214 rfl rfl d_Gl_study_35 ?_
    refine gj_callVV (As := []) (st := []) X (c_Co_forgetw l dC dI h cI cL σ4 _ hC) ⟨gj_cwB X tw_343 tw_5 tw_340 hd_Co_forget rfl rfl ⟨Nat.le_of_ble_eq_true rfl, Nat.le_of_ble_eq_true rfl⟩, X.2.2.2.2.1 _ tw_341, X.2.2.2.2.1 _ tw_342⟩ 15 rfl rfl hA rfl (Nat.le_of_ble_eq_true rfl) ⟨Nat.zero_le _, Nat.zero_le _⟩ d_Gl_study_38 rfl (fun σ5 hC => ?_)
    exact gj_vret X hr hlk hC d_Gl_study_41
  · have hC := hC.2 c0
    exact gj_vret X hr hlk hC d_Gl_study_7
abbrev rm_Le_leastOf : Room := { frames := 0, cells := 0, slots := 0, locals := 0 }
set_option maxHeartbeats 4000000 in
set_option maxRecDepth 100000 in
theorem c_Le_leastOf (l : Launch) (dC : Nat → ClassId) (dI : Nat → Nat → Nat) (h : Nat → Nat) (cI cL : ClassId) (σ : gs_St) (a0 : Int32) (K : Int32 → gs_St → Prop) (hC : C_Le_leastOf a0 σ K) : gj_MI l y_Le_leastOf (gj_ws y_Le_leastOf b_Le_leastOf 2 (some .int)) rm_Le_leastOf (dC, dI) gs_C (gs_T cI cL) ((wG h cI cL) σ) (wG h cI cL) [.ref (h 6), .int a0] K := by
  refine gj_enterI (by decide) (Nat.le_of_ble_eq_true rfl) (fun p e s m args below meth c A X hr hlk hA hnm => ?_)
  change gj_J p l e rm_Le_leastOf s m args below meth c 0 0 (MQ below (va_Qi K (gj_at (dC, dI) gs_C (gs_T cI cL) (wG h cI cL) A) A) args s 0 0 A) (dC, dI) gs_C A 2 0 [(0, .ref (h 6)), (1, .int a0)] [] ((wG h cI cL) σ)
  refine gj_aload_n X d_Le_leastOf_0 rfl 0 rfl ?_
  refine gj_get X inX4 6 rfl rfl 1 (by decide) tw_54 rfl rfl d_Le_leastOf_1 ?_
  refine gj_iload_n X d_Le_leastOf_4 rfl 1 rfl ?_
  refine gj_iald X 7 0 rfl rfl hC.1 d_Le_leastOf_5 ?_
  have hC := hC.2
  exact gj_iret X hr hlk hC d_Le_leastOf_6
abbrev rm_Gl_shortest : Room := { frames := 5, cells := 0, slots := 0, locals := 115 }
set_option maxHeartbeats 4000000 in
set_option maxRecDepth 100000 in
theorem c_Gl_shortest (l : Launch) (dC : Nat → ClassId) (dI : Nat → Nat → Nat) (h : Nat → Nat) (cI cL : ClassId) (σ : gs_St) (a0 : Int32) (K : Int32 → gs_St → Prop) (hC : C_Gl_shortest a0 σ K) : gj_MI l y_Gl_shortest (gj_ws y_Gl_shortest b_Gl_shortest 2 (some .int)) rm_Gl_shortest (dC, dI) gs_C (gs_T cI cL) ((wG h cI cL) σ) (wG h cI cL) [.ref (h 0), .int a0] K := by
  refine gj_enterI (by decide) (Nat.le_of_ble_eq_true rfl) (fun p e s m args below meth c A X hr hlk hA hnm => ?_)
  change gj_J p l e rm_Gl_shortest s m args below meth c 0 0 (MQ below (va_Qi K (gj_at (dC, dI) gs_C (gs_T cI cL) (wG h cI cL) A) A) args s 0 0 A) (dC, dI) gs_C A 2 0 [(0, .ref (h 0)), (1, .int a0)] [] ((wG h cI cL) σ)
  refine gj_iload_n X d_Gl_shortest_0 rfl 1 rfl ?_
  refine gj_callSI (As := [.int a0]) (st := []) X (c_Gl_isNonterminal l dC dI h cI cL σ a0 _ hC) ⟨gj_cwB X tw_249 tw_1 tw_247 hd_Gl_isNonterminal rfl rfl ⟨Nat.le_of_ble_eq_true rfl, Nat.le_of_ble_eq_true rfl⟩, X.2.2.2.2.1 _ tw_248⟩ hA rfl (Nat.le_of_ble_eq_true rfl) ⟨Nat.zero_le _, Nat.zero_le _⟩ d_Gl_shortest_1 rfl (fun r2 σ1 hC => ?_)
  obtain ⟨hC, hb⟩ := hC
  refine gj_if_ne (tgt := 9) X d_Gl_shortest_4 (by decide) (fun c0 => ?_) (fun c0 => ?_)
  · have hC := hC.1 c0
    refine gj_aload_n X d_Gl_shortest_9 rfl 0 rfl ?_
    refine gj_callVV (As := []) (st := []) X (c_Gl_study l dC dI h cI cL σ1 _ hC) ⟨gj_cwB X tw_296 tw_1 tw_293 hd_Gl_study rfl rfl ⟨Nat.le_of_ble_eq_true rfl, Nat.le_of_ble_eq_true rfl⟩, X.2.2.2.2.1 _ tw_295, X.2.2.2.2.1 _ ts_0⟩ 0 rfl rfl hA rfl (Nat.le_of_ble_eq_true rfl) ⟨Nat.zero_le _, Nat.zero_le _⟩ d_Gl_shortest_10 rfl (fun σ3 hC => ?_)
    refine gj_aload_n X d_Gl_shortest_13 rfl 0 rfl ?_
    refine gj_get X inX8 0 rfl rfl 3 (by decide) tw_211 rfl rfl d_Gl_shortest_14 ?_
    refine gj_iload_n X d_Gl_shortest_17 rfl 1 rfl ?_
    refine gj_callVI (As := [.int a0]) (st := []) X (c_Le_leastOf l dC dI h cI cL σ3 a0 _ hC) ⟨gj_cwB X tw_347 tw_3 tw_344 hd_Le_leastOf rfl rfl ⟨Nat.le_of_ble_eq_true rfl, Nat.le_of_ble_eq_true rfl⟩, X.2.2.2.2.1 _ tw_345, X.2.2.2.2.1 _ tw_346⟩ 6 rfl rfl hA rfl (Nat.le_of_ble_eq_true rfl) ⟨Nat.zero_le _, Nat.zero_le _⟩ d_Gl_shortest_18 rfl (fun r5 σ4 hC => ?_)
    exact gj_iret X hr hlk hC d_Gl_shortest_21
  · have hC := hC.2 c0
    refine gj_iconst (v := -1) X d_Gl_shortest_7 (by decide) ?_
    exact gj_iret X hr hlk hC d_Gl_shortest_8
abbrev rm_Le_leastWith : Room := { frames := 2, cells := 0, slots := 0, locals := 48 }
set_option maxHeartbeats 4000000 in
set_option maxRecDepth 100000 in
theorem c_Le_leastWith (l : Launch) (dC : Nat → ClassId) (dI : Nat → Nat → Nat) (h : Nat → Nat) (cI cL : ClassId) (σ : gs_St) (a0 : Int32) (K : Int32 → gs_St → Prop) (hC : C_Le_leastWith a0 σ K) : gj_MI l y_Le_leastWith (gj_ws y_Le_leastWith b_Le_leastWith 4 (some .int)) rm_Le_leastWith (dC, dI) gs_C (gs_T cI cL) ((wG h cI cL) σ) (wG h cI cL) [.ref (h 6), .int a0] K := by
  refine gj_enterI (by decide) (Nat.le_of_ble_eq_true rfl) (fun p e s m args below meth c A X hr hlk hA hnm => ?_)
  change gj_J p l e rm_Le_leastWith s m args below meth c 0 0 (MQ below (va_Qi K (gj_at (dC, dI) gs_C (gs_T cI cL) (wG h cI cL) A) A) args s 0 0 A) (dC, dI) gs_C A 4 0 [(0, .ref (h 6)), (1, .int a0)] [] ((wG h cI cL) σ)
  refine gj_aload_n X d_Le_leastWith_0 rfl 0 rfl ?_
  refine gj_iload_n X d_Le_leastWith_1 rfl 1 rfl ?_
  refine gj_iconst (v := -1) X d_Le_leastWith_2 (by decide) ?_
  refine gj_callVI (As := [.int a0, .int (-1 : Int32)]) (st := []) X (c_Le_leastBut l dC dI h cI cL σ a0 (-1 : Int32) _ hC) ⟨gj_cwB X tw_308 tw_3 tw_305 hd_Le_leastBut rfl rfl ⟨Nat.le_of_ble_eq_true rfl, Nat.le_of_ble_eq_true rfl⟩, X.2.2.2.2.1 _ tw_307, X.2.2.2.2.1 _ ts_1⟩ 6 rfl rfl hA rfl (Nat.le_of_ble_eq_true rfl) ⟨Nat.zero_le _, Nat.zero_le _⟩ d_Le_leastWith_3 rfl (fun r2 σ1 hC => ?_)
  refine gj_istore_n (L' := [(2, .int r2), (0, .ref (h 6)), (1, .int a0)]) X d_Le_leastWith_6 rfl (by decide) rfl ?_
  refine gj_aload_n X d_Le_leastWith_7 rfl 1 rfl ?_
  refine gj_get X inX4 6 rfl rfl 2 (by decide) tw_55 rfl rfl d_Le_leastWith_8 ?_
  refine gj_aload_n X d_Le_leastWith_11 rfl 1 rfl ?_
  refine gj_get X inX4 6 rfl rfl 0 (by decide) tw_53 rfl rfl d_Le_leastWith_12 ?_
  refine gj_iload_n X d_Le_leastWith_15 rfl 2 rfl ?_
  refine gj_callVI (As := [.int a0]) (st := [.ref (h 8)]) X (c_Gr_leftOf l dC dI h cI cL σ1 a0 _ hC) ⟨gj_cwB X tw_284 tw_2 tw_304 hd_Gr_leftOf rfl rfl ⟨Nat.le_of_ble_eq_true rfl, Nat.le_of_ble_eq_true rfl⟩, X.2.2.2.2.1 _ tw_282, X.2.2.2.2.1 _ tw_283⟩ 2 rfl rfl hA rfl (Nat.le_of_ble_eq_true rfl) ⟨Nat.zero_le _, Nat.zero_le _⟩ d_Le_leastWith_16 rfl (fun r4 σ3 hC => ?_)
  refine gj_iald X 8 0 rfl rfl hC.1 d_Le_leastWith_19 ?_
  have hC := hC.2
  refine gj_topi (fun v5 ev5 => ?_)
  have hC := hC v5 ev5
  refine gj_istore_n (L' := [(3, .int v5), (2, .int r2), (0, .ref (h 6)), (1, .int a0)]) X d_Le_leastWith_20 rfl (by decide) rfl ?_
  refine gj_iload_n X d_Le_leastWith_21 rfl 1 rfl ?_
  refine gj_iconst (v := -1) X d_Le_leastWith_22 (by decide) ?_
  refine gj_icmp_eq (tgt := 31) X d_Le_leastWith_23 (by decide) (fun c0 => ?_) (fun c0 => ?_)
  · have hC := hC.1 c0
    refine gj_iconst (v := -1) X d_Le_leastWith_31 (by decide) ?_
    refine gj_goto (tgt := 38) X d_Le_leastWith_32 (by decide) ?_
    exact gj_iret X hr hlk hC d_Le_leastWith_38
  · have hC := hC.2 c0
    refine gj_iload_n X d_Le_leastWith_26 rfl 0 rfl ?_
    refine gj_iconst (v := -1) X d_Le_leastWith_27 (by decide) ?_
    refine gj_icmp_ne (tgt := 35) X d_Le_leastWith_28 (by decide) (fun c0 => ?_) (fun c0 => ?_)
    · have hC := hC.1 c0
      refine gj_iload_n X d_Le_leastWith_35 rfl 1 rfl ?_
      refine gj_iload_n X d_Le_leastWith_36 rfl 0 rfl ?_
      refine gj_iadd X d_Le_leastWith_37 ?_
      exact gj_iret X hr hlk hC d_Le_leastWith_38
    · have hC := hC.2 c0
      refine gj_iconst (v := -1) X d_Le_leastWith_31 (by decide) ?_
      refine gj_goto (tgt := 38) X d_Le_leastWith_32 (by decide) ?_
      exact gj_iret X hr hlk hC d_Le_leastWith_38
abbrev rm_Gl_shortestWith : Room := { frames := 5, cells := 0, slots := 0, locals := 115 }
set_option maxHeartbeats 4000000 in
set_option maxRecDepth 100000 in
theorem c_Gl_shortestWith (l : Launch) (dC : Nat → ClassId) (dI : Nat → Nat → Nat) (h : Nat → Nat) (cI cL : ClassId) (σ : gs_St) (a0 : Int32) (K : Int32 → gs_St → Prop) (hC : C_Gl_shortestWith a0 σ K) : gj_MI l y_Gl_shortestWith (gj_ws y_Gl_shortestWith b_Gl_shortestWith 2 (some .int)) rm_Gl_shortestWith (dC, dI) gs_C (gs_T cI cL) ((wG h cI cL) σ) (wG h cI cL) [.ref (h 0), .int a0] K := by
  refine gj_enterI (by decide) (Nat.le_of_ble_eq_true rfl) (fun p e s m args below meth c A X hr hlk hA hnm => ?_)
  change gj_J p l e rm_Gl_shortestWith s m args below meth c 0 0 (MQ below (va_Qi K (gj_at (dC, dI) gs_C (gs_T cI cL) (wG h cI cL) A) A) args s 0 0 A) (dC, dI) gs_C A 2 0 [(0, .ref (h 0)), (1, .int a0)] [] ((wG h cI cL) σ)
  refine gj_aload_n X d_Gl_shortestWith_0 rfl 0 rfl ?_
  refine gj_get X inX8 0 rfl rfl 2 (by decide) tw_210 rfl rfl d_Gl_shortestWith_1 ?_
  refine gj_iload_n X d_Gl_shortestWith_4 rfl 1 rfl ?_
  refine gj_callVI (As := [.int a0]) (st := []) X (c_Gr_has l dC dI h cI cL σ a0 _ hC) ⟨gj_cwB X tw_264 tw_2 tw_261 hd_Gr_has rfl rfl ⟨Nat.le_of_ble_eq_true rfl, Nat.le_of_ble_eq_true rfl⟩, X.2.2.2.2.1 _ tw_262, X.2.2.2.2.1 _ tw_263⟩ 2 rfl rfl hA rfl (Nat.le_of_ble_eq_true rfl) ⟨Nat.zero_le _, Nat.zero_le _⟩ d_Gl_shortestWith_5 rfl (fun r2 σ1 hC => ?_)
  obtain ⟨hC, hb⟩ := hC
  refine gj_if_ne (tgt := 13) X d_Gl_shortestWith_8 (by decide) (fun c0 => ?_) (fun c0 => ?_)
  · have hC := hC.1 c0
    refine gj_aload_n X d_Gl_shortestWith_13 rfl 0 rfl ?_
    refine gj_callVV (As := []) (st := []) X (c_Gl_study l dC dI h cI cL σ1 _ hC) ⟨gj_cwB X tw_296 tw_1 tw_293 hd_Gl_study rfl rfl ⟨Nat.le_of_ble_eq_true rfl, Nat.le_of_ble_eq_true rfl⟩, X.2.2.2.2.1 _ tw_295, X.2.2.2.2.1 _ ts_0⟩ 0 rfl rfl hA rfl (Nat.le_of_ble_eq_true rfl) ⟨Nat.zero_le _, Nat.zero_le _⟩ d_Gl_shortestWith_14 rfl (fun σ3 hC => ?_)
    refine gj_aload_n X d_Gl_shortestWith_17 rfl 0 rfl ?_
    refine gj_get X inX8 0 rfl rfl 3 (by decide) tw_211 rfl rfl d_Gl_shortestWith_18 ?_
    refine gj_iload_n X d_Gl_shortestWith_21 rfl 1 rfl ?_
    refine gj_callVI (As := [.int a0]) (st := []) X (c_Le_leastWith l dC dI h cI cL σ3 a0 _ hC) ⟨gj_cwB X tw_355 tw_3 tw_352 hd_Le_leastWith rfl rfl ⟨Nat.le_of_ble_eq_true rfl, Nat.le_of_ble_eq_true rfl⟩, X.2.2.2.2.1 _ tw_353, X.2.2.2.2.1 _ tw_354⟩ 6 rfl rfl hA rfl (Nat.le_of_ble_eq_true rfl) ⟨Nat.zero_le _, Nat.zero_le _⟩ d_Gl_shortestWith_22 rfl (fun r5 σ4 hC => ?_)
    exact gj_iret X hr hlk hC d_Gl_shortestWith_25
  · have hC := hC.2 c0
    refine gj_iconst (v := -1) X d_Gl_shortestWith_11 (by decide) ?_
    exact gj_iret X hr hlk hC d_Gl_shortestWith_12
abbrev rm_Ld_isCircle : Room := { frames := 0, cells := 0, slots := 0, locals := 0 }
set_option maxHeartbeats 4000000 in
set_option maxRecDepth 100000 in
theorem c_Ld_isCircle (l : Launch) (dC : Nat → ClassId) (dI : Nat → Nat → Nat) (h : Nat → Nat) (cI cL : ClassId) (σ : gs_St) (K : Int32 → gs_St → Prop) (hC : C_Ld_isCircle σ K) : gj_MI l y_Ld_isCircle (gj_ws y_Ld_isCircle b_Ld_isCircle 1 (some .boolean)) rm_Ld_isCircle (dC, dI) gs_C (gs_T cI cL) ((wG h cI cL) σ) (wG h cI cL) [.ref (h 9)] (fun r u => K r u ∧ (r = 0 ∨ r = 1)) := by
  refine gj_enterZ (by decide) (Nat.le_of_ble_eq_true rfl) (fun p e s m args below meth c A X hr hlk hA hnm => ?_)
  change gj_J p l e rm_Ld_isCircle s m args below meth c 0 0 (MQ below (va_Qi (fun r u => K r u ∧ (r = 0 ∨ r = 1)) (gj_at (dC, dI) gs_C (gs_T cI cL) (wG h cI cL) A) A) args s 0 0 A) (dC, dI) gs_C A 1 0 [(0, .ref (h 9))] [] ((wG h cI cL) σ)
  refine gj_aload_n X d_Ld_isCircle_0 rfl 0 rfl ?_
  refine gj_get X inX3 9 rfl rfl 4 (by decide) tw_73 rfl rfl d_Ld_isCircle_1 ?_
  refine gj_bipush (v := 8) X d_Ld_isCircle_4 (by decide) ?_
  refine gj_icmp_ge (tgt := 13) X d_Ld_isCircle_6 (by decide) (fun c0 => ?_) (fun c0 => ?_)
  · have hC := hC.1 c0
    refine gj_iconst (v := 0) X d_Ld_isCircle_13 (by decide) ?_
    exact gj_zret X hr hlk (by decide) ⟨hC, Or.inl rfl⟩ d_Ld_isCircle_14
  · have hC := hC.2 c0
    refine gj_iconst (v := 1) X d_Ld_isCircle_9 (by decide) ?_
    refine gj_goto (tgt := 14) X d_Ld_isCircle_10 (by decide) ?_
    exact gj_zret X hr hlk (by decide) ⟨hC, Or.inr rfl⟩ d_Ld_isCircle_14
abbrev rm_Gl_circle : Room := { frames := 5, cells := 0, slots := 0, locals := 115 }
set_option maxHeartbeats 4000000 in
set_option maxRecDepth 100000 in
theorem c_Gl_circle (l : Launch) (dC : Nat → ClassId) (dI : Nat → Nat → Nat) (h : Nat → Nat) (cI cL : ClassId) (σ : gs_St) (K : Int32 → gs_St → Prop) (hC : C_Gl_circle σ K) : gj_MI l y_Gl_circle (gj_ws y_Gl_circle b_Gl_circle 1 (some .boolean)) rm_Gl_circle (dC, dI) gs_C (gs_T cI cL) ((wG h cI cL) σ) (wG h cI cL) [.ref (h 0)] (fun r u => K r u ∧ (r = 0 ∨ r = 1)) := by
  refine gj_enterZ (by decide) (Nat.le_of_ble_eq_true rfl) (fun p e s m args below meth c A X hr hlk hA hnm => ?_)
  change gj_J p l e rm_Gl_circle s m args below meth c 0 0 (MQ below (va_Qi (fun r u => K r u ∧ (r = 0 ∨ r = 1)) (gj_at (dC, dI) gs_C (gs_T cI cL) (wG h cI cL) A) A) args s 0 0 A) (dC, dI) gs_C A 1 0 [(0, .ref (h 0))] [] ((wG h cI cL) σ)
  refine gj_aload_n X d_Gl_circle_0 rfl 0 rfl ?_
  refine gj_callVV (As := []) (st := []) X (c_Gl_study l dC dI h cI cL σ _ hC) ⟨gj_cwB X tw_296 tw_1 tw_293 hd_Gl_study rfl rfl ⟨Nat.le_of_ble_eq_true rfl, Nat.le_of_ble_eq_true rfl⟩, X.2.2.2.2.1 _ tw_295, X.2.2.2.2.1 _ ts_0⟩ 0 rfl rfl hA rfl (Nat.le_of_ble_eq_true rfl) ⟨Nat.zero_le _, Nat.zero_le _⟩ d_Gl_circle_1 rfl (fun σ1 hC => ?_)
  refine gj_aload_n X d_Gl_circle_4 rfl 0 rfl ?_
  refine gj_get X inX8 0 rfl rfl 4 (by decide) tw_212 rfl rfl d_Gl_circle_5 ?_
  refine gj_callVI (As := []) (st := []) X (c_Ld_isCircle l dC dI h cI cL σ1 _ hC) ⟨gj_cwB X tw_363 tw_4 tw_360 hd_Ld_isCircle rfl rfl ⟨Nat.le_of_ble_eq_true rfl, Nat.le_of_ble_eq_true rfl⟩, X.2.2.2.2.1 _ tw_361, X.2.2.2.2.1 _ tw_362⟩ 9 rfl rfl hA rfl (Nat.le_of_ble_eq_true rfl) ⟨Nat.zero_le _, Nat.zero_le _⟩ d_Gl_circle_8 rfl (fun r3 σ2 hC => ?_)
  obtain ⟨hC, hb⟩ := hC
  exact gj_zret X hr hlk (gj_nz hb) ⟨hC, hb⟩ d_Gl_circle_11
abbrev rm_Gl_isCounted : Room := { frames := 5, cells := 0, slots := 0, locals := 115 }
set_option maxHeartbeats 4000000 in
set_option maxRecDepth 100000 in
theorem c_Gl_isCounted (l : Launch) (dC : Nat → ClassId) (dI : Nat → Nat → Nat) (h : Nat → Nat) (cI cL : ClassId) (σ : gs_St) (a0 : Int32) (K : Int32 → gs_St → Prop) (hC : C_Gl_isCounted a0 σ K) : gj_MI l y_Gl_isCounted (gj_ws y_Gl_isCounted b_Gl_isCounted 2 (some .boolean)) rm_Gl_isCounted (dC, dI) gs_C (gs_T cI cL) ((wG h cI cL) σ) (wG h cI cL) [.ref (h 0), .int a0] (fun r u => K r u ∧ (r = 0 ∨ r = 1)) := by
  refine gj_enterZ (by decide) (Nat.le_of_ble_eq_true rfl) (fun p e s m args below meth c A X hr hlk hA hnm => ?_)
  change gj_J p l e rm_Gl_isCounted s m args below meth c 0 0 (MQ below (va_Qi (fun r u => K r u ∧ (r = 0 ∨ r = 1)) (gj_at (dC, dI) gs_C (gs_T cI cL) (wG h cI cL) A) A) args s 0 0 A) (dC, dI) gs_C A 2 0 [(0, .ref (h 0)), (1, .int a0)] [] ((wG h cI cL) σ)
  refine gj_aload_n X d_Gl_isCounted_0 rfl 0 rfl ?_
  refine gj_callVV (As := []) (st := []) X (c_Gl_study l dC dI h cI cL σ _ hC) ⟨gj_cwB X tw_296 tw_1 tw_293 hd_Gl_study rfl rfl ⟨Nat.le_of_ble_eq_true rfl, Nat.le_of_ble_eq_true rfl⟩, X.2.2.2.2.1 _ tw_295, X.2.2.2.2.1 _ ts_0⟩ 0 rfl rfl hA rfl (Nat.le_of_ble_eq_true rfl) ⟨Nat.zero_le _, Nat.zero_le _⟩ d_Gl_isCounted_1 rfl (fun σ1 hC => ?_)
  refine gj_iload_n X d_Gl_isCounted_4 rfl 1 rfl ?_
  refine gj_if_lt (tgt := 28) X d_Gl_isCounted_5 (by decide) (fun c0 => ?_) (fun c0 => ?_)
  · have hC := hC.1 c0
    refine gj_iconst (v := 0) X d_Gl_isCounted_28 (by decide) ?_
    exact gj_zret X hr hlk (by decide) ⟨hC, Or.inl rfl⟩ d_Gl_isCounted_29
  · have hC := hC.2 c0
    refine gj_iload_n X d_Gl_isCounted_8 rfl 1 rfl ?_
    refine gj_bipush (v := 16) X d_Gl_isCounted_9 (by decide) ?_
    refine gj_icmp_gt (tgt := 28) X d_Gl_isCounted_11 (by decide) (fun c0 => ?_) (fun c0 => ?_)
    · have hC := hC.1 c0
      refine gj_iconst (v := 0) X d_Gl_isCounted_28 (by decide) ?_
      exact gj_zret X hr hlk (by decide) ⟨hC, Or.inl rfl⟩ d_Gl_isCounted_29
    · have hC := hC.2 c0
      refine gj_aload_n X d_Gl_isCounted_14 rfl 0 rfl ?_
      refine gj_get X inX8 0 rfl rfl 4 (by decide) tw_212 rfl rfl d_Gl_isCounted_15 ?_
      refine gj_callVI (As := []) (st := []) X (c_Ld_isCircle l dC dI h cI cL σ1 _ hC) ⟨gj_cwB X tw_363 tw_4 tw_360 hd_Ld_isCircle rfl rfl ⟨Nat.le_of_ble_eq_true rfl, Nat.le_of_ble_eq_true rfl⟩, X.2.2.2.2.1 _ tw_361, X.2.2.2.2.1 _ tw_362⟩ 9 rfl rfl hA rfl (Nat.le_of_ble_eq_true rfl) ⟨Nat.zero_le _, Nat.zero_le _⟩ d_Gl_isCounted_18 rfl (fun r3 σ2 hC => ?_)
      obtain ⟨hC, hb⟩ := hC
      refine gj_if_ne (tgt := 28) X d_Gl_isCounted_21 (by decide) (fun c0 => ?_) (fun c0 => ?_)
      · have hC := hC.1 c0
        refine gj_iconst (v := 0) X d_Gl_isCounted_28 (by decide) ?_
        exact gj_zret X hr hlk (by decide) ⟨hC, Or.inl rfl⟩ d_Gl_isCounted_29
      · have hC := hC.2 c0
        refine gj_iconst (v := 1) X d_Gl_isCounted_24 (by decide) ?_
        refine gj_goto (tgt := 29) X d_Gl_isCounted_25 (by decide) ?_
        exact gj_zret X hr hlk (by decide) ⟨hC, Or.inr rfl⟩ d_Gl_isCounted_29
abbrev rm_Ld_inOrder : Room := { frames := 0, cells := 0, slots := 0, locals := 0 }
set_option maxHeartbeats 4000000 in
set_option maxRecDepth 100000 in
theorem c_Ld_inOrder (l : Launch) (dC : Nat → ClassId) (dI : Nat → Nat → Nat) (h : Nat → Nat) (cI cL : ClassId) (σ : gs_St) (a0 : Int32) (K : Int32 → gs_St → Prop) (hC : C_Ld_inOrder a0 σ K) : gj_MI l y_Ld_inOrder (gj_ws y_Ld_inOrder b_Ld_inOrder 2 (some .int)) rm_Ld_inOrder (dC, dI) gs_C (gs_T cI cL) ((wG h cI cL) σ) (wG h cI cL) [.ref (h 9), .int a0] K := by
  refine gj_enterI (by decide) (Nat.le_of_ble_eq_true rfl) (fun p e s m args below meth c A X hr hlk hA hnm => ?_)
  change gj_J p l e rm_Ld_inOrder s m args below meth c 0 0 (MQ below (va_Qi K (gj_at (dC, dI) gs_C (gs_T cI cL) (wG h cI cL) A) A) args s 0 0 A) (dC, dI) gs_C A 2 0 [(0, .ref (h 9)), (1, .int a0)] [] ((wG h cI cL) σ)
  refine gj_aload_n X d_Ld_inOrder_0 rfl 0 rfl ?_
  refine gj_get X inX3 9 rfl rfl 3 (by decide) tw_72 rfl rfl d_Ld_inOrder_1 ?_
  refine gj_iload_n X d_Ld_inOrder_4 rfl 1 rfl ?_
  refine gj_iald X 11 0 rfl rfl hC.1 d_Ld_inOrder_5 ?_
  have hC := hC.2
  exact gj_iret X hr hlk hC d_Ld_inOrder_6
abbrev rm_Co_endingsAt : Room := { frames := 0, cells := 0, slots := 0, locals := 0 }
set_option maxHeartbeats 4000000 in
set_option maxRecDepth 100000 in
theorem c_Co_endingsAt (l : Launch) (dC : Nat → ClassId) (dI : Nat → Nat → Nat) (h : Nat → Nat) (cI cL : ClassId) (σ : gs_St) (a0 : Int32) (a1 : Int32) (K : Int32 → gs_St → Prop) (hC : C_Co_endingsAt a0 a1 σ K) : gj_MI l y_Co_endingsAt (gj_ws y_Co_endingsAt b_Co_endingsAt 2 (some .int)) rm_Co_endingsAt (dC, dI) gs_C (gs_T cI cL) ((wG h cI cL) σ) (wG h cI cL) [.int a0, .int a1] K := by
  refine gj_enterI (by decide) (Nat.le_of_ble_eq_true rfl) (fun p e s m args below meth c A X hr hlk hA hnm => ?_)
  change gj_J p l e rm_Co_endingsAt s m args below meth c 0 0 (MQ below (va_Qi K (gj_at (dC, dI) gs_C (gs_T cI cL) (wG h cI cL) A) A) args s 0 0 A) (dC, dI) gs_C A 2 0 [(0, .int a0), (1, .int a1)] [] ((wG h cI cL) σ)
  refine gj_iload_n X d_Co_endingsAt_0 rfl 0 rfl ?_
  refine gj_bipush (v := 7) X d_Co_endingsAt_1 (by decide) ?_
  refine gj_imul X d_Co_endingsAt_3 ?_
  refine gj_iload_n X d_Co_endingsAt_4 rfl 1 rfl ?_
  refine gj_iadd X d_Co_endingsAt_5 ?_
  refine gj_bipush (v := 17) X d_Co_endingsAt_6 (by decide) ?_
  refine gj_imul X d_Co_endingsAt_8 ?_
  exact gj_iret X hr hlk hC d_Co_endingsAt_9
abbrev rm_Co_times : Room := { frames := 0, cells := 0, slots := 0, locals := 0 }
set_option maxHeartbeats 4000000 in
set_option maxRecDepth 100000 in
theorem c_Co_times (l : Launch) (dC : Nat → ClassId) (dI : Nat → Nat → Nat) (h : Nat → Nat) (cI cL : ClassId) (σ : gs_St) (a0 : Int64) (a1 : Int64) (K : Int64 → gs_St → Prop) (hC : C_Co_times a0 a1 σ K) : gj_ML l y_Co_times (gj_ws y_Co_times b_Co_times 4 (some .long)) rm_Co_times (dC, dI) gs_C (gs_T cI cL) ((wG h cI cL) σ) (wG h cI cL) [.long a0, .long a1] K := by
  refine gj_enterL (by decide) (Nat.le_of_ble_eq_true rfl) (fun p e s m args below meth c A X hr hlk hA hnm => ?_)
  change gj_J p l e rm_Co_times s m args below meth c 0 0 (MQ below (va_Ql K (gj_at (dC, dI) gs_C (gs_T cI cL) (wG h cI cL) A) A) args s 0 0 A) (dC, dI) gs_C A 4 0 [(0, .long a0), (2, .long a1)] [] ((wG h cI cL) σ)
  refine gj_lload_n X d_Co_times_0 rfl 1 rfl ?_
  refine gj_lconst (v := 0) X d_Co_times_1 (by decide) ?_
  refine gj_lcmp_ne (tgt := 8) X d_Co_times_2 d_Co_times_3 (by decide) (fun c0 => ?_) (fun c0 => ?_)
  · have hC := hC.1 c0
    refine gj_lload_n X d_Co_times_8 rfl 0 rfl ?_
    refine gj_ldc2 (v := 1000000000000000000) X tw_403 d_Co_times_9 ?_
    refine gj_lload_n X d_Co_times_12 rfl 1 rfl ?_
    refine gj_ldiv X d_Co_times_13 hC.1 ?_
    have hC := hC.2
    refine gj_lcmp_le (tgt := 24) X d_Co_times_14 d_Co_times_15 (by decide) (fun c0 => ?_) (fun c0 => ?_)
    · have hC := hC.1 c0
      refine gj_lload_n X d_Co_times_24 rfl 0 rfl ?_
      refine gj_lload_n X d_Co_times_25 rfl 1 rfl ?_
      refine gj_lmul X d_Co_times_26 ?_
      exact gj_lret X hr hlk hC d_Co_times_27
    · have hC := hC.2 c0
      refine gj_ldc2 (v := 1000000000000000001) X tw_404 d_Co_times_18 ?_
      refine gj_goto (tgt := 27) X d_Co_times_21 (by decide) ?_
      exact gj_lret X hr hlk hC d_Co_times_27
  · have hC := hC.2 c0
    refine gj_lconst (v := 0) X d_Co_times_6 (by decide) ?_
    exact gj_lret X hr hlk hC d_Co_times_7
abbrev rm_Co_plus : Room := { frames := 1, cells := 0, slots := 0, locals := 15 }
set_option maxHeartbeats 4000000 in
set_option maxRecDepth 100000 in
theorem c_Co_plus (l : Launch) (dC : Nat → ClassId) (dI : Nat → Nat → Nat) (h : Nat → Nat) (cI cL : ClassId) (σ : gs_St) (a0 : Int64) (a1 : Int64) (K : Int64 → gs_St → Prop) (hC : C_Co_plus a0 a1 σ K) : gj_ML l y_Co_plus (gj_ws y_Co_plus b_Co_plus 4 (some .long)) rm_Co_plus (dC, dI) gs_C (gs_T cI cL) ((wG h cI cL) σ) (wG h cI cL) [.long a0, .long a1] K := by
  refine gj_enterL (by decide) (Nat.le_of_ble_eq_true rfl) (fun p e s m args below meth c A X hr hlk hA hnm => ?_)
  change gj_J p l e rm_Co_plus s m args below meth c 0 0 (MQ below (va_Ql K (gj_at (dC, dI) gs_C (gs_T cI cL) (wG h cI cL) A) A) args s 0 0 A) (dC, dI) gs_C A 4 0 [(0, .long a0), (2, .long a1)] [] ((wG h cI cL) σ)
  refine gj_lload_n X d_Co_plus_0 rfl 0 rfl ?_
  refine gj_lload_n X d_Co_plus_1 rfl 1 rfl ?_
  refine gj_ladd X d_Co_plus_2 ?_
  refine gj_ldc2 (v := 1000000000000000001) X tw_404 d_Co_plus_3 ?_
  refine gj_mminl X tw_408 tw_409 tw_13 tw_410 (Nat.le_of_ble_eq_true rfl) (Nat.le_of_ble_eq_true rfl) (Nat.zero_le _) (Nat.zero_le _) d_Co_plus_6 ?_
  exact gj_lret X hr hlk hC d_Co_plus_9
abbrev rm_Co_pairs : Room := { frames := 2, cells := 0, slots := 0, locals := 38 }
set_option maxHeartbeats 4000000 in
set_option maxRecDepth 100000 in
theorem c_Co_pairs (l : Launch) (dC : Nat → ClassId) (dI : Nat → Nat → Nat) (h : Nat → Nat) (cI cL : ClassId) (σ : gs_St) (a0 : Int32) (a1 : Int32) (a2 : Int32) (K : Int64 → gs_St → Prop) (hC : C_Co_pairs a0 a1 a2 σ K) : gj_ML l y_Co_pairs (gj_ws y_Co_pairs b_Co_pairs 9 (some .long)) rm_Co_pairs (dC, dI) gs_C (gs_T cI cL) ((wG h cI cL) σ) (wG h cI cL) [.ref (h 12), .int a0, .int a1, .int a2] K := by
  refine gj_enterL (by decide) (Nat.le_of_ble_eq_true rfl) (fun p e s m args below meth c A X hr hlk hA hnm => ?_)
  change gj_J p l e rm_Co_pairs s m args below meth c 0 0 (MQ below (va_Ql K (gj_at (dC, dI) gs_C (gs_T cI cL) (wG h cI cL) A) A) args s 0 0 A) (dC, dI) gs_C A 9 0 [(0, .ref (h 12)), (1, .int a0), (2, .int a1), (3, .int a2)] [] ((wG h cI cL) σ)
  have hC := hC
    (fun (v_1 : Int32) (v_2 : Int32) (v_3 : Int32) (v_4 : Int64) (v_6 : Int32) (σ : gs_St) => gj_J p l e rm_Co_pairs s m args below meth c 0 0 (MQ below (va_Ql K (gj_at (dC, dI) gs_C (gs_T cI cL) (wG h cI cL) A) A) args s 0 0 A) (dC, dI) gs_C A 9 6 [(0, .ref (h 12)), (1, .int v_1), (2, .int v_2), (3, .int v_3), (4, .long v_4), (6, .int v_6)] [] ((wG h cI cL) σ))
    (by
      intro v_1 v_2 v_3 v_4 v_6 σ hC
      refine gj_iload X d_Co_pairs_6 5 rfl ?_
      refine gj_iload_n X d_Co_pairs_8 rfl 3 rfl ?_
      refine gj_icmp_gt (tgt := 57) X d_Co_pairs_9 (by decide) (fun c0 => ?_) (fun c0 => ?_)
      · have hC := hC.1 c0
        refine gj_lload X d_Co_pairs_57 4 rfl ?_
        exact gj_lret X hr hlk hC d_Co_pairs_59
      · have hC := hC.2 c0
        refine gj_aload_n X d_Co_pairs_12 rfl 0 rfl ?_
        refine gj_get X inX0 12 rfl rfl 2 (by decide) tw_93 rfl rfl d_Co_pairs_13 ?_
        refine gj_iload_n X d_Co_pairs_16 rfl 1 rfl ?_
        refine gj_iload X d_Co_pairs_17 5 rfl ?_
        refine gj_iadd X d_Co_pairs_19 ?_
        refine gj_lald X 13 1 rfl rfl hC.1 d_Co_pairs_20 ?_
        have hC := hC.2
        refine gj_topl (fun v1 ev1 => ?_)
        have hC := hC v1 ev1
        refine gj_lstore (L' := [(7, .long v1), (0, .ref (h 12)), (1, .int v_1), (2, .int v_2), (3, .int v_3), (4, .long v_4), (6, .int v_6)]) X d_Co_pairs_21 (by decide) rfl ?_
        refine gj_lload X d_Co_pairs_23 0 rfl ?_
        refine gj_lconst (v := 0) X d_Co_pairs_25 (by decide) ?_
        refine gj_lcmp_eq (tgt := 51) X d_Co_pairs_26 d_Co_pairs_27 (by decide) (fun c0 => ?_) (fun c0 => ?_)
        · have hC := hC.1 c0
          obtain ⟨v2, ev2⟩ : ∃ y : Int32, y = v_6 + 1 := ⟨_, rfl⟩
          have hC := hC v2 ev2
          refine gj_iinc (v := v2) (L' := [(6, .int v2), (7, .long v1), (0, .ref (h 12)), (1, .int v_1), (2, .int v_2), (3, .int v_3), (4, .long v_4)]) X d_Co_pairs_51 6 rfl (by rw [ev2]; rfl) (by decide) rfl ?_
          refine gj_goto (tgt := 6) X d_Co_pairs_54 (by decide) ?_
          exact gj_loc [2, 3, 4, 5, 6, 0] rfl hC
        · have hC := hC.2 c0
          refine gj_lload X d_Co_pairs_30 5 rfl ?_
          refine gj_lload X d_Co_pairs_32 0 rfl ?_
          refine gj_aload_n X d_Co_pairs_34 rfl 1 rfl ?_
          refine gj_get X inX0 12 rfl rfl 3 (by decide) tw_94 rfl rfl d_Co_pairs_35 ?_
          refine gj_iload_n X d_Co_pairs_38 rfl 3 rfl ?_
          refine gj_iload X d_Co_pairs_39 6 rfl ?_
          refine gj_isub X d_Co_pairs_41 ?_
          refine gj_lald X 14 1 rfl rfl hC.1 d_Co_pairs_42 ?_
          have hC := hC.2
          refine gj_callSL (As := [.long v1, .long (σ.2.2 1 (v_2 - v_6).toNatClampNeg)]) (st := [.long v_4]) X (c_Co_times l dC dI h cI cL σ v1 (σ.2.2 1 (v_2 - v_6).toNatClampNeg) _ hC) ⟨gj_cwB X tw_402 tw_5 tw_400 hd_Co_times rfl rfl ⟨Nat.le_of_ble_eq_true rfl, Nat.le_of_ble_eq_true rfl⟩, X.2.2.2.2.1 _ tw_401⟩ hA rfl (Nat.le_of_ble_eq_true rfl) ⟨Nat.zero_le _, Nat.zero_le _⟩ d_Co_pairs_43 rfl (fun r4 σ3 hC => ?_)
          refine gj_callSL (As := [.long v_4, .long r4]) (st := []) X (c_Co_plus l dC dI h cI cL σ3 v_4 r4 _ hC) ⟨gj_cwB X tw_407 tw_5 tw_405 hd_Co_plus rfl rfl ⟨Nat.le_of_ble_eq_true rfl, Nat.le_of_ble_eq_true rfl⟩, X.2.2.2.2.1 _ tw_406⟩ hA rfl (Nat.le_of_ble_eq_true rfl) ⟨Nat.zero_le _, Nat.zero_le _⟩ d_Co_pairs_46 rfl (fun r6 σ5 hC => ?_)
          refine gj_lstore (L' := [(4, .long r6), (7, .long v1), (0, .ref (h 12)), (1, .int v_1), (2, .int v_2), (3, .int v_3), (6, .int v_6)]) X d_Co_pairs_49 (by decide) rfl ?_
          obtain ⟨v7, ev7⟩ : ∃ y : Int32, y = v_6 + 1 := ⟨_, rfl⟩
          have hC := hC v7 ev7
          refine gj_iinc (v := v7) (L' := [(6, .int v7), (4, .long r6), (7, .long v1), (0, .ref (h 12)), (1, .int v_1), (2, .int v_2), (3, .int v_3)]) X d_Co_pairs_51 6 rfl (by rw [ev7]; rfl) (by decide) rfl ?_
          refine gj_goto (tgt := 6) X d_Co_pairs_54 (by decide) ?_
          exact gj_loc [3, 4, 5, 6, 1, 0] rfl hC)
  refine gj_lconst (v := 0) X d_Co_pairs_0 (by decide) ?_
  refine gj_lstore (L' := [(4, .long (0 : Int64)), (0, .ref (h 12)), (1, .int a0), (2, .int a1), (3, .int a2)]) X d_Co_pairs_1 (by decide) rfl ?_
  refine gj_iconst (v := 0) X d_Co_pairs_3 (by decide) ?_
  refine gj_istore (L' := [(6, .int (0 : Int32)), (4, .long (0 : Int64)), (0, .ref (h 12)), (1, .int a0), (2, .int a1), (3, .int a2)]) X d_Co_pairs_4 (by decide) rfl ?_
  exact gj_loc [2, 3, 4, 5, 1, 0] rfl hC
end
section
abbrev rm_Co_fillEndings : Room := { frames := 3, cells := 0, slots := 0, locals := 66 }
set_option maxHeartbeats 4000000 in
set_option maxRecDepth 100000 in
theorem c_Co_fillEndings (l : Launch) (dC : Nat → ClassId) (dI : Nat → Nat → Nat) (h : Nat → Nat) (cI cL : ClassId) (σ : gs_St) (a0 : Int32) (a1 : Int32) (K : gs_St → Prop) (hC : C_Co_fillEndings a0 a1 σ K) : gj_MV 0 0 l y_Co_fillEndings (gj_ws y_Co_fillEndings b_Co_fillEndings 9 (none)) rm_Co_fillEndings (dC, dI) gs_C (gs_T cI cL) ((wG h cI cL) σ) (wG h cI cL) [.ref (h 12), .int a0, .int a1] K := by
  refine gj_enterV (by decide) (Nat.le_of_ble_eq_true rfl) (fun p e s m args below meth c A X hr hlk hA hnm => ?_)
  change gj_J p l e rm_Co_fillEndings s m args below meth c 0 0 (MQ below (va_Qv K (gj_at (dC, dI) gs_C (gs_T cI cL) (wG h cI cL) A) A) args s 0 0 A) (dC, dI) gs_C A 9 0 [(0, .ref (h 12)), (1, .int a0), (2, .int a1)] [] ((wG h cI cL) σ)
  have hC := hC
    (fun (v_1 : Int32) (v_2 : Int32) (v_4 : Int32) (σ : gs_St) => gj_J p l e rm_Co_fillEndings s m args below meth c 0 0 (MQ below (va_Qv K (gj_at (dC, dI) gs_C (gs_T cI cL) (wG h cI cL) A) A) args s 0 0 A) (dC, dI) gs_C A 9 35 [(0, .ref (h 12)), (1, .int v_1), (2, .int v_2), (4, .int v_4)] [] ((wG h cI cL) σ))
    (by
      intro v_1 v_2 v_4 σ hC
      refine gj_iload X d_Co_fillEndings_35 3 rfl ?_
      refine gj_if_lt (tgt := 128) X d_Co_fillEndings_37 (by decide) (fun c0 => ?_) (fun c0 => ?_)
      · have hC := hC.1 c0
        exact gj_vret X hr hlk hC d_Co_fillEndings_128
      · have hC := hC.2 c0
        refine gj_aload_n X d_Co_fillEndings_40 rfl 0 rfl ?_
        refine gj_get X inX0 12 rfl rfl 0 (by decide) tw_91 rfl rfl d_Co_fillEndings_41 ?_
        refine gj_iload_n X d_Co_fillEndings_44 rfl 1 rfl ?_
        refine gj_iload X d_Co_fillEndings_45 3 rfl ?_
        refine gj_callVI (As := [.int v_1, .int v_4]) (st := []) X (c_Gr_symbolAt l dC dI h cI cL σ v_1 v_4 _ hC) ⟨gj_cwB X tw_288 tw_2 tw_394 hd_Gr_symbolAt rfl rfl ⟨Nat.le_of_ble_eq_true rfl, Nat.le_of_ble_eq_true rfl⟩, X.2.2.2.2.1 _ tw_286, X.2.2.2.2.1 _ tw_287⟩ 2 rfl rfl hA rfl (Nat.le_of_ble_eq_true rfl) ⟨Nat.zero_le _, Nat.zero_le _⟩ d_Co_fillEndings_47 rfl (fun r10 σ9 hC => ?_)
        refine gj_istore (L' := [(5, .int r10), (0, .ref (h 12)), (1, .int v_1), (2, .int v_2), (4, .int v_4)]) X d_Co_fillEndings_50 (by decide) rfl ?_
        refine gj_iload_n X d_Co_fillEndings_52 rfl 2 rfl ?_
        refine gj_iload X d_Co_fillEndings_53 4 rfl ?_
        refine gj_iconst (v := 1) X d_Co_fillEndings_55 (by decide) ?_
        refine gj_iadd X d_Co_fillEndings_56 ?_
        refine gj_callSI (As := [.int v_1, .int (v_4 + (1 : Int32))]) (st := []) X (c_Co_endingsAt l dC dI h cI cL σ9 v_1 (v_4 + (1 : Int32)) _ hC) ⟨gj_cwB X tw_393 tw_5 tw_391 hd_Co_endingsAt rfl rfl ⟨Nat.le_of_ble_eq_true rfl, Nat.le_of_ble_eq_true rfl⟩, X.2.2.2.2.1 _ tw_392⟩ hA rfl (Nat.le_of_ble_eq_true rfl) ⟨Nat.zero_le _, Nat.zero_le _⟩ d_Co_fillEndings_57 rfl (fun r12 σ11 hC => ?_)
        refine gj_iload_n X d_Co_fillEndings_60 rfl 3 rfl ?_
        refine gj_iadd X d_Co_fillEndings_61 ?_
        refine gj_topi (fun v13 ev13 => ?_)
        have hC := hC v13 ev13
        refine gj_istore (L' := [(6, .int v13), (5, .int r10), (0, .ref (h 12)), (1, .int v_1), (2, .int v_2), (4, .int v_4)]) X d_Co_fillEndings_62 (by decide) rfl ?_
        refine gj_lconst (v := 0) X d_Co_fillEndings_64 (by decide) ?_
        refine gj_lstore (L' := [(7, .long (0 : Int64)), (6, .int v13), (5, .int r10), (0, .ref (h 12)), (1, .int v_1), (2, .int v_2), (4, .int v_4)]) X d_Co_fillEndings_65 (by decide) rfl ?_
        refine gj_iload X d_Co_fillEndings_67 2 rfl ?_
        refine gj_callSNI (As := [.int r10]) (st := []) X (c_Gl_isNonterminal l dC dI h cI cL σ11 r10 _ hC) ⟨gj_cwN X tw_249 tw_1 tn_395 hd_Gl_isNonterminal rfl rfl ⟨Nat.le_of_ble_eq_true rfl, Nat.le_of_ble_eq_true rfl⟩, X.2.2.2.2.1 _ tw_248, trivial⟩ hA rfl (Nat.le_of_ble_eq_true rfl) ⟨Nat.zero_le _, Nat.zero_le _⟩ d_Co_fillEndings_69 rfl (fun r15 σ14 hC => ?_)
        obtain ⟨hC, hb⟩ := hC
        refine gj_if_eq (tgt := 92) X d_Co_fillEndings_72 (by decide) (fun c0 => ?_) (fun c0 => ?_)
        · have hC := hC.1 c0
          refine gj_iload_n X d_Co_fillEndings_92 rfl 5 rfl ?_
          refine gj_if_le (tgt := 107) X d_Co_fillEndings_93 (by decide) (fun c0 => ?_) (fun c0 => ?_)
          · have hC := hC.1 c0
            refine gj_aload_n X d_Co_fillEndings_107 rfl 3 rfl ?_
            refine gj_get X inX0 12 rfl rfl 3 (by decide) tw_94 rfl rfl d_Co_fillEndings_108 ?_
            refine gj_iload_n X d_Co_fillEndings_111 rfl 4 rfl ?_
            refine gj_iload X d_Co_fillEndings_112 6 rfl ?_
            refine gj_callSI (As := [.int v_1, .int v_4]) (st := [.ref (h 14)]) X (c_Co_endingsAt l dC dI h cI cL σ14 v_1 v_4 _ hC) ⟨gj_cwB X tw_393 tw_5 tw_391 hd_Co_endingsAt rfl rfl ⟨Nat.le_of_ble_eq_true rfl, Nat.le_of_ble_eq_true rfl⟩, X.2.2.2.2.1 _ tw_392⟩ hA rfl (Nat.le_of_ble_eq_true rfl) ⟨Nat.zero_le _, Nat.zero_le _⟩ d_Co_fillEndings_114 rfl (fun r17 σ16 hC => ?_)
            refine gj_iload_n X d_Co_fillEndings_117 rfl 5 rfl ?_
            refine gj_iadd X d_Co_fillEndings_118 ?_
            refine gj_lload X d_Co_fillEndings_119 0 rfl ?_
            refine gj_last (w' := (wG h cI cL) (gs_L σ16 1 (vp_updL (σ16.2.2 1) (r17 + v_2).toNatClampNeg (0 : Int64)))) X 14 1 rfl rfl hC.1 (set_wG_L1 h cI cL σ16 _) d_Co_fillEndings_121 ?_
            refine gj_topw (wof := (wG h cI cL)) (fun σ18 eσ18 => ?_)
            have hC := hC.2 σ18 eσ18
            obtain ⟨v19, ev19⟩ : ∃ y : Int32, y = v_4 + (-1) := ⟨_, rfl⟩
            have hC := hC v19 ev19
            refine gj_iinc (v := v19) (L' := [(4, .int v19), (7, .long (0 : Int64)), (6, .int v13), (5, .int r10), (0, .ref (h 12)), (1, .int v_1), (2, .int v_2)]) X d_Co_fillEndings_122 6 rfl (by rw [ev19]; rfl) (by decide) rfl ?_
            refine gj_goto (tgt := 35) X d_Co_fillEndings_125 (by decide) ?_
            exact gj_loc [4, 5, 6, 0] rfl hC
          · have hC := hC.2 c0
            refine gj_aload_n X d_Co_fillEndings_96 rfl 3 rfl ?_
            refine gj_get X inX0 12 rfl rfl 3 (by decide) tw_94 rfl rfl d_Co_fillEndings_97 ?_
            refine gj_iload X d_Co_fillEndings_100 1 rfl ?_
            refine gj_iconst (v := 1) X d_Co_fillEndings_102 (by decide) ?_
            refine gj_isub X d_Co_fillEndings_103 ?_
            refine gj_lald X 14 1 rfl rfl hC.1 d_Co_fillEndings_104 ?_
            have hC := hC.2
            refine gj_topl (fun v20 ev20 => ?_)
            have hC := hC v20 ev20
            refine gj_lstore (L' := [(7, .long v20), (6, .int v13), (5, .int r10), (0, .ref (h 12)), (1, .int v_1), (2, .int v_2), (4, .int v_4)]) X d_Co_fillEndings_105 (by decide) rfl ?_
            refine gj_aload_n X d_Co_fillEndings_107 rfl 3 rfl ?_
            refine gj_get X inX0 12 rfl rfl 3 (by decide) tw_94 rfl rfl d_Co_fillEndings_108 ?_
            refine gj_iload_n X d_Co_fillEndings_111 rfl 4 rfl ?_
            refine gj_iload X d_Co_fillEndings_112 6 rfl ?_
            refine gj_callSI (As := [.int v_1, .int v_4]) (st := [.ref (h 14)]) X (c_Co_endingsAt l dC dI h cI cL σ14 v_1 v_4 _ hC) ⟨gj_cwB X tw_393 tw_5 tw_391 hd_Co_endingsAt rfl rfl ⟨Nat.le_of_ble_eq_true rfl, Nat.le_of_ble_eq_true rfl⟩, X.2.2.2.2.1 _ tw_392⟩ hA rfl (Nat.le_of_ble_eq_true rfl) ⟨Nat.zero_le _, Nat.zero_le _⟩ d_Co_fillEndings_114 rfl (fun r22 σ21 hC => ?_)
            refine gj_iload_n X d_Co_fillEndings_117 rfl 5 rfl ?_
            refine gj_iadd X d_Co_fillEndings_118 ?_
            refine gj_lload X d_Co_fillEndings_119 0 rfl ?_
            refine gj_last (w' := (wG h cI cL) (gs_L σ21 1 (vp_updL (σ21.2.2 1) (r22 + v_2).toNatClampNeg v20))) X 14 1 rfl rfl hC.1 (set_wG_L1 h cI cL σ21 _) d_Co_fillEndings_121 ?_
            refine gj_topw (wof := (wG h cI cL)) (fun σ23 eσ23 => ?_)
            have hC := hC.2 σ23 eσ23
            obtain ⟨v24, ev24⟩ : ∃ y : Int32, y = v_4 + (-1) := ⟨_, rfl⟩
            have hC := hC v24 ev24
            refine gj_iinc (v := v24) (L' := [(4, .int v24), (7, .long v20), (6, .int v13), (5, .int r10), (0, .ref (h 12)), (1, .int v_1), (2, .int v_2)]) X d_Co_fillEndings_122 6 rfl (by rw [ev24]; rfl) (by decide) rfl ?_
            refine gj_goto (tgt := 35) X d_Co_fillEndings_125 (by decide) ?_
            exact gj_loc [4, 5, 6, 0] rfl hC
        · have hC := hC.2 c0
          refine gj_aload_n X d_Co_fillEndings_75 rfl 3 rfl ?_
          refine gj_iload X d_Co_fillEndings_76 2 rfl ?_
          refine gj_bipush (v := 17) X d_Co_fillEndings_78 (by decide) ?_
          refine gj_imul X d_Co_fillEndings_80 ?_
          refine gj_iload X d_Co_fillEndings_81 1 rfl ?_
          refine gj_iload_n X d_Co_fillEndings_83 rfl 5 rfl ?_
          refine gj_callVL (As := [.int (r10 * (17 : Int32)), .int v13, .int v_2]) (st := []) X (c_Co_pairs l dC dI h cI cL σ14 (r10 * (17 : Int32)) v13 v_2 _ hC) ⟨gj_cwB X tw_399 tw_5 tw_396 hd_Co_pairs rfl rfl ⟨Nat.le_of_ble_eq_true rfl, Nat.le_of_ble_eq_true rfl⟩, X.2.2.2.2.1 _ tw_398, X.2.2.2.2.1 _ ts_8⟩ 12 rfl rfl hA rfl (Nat.le_of_ble_eq_true rfl) ⟨Nat.zero_le _, Nat.zero_le _⟩ d_Co_fillEndings_84 rfl (fun r26 σ25 hC => ?_)
          refine gj_lstore (L' := [(7, .long r26), (6, .int v13), (5, .int r10), (0, .ref (h 12)), (1, .int v_1), (2, .int v_2), (4, .int v_4)]) X d_Co_fillEndings_87 (by decide) rfl ?_
          refine gj_goto (tgt := 107) X d_Co_fillEndings_89 (by decide) ?_
          refine gj_aload_n X d_Co_fillEndings_107 rfl 3 rfl ?_
          refine gj_get X inX0 12 rfl rfl 3 (by decide) tw_94 rfl rfl d_Co_fillEndings_108 ?_
          refine gj_iload_n X d_Co_fillEndings_111 rfl 4 rfl ?_
          refine gj_iload X d_Co_fillEndings_112 6 rfl ?_
          refine gj_callSI (As := [.int v_1, .int v_4]) (st := [.ref (h 14)]) X (c_Co_endingsAt l dC dI h cI cL σ25 v_1 v_4 _ hC) ⟨gj_cwB X tw_393 tw_5 tw_391 hd_Co_endingsAt rfl rfl ⟨Nat.le_of_ble_eq_true rfl, Nat.le_of_ble_eq_true rfl⟩, X.2.2.2.2.1 _ tw_392⟩ hA rfl (Nat.le_of_ble_eq_true rfl) ⟨Nat.zero_le _, Nat.zero_le _⟩ d_Co_fillEndings_114 rfl (fun r28 σ27 hC => ?_)
          refine gj_iload_n X d_Co_fillEndings_117 rfl 5 rfl ?_
          refine gj_iadd X d_Co_fillEndings_118 ?_
          refine gj_lload X d_Co_fillEndings_119 0 rfl ?_
          refine gj_last (w' := (wG h cI cL) (gs_L σ27 1 (vp_updL (σ27.2.2 1) (r28 + v_2).toNatClampNeg r26))) X 14 1 rfl rfl hC.1 (set_wG_L1 h cI cL σ27 _) d_Co_fillEndings_121 ?_
          refine gj_topw (wof := (wG h cI cL)) (fun σ29 eσ29 => ?_)
          have hC := hC.2 σ29 eσ29
          obtain ⟨v30, ev30⟩ : ∃ y : Int32, y = v_4 + (-1) := ⟨_, rfl⟩
          have hC := hC v30 ev30
          refine gj_iinc (v := v30) (L' := [(4, .int v30), (7, .long r26), (6, .int v13), (5, .int r10), (0, .ref (h 12)), (1, .int v_1), (2, .int v_2)]) X d_Co_fillEndings_122 6 rfl (by rw [ev30]; rfl) (by decide) rfl ?_
          refine gj_goto (tgt := 35) X d_Co_fillEndings_125 (by decide) ?_
          exact gj_loc [4, 5, 6, 0] rfl hC)
  refine gj_aload_n X d_Co_fillEndings_0 rfl 0 rfl ?_
  refine gj_get X inX0 12 rfl rfl 0 (by decide) tw_91 rfl rfl d_Co_fillEndings_1 ?_
  refine gj_iload_n X d_Co_fillEndings_4 rfl 1 rfl ?_
  refine gj_callVI (As := [.int a0]) (st := []) X (c_Gr_sizeOf l dC dI h cI cL σ a0 _ hC) ⟨gj_cwB X tw_280 tw_2 tw_390 hd_Gr_sizeOf rfl rfl ⟨Nat.le_of_ble_eq_true rfl, Nat.le_of_ble_eq_true rfl⟩, X.2.2.2.2.1 _ tw_278, X.2.2.2.2.1 _ tw_279⟩ 2 rfl rfl hA rfl (Nat.le_of_ble_eq_true rfl) ⟨Nat.zero_le _, Nat.zero_le _⟩ d_Co_fillEndings_5 rfl (fun r2 σ1 hC => ?_)
  refine gj_istore_n (L' := [(3, .int r2), (0, .ref (h 12)), (1, .int a0), (2, .int a1)]) X d_Co_fillEndings_8 rfl (by decide) rfl ?_
  refine gj_aload_n X d_Co_fillEndings_9 rfl 1 rfl ?_
  refine gj_get X inX0 12 rfl rfl 3 (by decide) tw_94 rfl rfl d_Co_fillEndings_10 ?_
  refine gj_iload_n X d_Co_fillEndings_13 rfl 2 rfl ?_
  refine gj_iload_n X d_Co_fillEndings_14 rfl 0 rfl ?_
  refine gj_callSI (As := [.int a0, .int r2]) (st := [.ref (h 14)]) X (c_Co_endingsAt l dC dI h cI cL σ1 a0 r2 _ hC) ⟨gj_cwB X tw_393 tw_5 tw_391 hd_Co_endingsAt rfl rfl ⟨Nat.le_of_ble_eq_true rfl, Nat.le_of_ble_eq_true rfl⟩, X.2.2.2.2.1 _ tw_392⟩ hA rfl (Nat.le_of_ble_eq_true rfl) ⟨Nat.zero_le _, Nat.zero_le _⟩ d_Co_fillEndings_15 rfl (fun r4 σ3 hC => ?_)
  refine gj_iload_n X d_Co_fillEndings_18 rfl 3 rfl ?_
  refine gj_iadd X d_Co_fillEndings_19 ?_
  refine gj_iload_n X d_Co_fillEndings_20 rfl 3 rfl ?_
  refine gj_if_ne (tgt := 28) X d_Co_fillEndings_21 (by decide) (fun c0 => ?_) (fun c0 => ?_)
  · have hC := hC.1 c0
    refine gj_lconst (v := 0) X d_Co_fillEndings_28 (by decide) ?_
    refine gj_last (w' := (wG h cI cL) (gs_L σ3 1 (vp_updL (σ3.2.2 1) (r4 + a1).toNatClampNeg (0 : Int64)))) X 14 1 rfl rfl hC.1 (set_wG_L1 h cI cL σ3 _) d_Co_fillEndings_29 ?_
    refine gj_topw (wof := (wG h cI cL)) (fun σ5 eσ5 => ?_)
    have hC := hC.2 σ5 eσ5
    refine gj_iload_n X d_Co_fillEndings_30 rfl 0 rfl ?_
    refine gj_iconst (v := 1) X d_Co_fillEndings_31 (by decide) ?_
    refine gj_isub X d_Co_fillEndings_32 ?_
    refine gj_topi (fun v6 ev6 => ?_)
    have hC := hC v6 ev6
    refine gj_istore (L' := [(4, .int v6), (3, .int r2), (0, .ref (h 12)), (1, .int a0), (2, .int a1)]) X d_Co_fillEndings_33 (by decide) rfl ?_
    exact gj_loc [2, 3, 4, 0] rfl hC
  · have hC := hC.2 c0
    refine gj_lconst (v := 1) X d_Co_fillEndings_24 (by decide) ?_
    refine gj_goto (tgt := 29) X d_Co_fillEndings_25 (by decide) ?_
    refine gj_last (w' := (wG h cI cL) (gs_L σ3 1 (vp_updL (σ3.2.2 1) (r4 + a1).toNatClampNeg (1 : Int64)))) X 14 1 rfl rfl hC.1 (set_wG_L1 h cI cL σ3 _) d_Co_fillEndings_29 ?_
    refine gj_topw (wof := (wG h cI cL)) (fun σ7 eσ7 => ?_)
    have hC := hC.2 σ7 eσ7
    refine gj_iload_n X d_Co_fillEndings_30 rfl 0 rfl ?_
    refine gj_iconst (v := 1) X d_Co_fillEndings_31 (by decide) ?_
    refine gj_isub X d_Co_fillEndings_32 ?_
    refine gj_topi (fun v8 ev8 => ?_)
    have hC := hC v8 ev8
    refine gj_istore (L' := [(4, .int v8), (3, .int r2), (0, .ref (h 12)), (1, .int a0), (2, .int a1)]) X d_Co_fillEndings_33 (by decide) rfl ?_
    exact gj_loc [2, 3, 4, 0] rfl hC
abbrev rm_Co_endingsOf : Room := { frames := 1, cells := 0, slots := 0, locals := 21 }
set_option maxHeartbeats 4000000 in
set_option maxRecDepth 100000 in
theorem c_Co_endingsOf (l : Launch) (dC : Nat → ClassId) (dI : Nat → Nat → Nat) (h : Nat → Nat) (cI cL : ClassId) (σ : gs_St) (a0 : Int32) (a1 : Int32) (a2 : Int32) (K : Int64 → gs_St → Prop) (hC : C_Co_endingsOf a0 a1 a2 σ K) : gj_ML l y_Co_endingsOf (gj_ws y_Co_endingsOf b_Co_endingsOf 4 (some .long)) rm_Co_endingsOf (dC, dI) gs_C (gs_T cI cL) ((wG h cI cL) σ) (wG h cI cL) [.ref (h 12), .int a0, .int a1, .int a2] K := by
  refine gj_enterL (by decide) (Nat.le_of_ble_eq_true rfl) (fun p e s m args below meth c A X hr hlk hA hnm => ?_)
  change gj_J p l e rm_Co_endingsOf s m args below meth c 0 0 (MQ below (va_Ql K (gj_at (dC, dI) gs_C (gs_T cI cL) (wG h cI cL) A) A) args s 0 0 A) (dC, dI) gs_C A 4 0 [(0, .ref (h 12)), (1, .int a0), (2, .int a1), (3, .int a2)] [] ((wG h cI cL) σ)
  refine gj_aload_n X d_Co_endingsOf_0 rfl 0 rfl ?_
  refine gj_get X inX0 12 rfl rfl 3 (by decide) tw_94 rfl rfl d_Co_endingsOf_1 ?_
  refine gj_iload_n X d_Co_endingsOf_4 rfl 1 rfl ?_
  refine gj_iload_n X d_Co_endingsOf_5 rfl 2 rfl ?_
  refine gj_callSI (As := [.int a0, .int a1]) (st := [.ref (h 14)]) X (c_Co_endingsAt l dC dI h cI cL σ a0 a1 _ hC) ⟨gj_cwB X tw_393 tw_5 tw_391 hd_Co_endingsAt rfl rfl ⟨Nat.le_of_ble_eq_true rfl, Nat.le_of_ble_eq_true rfl⟩, X.2.2.2.2.1 _ tw_392⟩ hA rfl (Nat.le_of_ble_eq_true rfl) ⟨Nat.zero_le _, Nat.zero_le _⟩ d_Co_endingsOf_6 rfl (fun r2 σ1 hC => ?_)
  refine gj_iload_n X d_Co_endingsOf_9 rfl 3 rfl ?_
  refine gj_iadd X d_Co_endingsOf_10 ?_
  refine gj_lald X 14 1 rfl rfl hC.1 d_Co_endingsOf_11 ?_
  have hC := hC.2
  exact gj_lret X hr hlk hC d_Co_endingsOf_12
abbrev rm_Co_addTrees : Room := { frames := 2, cells := 0, slots := 0, locals := 38 }
set_option maxHeartbeats 4000000 in
set_option maxRecDepth 100000 in
theorem c_Co_addTrees (l : Launch) (dC : Nat → ClassId) (dI : Nat → Nat → Nat) (h : Nat → Nat) (cI cL : ClassId) (σ : gs_St) (a0 : Int32) (a1 : Int32) (a2 : Int64) (K : gs_St → Prop) (hC : C_Co_addTrees a0 a1 a2 σ K) : gj_MV 0 0 l y_Co_addTrees (gj_ws y_Co_addTrees b_Co_addTrees 6 (none)) rm_Co_addTrees (dC, dI) gs_C (gs_T cI cL) ((wG h cI cL) σ) (wG h cI cL) [.ref (h 12), .int a0, .int a1, .long a2] K := by
  refine gj_enterV (by decide) (Nat.le_of_ble_eq_true rfl) (fun p e s m args below meth c A X hr hlk hA hnm => ?_)
  change gj_J p l e rm_Co_addTrees s m args below meth c 0 0 (MQ below (va_Qv K (gj_at (dC, dI) gs_C (gs_T cI cL) (wG h cI cL) A) A) args s 0 0 A) (dC, dI) gs_C A 6 0 [(0, .ref (h 12)), (1, .int a0), (2, .int a1), (3, .long a2)] [] ((wG h cI cL) σ)
  refine gj_iload_n X d_Co_addTrees_0 rfl 1 rfl ?_
  refine gj_bipush (v := 17) X d_Co_addTrees_1 (by decide) ?_
  refine gj_imul X d_Co_addTrees_3 ?_
  refine gj_iload_n X d_Co_addTrees_4 rfl 2 rfl ?_
  refine gj_iadd X d_Co_addTrees_5 ?_
  refine gj_topi (fun v1 ev1 => ?_)
  have hC := hC v1 ev1
  refine gj_istore (L' := [(5, .int v1), (0, .ref (h 12)), (1, .int a0), (2, .int a1), (3, .long a2)]) X d_Co_addTrees_6 (by decide) rfl ?_
  refine gj_aload_n X d_Co_addTrees_8 rfl 1 rfl ?_
  refine gj_get X inX0 12 rfl rfl 2 (by decide) tw_93 rfl rfl d_Co_addTrees_9 ?_
  refine gj_iload X d_Co_addTrees_12 0 rfl ?_
  refine gj_aload_n X d_Co_addTrees_14 rfl 1 rfl ?_
  refine gj_get X inX0 12 rfl rfl 2 (by decide) tw_93 rfl rfl d_Co_addTrees_15 ?_
  refine gj_iload X d_Co_addTrees_18 0 rfl ?_
  refine gj_lald X 13 1 rfl rfl hC.1 d_Co_addTrees_20 ?_
  have hC := hC.2
  refine gj_lload_n X d_Co_addTrees_21 rfl 4 rfl ?_
  refine gj_callSL (As := [.long (σ.2.2 0 v1.toNatClampNeg), .long a2]) (st := [.int v1, .ref (h 13)]) X (c_Co_plus l dC dI h cI cL σ (σ.2.2 0 v1.toNatClampNeg) a2 _ hC) ⟨gj_cwB X tw_407 tw_5 tw_405 hd_Co_plus rfl rfl ⟨Nat.le_of_ble_eq_true rfl, Nat.le_of_ble_eq_true rfl⟩, X.2.2.2.2.1 _ tw_406⟩ hA rfl (Nat.le_of_ble_eq_true rfl) ⟨Nat.zero_le _, Nat.zero_le _⟩ d_Co_addTrees_22 rfl (fun r3 σ2 hC => ?_)
  refine gj_last (w' := (wG h cI cL) (gs_L σ2 0 (vp_updL (σ2.2.2 0) v1.toNatClampNeg r3))) X 13 1 rfl rfl hC.1 (set_wG_L0 h cI cL σ2 _) d_Co_addTrees_25 ?_
  refine gj_topw (wof := (wG h cI cL)) (fun σ4 eσ4 => ?_)
  have hC := hC.2 σ4 eσ4
  exact gj_vret X hr hlk hC d_Co_addTrees_26
abbrev rm_Co_countLength : Room := { frames := 4, cells := 0, slots := 0, locals := 94 }
set_option maxHeartbeats 4000000 in
set_option maxRecDepth 100000 in
theorem c_Co_countLength (l : Launch) (dC : Nat → ClassId) (dI : Nat → Nat → Nat) (h : Nat → Nat) (cI cL : ClassId) (σ : gs_St) (a0 : Int32) (K : gs_St → Prop) (hC : C_Co_countLength a0 σ K) : gj_MV 0 0 l y_Co_countLength (gj_ws y_Co_countLength b_Co_countLength 5 (none)) rm_Co_countLength (dC, dI) gs_C (gs_T cI cL) ((wG h cI cL) σ) (wG h cI cL) [.ref (h 12), .int a0] K := by
  refine gj_enterV (by decide) (Nat.le_of_ble_eq_true rfl) (fun p e s m args below meth c A X hr hlk hA hnm => ?_)
  change gj_J p l e rm_Co_countLength s m args below meth c 0 0 (MQ below (va_Qv K (gj_at (dC, dI) gs_C (gs_T cI cL) (wG h cI cL) A) A) args s 0 0 A) (dC, dI) gs_C A 5 0 [(0, .ref (h 12)), (1, .int a0)] [] ((wG h cI cL) σ)
  have hC := hC
    (fun (v_1 : Int32) (v_2 : Int32) (σ : gs_St) => gj_J p l e rm_Co_countLength s m args below meth c 0 0 (MQ below (va_Qv K (gj_at (dC, dI) gs_C (gs_T cI cL) (wG h cI cL) A) A) args s 0 0 A) (dC, dI) gs_C A 5 2 [(0, .ref (h 12)), (1, .int v_1), (2, .int v_2)] [] ((wG h cI cL) σ))
    (fun (v_1 : Int32) (v_2 : Int32) (σ : gs_St) => gj_J p l e rm_Co_countLength s m args below meth c 0 0 (MQ below (va_Qv K (gj_at (dC, dI) gs_C (gs_T cI cL) (wG h cI cL) A) A) args s 0 0 A) (dC, dI) gs_C A 5 28 [(0, .ref (h 12)), (1, .int v_1), (2, .int v_2)] [] ((wG h cI cL) σ))
    (fun (v_1 : Int32) (v_2 : Int32) (v_3 : Int32) (v_4 : Int32) (σ : gs_St) => gj_J p l e rm_Co_countLength s m args below meth c 0 0 (MQ below (va_Qv K (gj_at (dC, dI) gs_C (gs_T cI cL) (wG h cI cL) A) A) args s 0 0 A) (dC, dI) gs_C A 5 46 [(0, .ref (h 12)), (1, .int v_1), (2, .int v_2), (3, .int v_3), (4, .int v_4)] [] ((wG h cI cL) σ))
    (fun (v_1 : Int32) (v_2 : Int32) (σ : gs_St) => gj_J p l e rm_Co_countLength s m args below meth c 0 0 (MQ below (va_Qv K (gj_at (dC, dI) gs_C (gs_T cI cL) (wG h cI cL) A) A) args s 0 0 A) (dC, dI) gs_C A 5 115 [(0, .ref (h 12)), (1, .int v_1), (2, .int v_2)] [] ((wG h cI cL) σ))
    (by
      intro v_1 v_2 σ hC
      refine gj_iload_n X d_Co_countLength_2 rfl 2 rfl ?_
      refine gj_bipush (v := 8) X d_Co_countLength_3 (by decide) ?_
      refine gj_icmp_ge (tgt := 26) X d_Co_countLength_5 (by decide) (fun c0 => ?_) (fun c0 => ?_)
      · have hC := hC.1 c0
        refine gj_iconst (v := 0) X d_Co_countLength_26 (by decide) ?_
        refine gj_istore_n (L' := [(2, .int (0 : Int32)), (0, .ref (h 12)), (1, .int v_1)]) X d_Co_countLength_27 rfl (by decide) rfl ?_
        exact gj_loc [1, 2, 0] rfl hC
      · have hC := hC.2 c0
        refine gj_aload_n X d_Co_countLength_8 rfl 0 rfl ?_
        refine gj_get X inX0 12 rfl rfl 2 (by decide) tw_93 rfl rfl d_Co_countLength_9 ?_
        refine gj_iload_n X d_Co_countLength_12 rfl 2 rfl ?_
        refine gj_bipush (v := 17) X d_Co_countLength_13 (by decide) ?_
        refine gj_imul X d_Co_countLength_15 ?_
        refine gj_iload_n X d_Co_countLength_16 rfl 1 rfl ?_
        refine gj_iadd X d_Co_countLength_17 ?_
        refine gj_lconst (v := 0) X d_Co_countLength_18 (by decide) ?_
        refine gj_last (w' := (wG h cI cL) (gs_L σ 0 (vp_updL (σ.2.2 0) ((v_2 * (17 : Int32)) + v_1).toNatClampNeg (0 : Int64)))) X 13 1 rfl rfl hC.1 (set_wG_L0 h cI cL σ _) d_Co_countLength_19 ?_
        refine gj_topw (wof := (wG h cI cL)) (fun σ1 eσ1 => ?_)
        have hC := hC.2 σ1 eσ1
        obtain ⟨v2, ev2⟩ : ∃ y : Int32, y = v_2 + 1 := ⟨_, rfl⟩
        have hC := hC v2 ev2
        refine gj_iinc (v := v2) (L' := [(2, .int v2), (0, .ref (h 12)), (1, .int v_1)]) X d_Co_countLength_20 2 rfl (by rw [ev2]; rfl) (by decide) rfl ?_
        refine gj_goto (tgt := 2) X d_Co_countLength_23 (by decide) ?_
        exact gj_loc [1, 2, 0] rfl hC)
    (by
      intro v_1 v_2 σ hC
      refine gj_iload_n X d_Co_countLength_28 rfl 2 rfl ?_
      refine gj_bipush (v := 8) X d_Co_countLength_29 (by decide) ?_
      refine gj_icmp_ge (tgt := 113) X d_Co_countLength_31 (by decide) (fun c0 => ?_) (fun c0 => ?_)
      · have hC := hC.1 c0
        refine gj_iconst (v := 0) X d_Co_countLength_113 (by decide) ?_
        refine gj_istore_n (L' := [(2, .int (0 : Int32)), (0, .ref (h 12)), (1, .int v_1)]) X d_Co_countLength_114 rfl (by decide) rfl ?_
        exact gj_loc [1, 2, 0] rfl hC
      · have hC := hC.2 c0
        refine gj_aload_n X d_Co_countLength_34 rfl 0 rfl ?_
        refine gj_get X inX0 12 rfl rfl 1 (by decide) tw_92 rfl rfl d_Co_countLength_35 ?_
        refine gj_iload_n X d_Co_countLength_38 rfl 2 rfl ?_
        refine gj_callVI (As := [.int v_2]) (st := []) X (c_Ld_inOrder l dC dI h cI cL σ v_2 _ hC) ⟨gj_cwB X tw_384 tw_4 tw_381 hd_Ld_inOrder rfl rfl ⟨Nat.le_of_ble_eq_true rfl, Nat.le_of_ble_eq_true rfl⟩, X.2.2.2.2.1 _ tw_382, X.2.2.2.2.1 _ tw_383⟩ 9 rfl rfl hA rfl (Nat.le_of_ble_eq_true rfl) ⟨Nat.zero_le _, Nat.zero_le _⟩ d_Co_countLength_39 rfl (fun r4 σ3 hC => ?_)
        refine gj_istore_n (L' := [(3, .int r4), (0, .ref (h 12)), (1, .int v_1), (2, .int v_2)]) X d_Co_countLength_42 rfl (by decide) rfl ?_
        refine gj_iconst (v := 0) X d_Co_countLength_43 (by decide) ?_
        refine gj_istore (L' := [(4, .int (0 : Int32)), (3, .int r4), (0, .ref (h 12)), (1, .int v_1), (2, .int v_2)]) X d_Co_countLength_44 (by decide) rfl ?_
        exact gj_loc [2, 3, 4, 1, 0] rfl hC)
    (by
      intro v_1 v_2 v_3 v_4 σ hC
      refine gj_iload X d_Co_countLength_46 4 rfl ?_
      refine gj_aload_n X d_Co_countLength_48 rfl 0 rfl ?_
      refine gj_get X inX0 12 rfl rfl 0 (by decide) tw_91 rfl rfl d_Co_countLength_49 ?_
      refine gj_getN X inX2 2 rfl rfl 3 (by decide) tn_36 rfl rfl d_Co_countLength_52 ?_
      refine gj_icmp_ge (tgt := 107) X d_Co_countLength_55 (by decide) (fun c0 => ?_) (fun c0 => ?_)
      · have hC := hC.1 c0
        obtain ⟨v5, ev5⟩ : ∃ y : Int32, y = v_2 + 1 := ⟨_, rfl⟩
        have hC := hC v5 ev5
        refine gj_iinc (v := v5) (L' := [(2, .int v5), (0, .ref (h 12)), (1, .int v_1), (3, .int v_3), (4, .int v_4)]) X d_Co_countLength_107 2 rfl (by rw [ev5]; rfl) (by decide) rfl ?_
        refine gj_goto (tgt := 28) X d_Co_countLength_110 (by decide) ?_
        exact gj_loc [1, 2, 0] rfl hC
      · have hC := hC.2 c0
        refine gj_iload X d_Co_countLength_58 4 rfl ?_
        refine gj_aload_n X d_Co_countLength_60 rfl 0 rfl ?_
        refine gj_get X inX0 12 rfl rfl 4 (by decide) tw_95 rfl rfl d_Co_countLength_61 ?_
        refine gj_icmp_eq (tgt := 101) X d_Co_countLength_64 (by decide) (fun c0 => ?_) (fun c0 => ?_)
        · have hC := hC.1 c0
          obtain ⟨v6, ev6⟩ : ∃ y : Int32, y = v_4 + 1 := ⟨_, rfl⟩
          have hC := hC v6 ev6
          refine gj_iinc (v := v6) (L' := [(4, .int v6), (0, .ref (h 12)), (1, .int v_1), (2, .int v_2), (3, .int v_3)]) X d_Co_countLength_101 4 rfl (by rw [ev6]; rfl) (by decide) rfl ?_
          refine gj_goto (tgt := 46) X d_Co_countLength_104 (by decide) ?_
          exact gj_loc [1, 2, 3, 4, 0] rfl hC
        · have hC := hC.2 c0
          refine gj_aload_n X d_Co_countLength_67 rfl 0 rfl ?_
          refine gj_get X inX0 12 rfl rfl 0 (by decide) tw_91 rfl rfl d_Co_countLength_68 ?_
          refine gj_iload X d_Co_countLength_71 4 rfl ?_
          refine gj_callVI (As := [.int v_4]) (st := []) X (c_Gr_leftOf l dC dI h cI cL σ v_4 _ hC) ⟨gj_cwB X tw_284 tw_2 tw_385 hd_Gr_leftOf rfl rfl ⟨Nat.le_of_ble_eq_true rfl, Nat.le_of_ble_eq_true rfl⟩, X.2.2.2.2.1 _ tw_282, X.2.2.2.2.1 _ tw_283⟩ 2 rfl rfl hA rfl (Nat.le_of_ble_eq_true rfl) ⟨Nat.zero_le _, Nat.zero_le _⟩ d_Co_countLength_73 rfl (fun r8 σ7 hC => ?_)
          refine gj_iload_n X d_Co_countLength_76 rfl 3 rfl ?_
          refine gj_icmp_ne (tgt := 101) X d_Co_countLength_77 (by decide) (fun c0 => ?_) (fun c0 => ?_)
          · have hC := hC.1 c0
            obtain ⟨v9, ev9⟩ : ∃ y : Int32, y = v_4 + 1 := ⟨_, rfl⟩
            have hC := hC v9 ev9
            refine gj_iinc (v := v9) (L' := [(4, .int v9), (0, .ref (h 12)), (1, .int v_1), (2, .int v_2), (3, .int v_3)]) X d_Co_countLength_101 4 rfl (by rw [ev9]; rfl) (by decide) rfl ?_
            refine gj_goto (tgt := 46) X d_Co_countLength_104 (by decide) ?_
            exact gj_loc [1, 2, 3, 4, 0] rfl hC
          · have hC := hC.2 c0
            refine gj_aload_n X d_Co_countLength_80 rfl 0 rfl ?_
            refine gj_iload X d_Co_countLength_81 4 rfl ?_
            refine gj_iload_n X d_Co_countLength_83 rfl 1 rfl ?_
            refine gj_callVV (As := [.int v_4, .int v_1]) (st := []) X (c_Co_fillEndings l dC dI h cI cL σ7 v_4 v_1 _ hC) ⟨gj_cwB X tw_389 tw_5 tw_386 hd_Co_fillEndings rfl rfl ⟨Nat.le_of_ble_eq_true rfl, Nat.le_of_ble_eq_true rfl⟩, X.2.2.2.2.1 _ tw_388, X.2.2.2.2.1 _ ts_7⟩ 12 rfl rfl hA rfl (Nat.le_of_ble_eq_true rfl) ⟨Nat.zero_le _, Nat.zero_le _⟩ d_Co_countLength_84 rfl (fun σ10 hC => ?_)
            refine gj_aload_n X d_Co_countLength_87 rfl 0 rfl ?_
            refine gj_iload_n X d_Co_countLength_88 rfl 3 rfl ?_
            refine gj_iload_n X d_Co_countLength_89 rfl 1 rfl ?_
            refine gj_aload_n X d_Co_countLength_90 rfl 0 rfl ?_
            refine gj_iload X d_Co_countLength_91 4 rfl ?_
            refine gj_iconst (v := 0) X d_Co_countLength_93 (by decide) ?_
            refine gj_iload_n X d_Co_countLength_94 rfl 1 rfl ?_
            refine gj_callVL (As := [.int v_4, .int (0 : Int32), .int v_1]) (st := [.int v_1, .int v_3, .ref (h 12)]) X (c_Co_endingsOf l dC dI h cI cL σ10 v_4 (0 : Int32) v_1 _ hC) ⟨gj_cwB X tw_414 tw_5 tw_411 hd_Co_endingsOf rfl rfl ⟨Nat.le_of_ble_eq_true rfl, Nat.le_of_ble_eq_true rfl⟩, X.2.2.2.2.1 _ tw_412, X.2.2.2.2.1 _ tw_413⟩ 12 rfl rfl hA rfl (Nat.le_of_ble_eq_true rfl) ⟨Nat.zero_le _, Nat.zero_le _⟩ d_Co_countLength_95 rfl (fun r12 σ11 hC => ?_)
            refine gj_callVV (As := [.int v_3, .int v_1, .long r12]) (st := []) X (c_Co_addTrees l dC dI h cI cL σ11 v_3 v_1 r12 _ hC) ⟨gj_cwB X tw_418 tw_5 tw_415 hd_Co_addTrees rfl rfl ⟨Nat.le_of_ble_eq_true rfl, Nat.le_of_ble_eq_true rfl⟩, X.2.2.2.2.1 _ tw_417, X.2.2.2.2.1 _ ts_9⟩ 12 rfl rfl hA rfl (Nat.le_of_ble_eq_true rfl) ⟨Nat.zero_le _, Nat.zero_le _⟩ d_Co_countLength_98 rfl (fun σ13 hC => ?_)
            obtain ⟨v14, ev14⟩ : ∃ y : Int32, y = v_4 + 1 := ⟨_, rfl⟩
            have hC := hC v14 ev14
            refine gj_iinc (v := v14) (L' := [(4, .int v14), (0, .ref (h 12)), (1, .int v_1), (2, .int v_2), (3, .int v_3)]) X d_Co_countLength_101 4 rfl (by rw [ev14]; rfl) (by decide) rfl ?_
            refine gj_goto (tgt := 46) X d_Co_countLength_104 (by decide) ?_
            exact gj_loc [1, 2, 3, 4, 0] rfl hC)
    (by
      intro v_1 v_2 σ hC
      refine gj_iload_n X d_Co_countLength_115 rfl 2 rfl ?_
      refine gj_aload_n X d_Co_countLength_116 rfl 0 rfl ?_
      refine gj_get X inX0 12 rfl rfl 0 (by decide) tw_91 rfl rfl d_Co_countLength_117 ?_
      refine gj_getN X inX2 2 rfl rfl 3 (by decide) tn_36 rfl rfl d_Co_countLength_120 ?_
      refine gj_icmp_ge (tgt := 146) X d_Co_countLength_123 (by decide) (fun c0 => ?_) (fun c0 => ?_)
      · have hC := hC.1 c0
        exact gj_vret X hr hlk hC d_Co_countLength_146
      · have hC := hC.2 c0
        refine gj_iload_n X d_Co_countLength_126 rfl 2 rfl ?_
        refine gj_aload_n X d_Co_countLength_127 rfl 0 rfl ?_
        refine gj_get X inX0 12 rfl rfl 4 (by decide) tw_95 rfl rfl d_Co_countLength_128 ?_
        refine gj_icmp_eq (tgt := 140) X d_Co_countLength_131 (by decide) (fun c0 => ?_) (fun c0 => ?_)
        · have hC := hC.1 c0
          obtain ⟨v15, ev15⟩ : ∃ y : Int32, y = v_2 + 1 := ⟨_, rfl⟩
          have hC := hC v15 ev15
          refine gj_iinc (v := v15) (L' := [(2, .int v15), (0, .ref (h 12)), (1, .int v_1)]) X d_Co_countLength_140 2 rfl (by rw [ev15]; rfl) (by decide) rfl ?_
          refine gj_goto (tgt := 115) X d_Co_countLength_143 (by decide) ?_
          exact gj_loc [1, 2, 0] rfl hC
        · have hC := hC.2 c0
          refine gj_aload_n X d_Co_countLength_134 rfl 0 rfl ?_
          refine gj_iload_n X d_Co_countLength_135 rfl 2 rfl ?_
          refine gj_iload_n X d_Co_countLength_136 rfl 1 rfl ?_
          refine gj_callVV (As := [.int v_2, .int v_1]) (st := []) X (c_Co_fillEndings l dC dI h cI cL σ v_2 v_1 _ hC) ⟨gj_cwB X tw_389 tw_5 tw_386 hd_Co_fillEndings rfl rfl ⟨Nat.le_of_ble_eq_true rfl, Nat.le_of_ble_eq_true rfl⟩, X.2.2.2.2.1 _ tw_388, X.2.2.2.2.1 _ ts_7⟩ 12 rfl rfl hA rfl (Nat.le_of_ble_eq_true rfl) ⟨Nat.zero_le _, Nat.zero_le _⟩ d_Co_countLength_137 rfl (fun σ16 hC => ?_)
          obtain ⟨v17, ev17⟩ : ∃ y : Int32, y = v_2 + 1 := ⟨_, rfl⟩
          have hC := hC v17 ev17
          refine gj_iinc (v := v17) (L' := [(2, .int v17), (0, .ref (h 12)), (1, .int v_1)]) X d_Co_countLength_140 2 rfl (by rw [ev17]; rfl) (by decide) rfl ?_
          refine gj_goto (tgt := 115) X d_Co_countLength_143 (by decide) ?_
          exact gj_loc [1, 2, 0] rfl hC)
  refine gj_iconst (v := 0) X d_Co_countLength_0 (by decide) ?_
  refine gj_istore_n (L' := [(2, .int (0 : Int32)), (0, .ref (h 12)), (1, .int a0)]) X d_Co_countLength_1 rfl (by decide) rfl ?_
  exact gj_loc [1, 2, 0] rfl hC
abbrev rm_Co_treesOf : Room := { frames := 5, cells := 0, slots := 0, locals := 118 }
set_option maxHeartbeats 4000000 in
set_option maxRecDepth 100000 in
theorem c_Co_treesOf (l : Launch) (dC : Nat → ClassId) (dI : Nat → Nat → Nat) (h : Nat → Nat) (cI cL : ClassId) (σ : gs_St) (a0 : Int32) (a1 : Int32) (K : Int64 → gs_St → Prop) (hC : C_Co_treesOf a0 a1 σ K) : gj_ML l y_Co_treesOf (gj_ws y_Co_treesOf b_Co_treesOf 4 (some .long)) rm_Co_treesOf (dC, dI) gs_C (gs_T cI cL) ((wG h cI cL) σ) (wG h cI cL) [.ref (h 12), .int a0, .int a1] K := by
  refine gj_enterL (by decide) (Nat.le_of_ble_eq_true rfl) (fun p e s m args below meth c A X hr hlk hA hnm => ?_)
  change gj_J p l e rm_Co_treesOf s m args below meth c 0 0 (MQ below (va_Ql K (gj_at (dC, dI) gs_C (gs_T cI cL) (wG h cI cL) A) A) args s 0 0 A) (dC, dI) gs_C A 4 0 [(0, .ref (h 12)), (1, .int a0), (2, .int a1)] [] ((wG h cI cL) σ)
  have hC := hC
    (fun (v_1 : Int32) (v_2 : Int32) (v_3 : Int32) (σ : gs_St) => gj_J p l e rm_Co_treesOf s m args below meth c 0 0 (MQ below (va_Ql K (gj_at (dC, dI) gs_C (gs_T cI cL) (wG h cI cL) A) A) args s 0 0 A) (dC, dI) gs_C A 4 5 [(0, .ref (h 12)), (1, .int v_1), (2, .int v_2), (3, .int v_3)] [] ((wG h cI cL) σ))
    (by
      intro v_1 v_2 v_3 σ hC
      refine gj_iload_n X d_Co_treesOf_5 rfl 3 rfl ?_
      refine gj_iload_n X d_Co_treesOf_6 rfl 2 rfl ?_
      refine gj_icmp_gt (tgt := 28) X d_Co_treesOf_7 (by decide) (fun c0 => ?_) (fun c0 => ?_)
      · have hC := hC.1 c0
        refine gj_aload_n X d_Co_treesOf_28 rfl 0 rfl ?_
        refine gj_get X inX0 12 rfl rfl 2 (by decide) tw_93 rfl rfl d_Co_treesOf_29 ?_
        refine gj_iload_n X d_Co_treesOf_32 rfl 1 rfl ?_
        refine gj_bipush (v := 17) X d_Co_treesOf_33 (by decide) ?_
        refine gj_imul X d_Co_treesOf_35 ?_
        refine gj_iload_n X d_Co_treesOf_36 rfl 2 rfl ?_
        refine gj_iadd X d_Co_treesOf_37 ?_
        refine gj_lald X 13 1 rfl rfl hC.1 d_Co_treesOf_38 ?_
        have hC := hC.2
        exact gj_lret X hr hlk hC d_Co_treesOf_39
      · have hC := hC.2 c0
        refine gj_aload_n X d_Co_treesOf_10 rfl 0 rfl ?_
        refine gj_iload_n X d_Co_treesOf_11 rfl 3 rfl ?_
        refine gj_callVV (As := [.int v_3]) (st := []) X (c_Co_countLength l dC dI h cI cL σ v_3 _ hC) ⟨gj_cwB X tw_380 tw_5 tw_377 hd_Co_countLength rfl rfl ⟨Nat.le_of_ble_eq_true rfl, Nat.le_of_ble_eq_true rfl⟩, X.2.2.2.2.1 _ tw_379, X.2.2.2.2.1 _ ts_6⟩ 12 rfl rfl hA rfl (Nat.le_of_ble_eq_true rfl) ⟨Nat.zero_le _, Nat.zero_le _⟩ d_Co_treesOf_12 rfl (fun σ2 hC => ?_)
        refine gj_aload_n X d_Co_treesOf_15 rfl 0 rfl ?_
        refine gj_iload_n X d_Co_treesOf_16 rfl 3 rfl ?_
        refine gj_iconst (v := 1) X d_Co_treesOf_17 (by decide) ?_
        refine gj_iadd X d_Co_treesOf_18 ?_
        refine gj_put (w' := (wG h cI cL) (gs_I σ2 5 (v_3 + (1 : Int32)))) X inX0 tyX0 tyX0_ok nmX0 12 rfl rfl 5 (by decide) tw_96 rfl rfl (tyX0_ok 5 (by decide)) rfl rfl (Nat.le_of_ble_eq_true rfl) (set_wG_I5 h cI cL σ2 _) d_Co_treesOf_19 ?_
        refine gj_topw (wof := (wG h cI cL)) (fun σ3 eσ3 => ?_)
        have hC := hC σ3 eσ3
        obtain ⟨v4, ev4⟩ : ∃ y : Int32, y = v_3 + 1 := ⟨_, rfl⟩
        have hC := hC v4 ev4
        refine gj_iinc (v := v4) (L' := [(3, .int v4), (0, .ref (h 12)), (1, .int v_1), (2, .int v_2)]) X d_Co_treesOf_22 3 rfl (by rw [ev4]; rfl) (by decide) rfl ?_
        refine gj_goto (tgt := 5) X d_Co_treesOf_25 (by decide) ?_
        exact gj_loc [1, 2, 3, 0] rfl hC)
  refine gj_aload_n X d_Co_treesOf_0 rfl 0 rfl ?_
  refine gj_get X inX0 12 rfl rfl 5 (by decide) tw_96 rfl rfl d_Co_treesOf_1 ?_
  refine gj_topi (fun v1 ev1 => ?_)
  have hC := hC v1 ev1
  refine gj_istore_n (L' := [(3, .int v1), (0, .ref (h 12)), (1, .int a0), (2, .int a1)]) X d_Co_treesOf_4 rfl (by decide) rfl ?_
  exact gj_loc [1, 2, 3, 0] rfl hC
abbrev rm_Gl_trees : Room := { frames := 6, cells := 0, slots := 0, locals := 141 }
set_option maxHeartbeats 4000000 in
set_option maxRecDepth 100000 in
theorem c_Gl_trees (l : Launch) (dC : Nat → ClassId) (dI : Nat → Nat → Nat) (h : Nat → Nat) (cI cL : ClassId) (σ : gs_St) (a0 : Int32) (a1 : Int32) (K : Int64 → gs_St → Prop) (hC : C_Gl_trees a0 a1 σ K) : gj_ML l y_Gl_trees (gj_ws y_Gl_trees b_Gl_trees 5 (some .long)) rm_Gl_trees (dC, dI) gs_C (gs_T cI cL) ((wG h cI cL) σ) (wG h cI cL) [.ref (h 0), .int a0, .int a1] K := by
  refine gj_enterL (by decide) (Nat.le_of_ble_eq_true rfl) (fun p e s m args below meth c A X hr hlk hA hnm => ?_)
  change gj_J p l e rm_Gl_trees s m args below meth c 0 0 (MQ below (va_Ql K (gj_at (dC, dI) gs_C (gs_T cI cL) (wG h cI cL) A) A) args s 0 0 A) (dC, dI) gs_C A 5 0 [(0, .ref (h 0)), (1, .int a0), (2, .int a1)] [] ((wG h cI cL) σ)
  refine gj_iload_n X d_Gl_trees_0 rfl 1 rfl ?_
  refine gj_callSI (As := [.int a0]) (st := []) X (c_Gl_isNonterminal l dC dI h cI cL σ a0 _ hC) ⟨gj_cwB X tw_249 tw_1 tw_247 hd_Gl_isNonterminal rfl rfl ⟨Nat.le_of_ble_eq_true rfl, Nat.le_of_ble_eq_true rfl⟩, X.2.2.2.2.1 _ tw_248⟩ hA rfl (Nat.le_of_ble_eq_true rfl) ⟨Nat.zero_le _, Nat.zero_le _⟩ d_Gl_trees_1 rfl (fun r2 σ1 hC => ?_)
  obtain ⟨hC, hb⟩ := hC
  refine gj_if_eq (tgt := 15) X d_Gl_trees_4 (by decide) (fun c0 => ?_) (fun c0 => ?_)
  · have hC := hC.1 c0
    refine gj_ldc2 (v := -1) X tw_372 d_Gl_trees_15 ?_
    exact gj_lret X hr hlk hC d_Gl_trees_18
  · have hC := hC.2 c0
    refine gj_aload_n X d_Gl_trees_7 rfl 0 rfl ?_
    refine gj_iload_n X d_Gl_trees_8 rfl 2 rfl ?_
    refine gj_callVI (As := [.int a1]) (st := []) X (c_Gl_isCounted l dC dI h cI cL σ1 a1 _ hC) ⟨gj_cwB X tw_371 tw_1 tw_368 hd_Gl_isCounted rfl rfl ⟨Nat.le_of_ble_eq_true rfl, Nat.le_of_ble_eq_true rfl⟩, X.2.2.2.2.1 _ tw_370, X.2.2.2.2.1 _ ts_5⟩ 0 rfl rfl hA rfl (Nat.le_of_ble_eq_true rfl) ⟨Nat.zero_le _, Nat.zero_le _⟩ d_Gl_trees_9 rfl (fun r4 σ3 hC => ?_)
    obtain ⟨hC, hb⟩ := hC
    refine gj_if_ne (tgt := 19) X d_Gl_trees_12 (by decide) (fun c0 => ?_) (fun c0 => ?_)
    · have hC := hC.1 c0
      refine gj_aload_n X d_Gl_trees_19 rfl 0 rfl ?_
      refine gj_get X inX8 0 rfl rfl 5 (by decide) tw_213 rfl rfl d_Gl_trees_20 ?_
      refine gj_iload_n X d_Gl_trees_23 rfl 1 rfl ?_
      refine gj_iload_n X d_Gl_trees_24 rfl 2 rfl ?_
      refine gj_callVL (As := [.int a0, .int a1]) (st := []) X (c_Co_treesOf l dC dI h cI cL σ3 a0 a1 _ hC) ⟨gj_cwB X tw_376 tw_5 tw_373 hd_Co_treesOf rfl rfl ⟨Nat.le_of_ble_eq_true rfl, Nat.le_of_ble_eq_true rfl⟩, X.2.2.2.2.1 _ tw_374, X.2.2.2.2.1 _ tw_375⟩ 12 rfl rfl hA rfl (Nat.le_of_ble_eq_true rfl) ⟨Nat.zero_le _, Nat.zero_le _⟩ d_Gl_trees_25 rfl (fun r6 σ5 hC => ?_)
      refine gj_lstore_n (L' := [(3, .long r6), (0, .ref (h 0)), (1, .int a0), (2, .int a1)]) X d_Gl_trees_28 rfl (by decide) rfl ?_
      refine gj_lload_n X d_Gl_trees_29 rfl 0 rfl ?_
      refine gj_ldc2 (v := 1000000000000000000) X tw_419 d_Gl_trees_30 ?_
      refine gj_lcmp_le (tgt := 43) X d_Gl_trees_33 d_Gl_trees_34 (by decide) (fun c0 => ?_) (fun c0 => ?_)
      · have hC := hC.1 c0
        refine gj_lload_n X d_Gl_trees_43 rfl 0 rfl ?_
        exact gj_lret X hr hlk hC d_Gl_trees_44
      · have hC := hC.2 c0
        refine gj_ldc2 (v := -2) X tw_420 d_Gl_trees_37 ?_
        refine gj_goto (tgt := 44) X d_Gl_trees_40 (by decide) ?_
        exact gj_lret X hr hlk hC d_Gl_trees_44
    · have hC := hC.2 c0
      refine gj_ldc2 (v := -1) X tw_372 d_Gl_trees_15 ?_
      exact gj_lret X hr hlk hC d_Gl_trees_18
abbrev rm_Co_leaveOutw : Room := { frames := 1, cells := 0, slots := 0, locals := 20 }
set_option maxHeartbeats 4000000 in
set_option maxRecDepth 100000 in
theorem c_Co_leaveOutw (l : Launch) (dC : Nat → ClassId) (dI : Nat → Nat → Nat) (h : Nat → Nat) (cI cL : ClassId) (σ : gs_St) (a0 : Int32) (K : gs_St → Prop) (hC : C_Co_leaveOutw a0 σ K) : gj_MV 0 0 l y_Co_leaveOut (gj_ws y_Co_leaveOut b_Co_leaveOut 2 (none)) rm_Co_leaveOutw (dC, dI) gs_C (gs_T cI cL) ((wG h cI cL) σ) (wG h cI cL) [.ref (h 15), .int a0] K := by
  refine gj_enterV (by decide) (Nat.le_of_ble_eq_true rfl) (fun p e s m args below meth c A X hr hlk hA hnm => ?_)
  change gj_J p l e rm_Co_leaveOutw s m args below meth c 0 0 (MQ below (va_Qv K (gj_at (dC, dI) gs_C (gs_T cI cL) (wG h cI cL) A) A) args s 0 0 A) (dC, dI) gs_C A 2 0 [(0, .ref (h 15)), (1, .int a0)] [] ((wG h cI cL) σ)
  refine gj_aload_n X d_Co_leaveOut_0 rfl 0 rfl ?_
  refine gj_get X inX0 15 rfl rfl 4 (by decide) tw_95 rfl rfl d_Co_leaveOut_1 ?_
  refine gj_iload_n X d_Co_leaveOut_4 rfl 1 rfl ?_
  refine gj_icmp_eq (tgt := 17) X d_Co_leaveOut_5 (by decide) (fun c0 => ?_) (fun c0 => ?_)
  · have hC := hC.1 c0
    exact gj_vret X hr hlk hC d_Co_leaveOut_17
  · have hC := hC.2 c0
    refine gj_aload_n X d_Co_leaveOut_8 rfl 0 rfl ?_
    refine gj_iload_n X d_Co_leaveOut_9 rfl 1 rfl ?_
    refine gj_put (w' := (wG h cI cL) (gs_I σ 6 a0)) X inX0 tyX0 tyX0_ok nmX0 15 rfl rfl 4 (by decide) tw_95 rfl rfl (tyX0_ok 4 (by decide)) rfl rfl (Nat.le_of_ble_eq_true rfl) (set_wG_I6 h cI cL σ _) d_Co_leaveOut_10 ?_
    refine gj_topw (wof := (wG h cI cL)) (fun σ1 eσ1 => ?_)
    have hC := hC σ1 eσ1
    refine gj_aload_n X d_Co_leaveOut_13 rfl 0 rfl ?_
    refine gj_callVV (As := []) (st := []) X (c_Co_forgetw l dC dI h cI cL σ1 _ hC) ⟨gj_cwB X tw_343 tw_5 tw_429 hd_Co_forget rfl rfl ⟨Nat.le_of_ble_eq_true rfl, Nat.le_of_ble_eq_true rfl⟩, X.2.2.2.2.1 _ tw_341, X.2.2.2.2.1 _ tw_342⟩ 15 rfl rfl hA rfl (Nat.le_of_ble_eq_true rfl) ⟨Nat.zero_le _, Nat.zero_le _⟩ d_Co_leaveOut_14 rfl (fun σ2 hC => ?_)
    exact gj_vret X hr hlk hC d_Co_leaveOut_17
end
section
abbrev rm_Co_pairsw : Room := { frames := 2, cells := 0, slots := 0, locals := 38 }
set_option maxHeartbeats 4000000 in
set_option maxRecDepth 100000 in
theorem c_Co_pairsw (l : Launch) (dC : Nat → ClassId) (dI : Nat → Nat → Nat) (h : Nat → Nat) (cI cL : ClassId) (σ : gs_St) (a0 : Int32) (a1 : Int32) (a2 : Int32) (K : Int64 → gs_St → Prop) (hC : C_Co_pairsw a0 a1 a2 σ K) : gj_ML l y_Co_pairs (gj_ws y_Co_pairs b_Co_pairs 9 (some .long)) rm_Co_pairsw (dC, dI) gs_C (gs_T cI cL) ((wG h cI cL) σ) (wG h cI cL) [.ref (h 15), .int a0, .int a1, .int a2] K := by
  refine gj_enterL (by decide) (Nat.le_of_ble_eq_true rfl) (fun p e s m args below meth c A X hr hlk hA hnm => ?_)
  change gj_J p l e rm_Co_pairsw s m args below meth c 0 0 (MQ below (va_Ql K (gj_at (dC, dI) gs_C (gs_T cI cL) (wG h cI cL) A) A) args s 0 0 A) (dC, dI) gs_C A 9 0 [(0, .ref (h 15)), (1, .int a0), (2, .int a1), (3, .int a2)] [] ((wG h cI cL) σ)
  have hC := hC
    (fun (v_1 : Int32) (v_2 : Int32) (v_3 : Int32) (v_4 : Int64) (v_6 : Int32) (σ : gs_St) => gj_J p l e rm_Co_pairsw s m args below meth c 0 0 (MQ below (va_Ql K (gj_at (dC, dI) gs_C (gs_T cI cL) (wG h cI cL) A) A) args s 0 0 A) (dC, dI) gs_C A 9 6 [(0, .ref (h 15)), (1, .int v_1), (2, .int v_2), (3, .int v_3), (4, .long v_4), (6, .int v_6)] [] ((wG h cI cL) σ))
    (by
      intro v_1 v_2 v_3 v_4 v_6 σ hC
      refine gj_iload X d_Co_pairs_6 5 rfl ?_
      refine gj_iload_n X d_Co_pairs_8 rfl 3 rfl ?_
      refine gj_icmp_gt (tgt := 57) X d_Co_pairs_9 (by decide) (fun c0 => ?_) (fun c0 => ?_)
      · have hC := hC.1 c0
        refine gj_lload X d_Co_pairs_57 4 rfl ?_
        exact gj_lret X hr hlk hC d_Co_pairs_59
      · have hC := hC.2 c0
        refine gj_aload_n X d_Co_pairs_12 rfl 0 rfl ?_
        refine gj_get X inX0 15 rfl rfl 2 (by decide) tw_93 rfl rfl d_Co_pairs_13 ?_
        refine gj_iload_n X d_Co_pairs_16 rfl 1 rfl ?_
        refine gj_iload X d_Co_pairs_17 5 rfl ?_
        refine gj_iadd X d_Co_pairs_19 ?_
        refine gj_lald X 16 1 rfl rfl hC.1 d_Co_pairs_20 ?_
        have hC := hC.2
        refine gj_topl (fun v1 ev1 => ?_)
        have hC := hC v1 ev1
        refine gj_lstore (L' := [(7, .long v1), (0, .ref (h 15)), (1, .int v_1), (2, .int v_2), (3, .int v_3), (4, .long v_4), (6, .int v_6)]) X d_Co_pairs_21 (by decide) rfl ?_
        refine gj_lload X d_Co_pairs_23 0 rfl ?_
        refine gj_lconst (v := 0) X d_Co_pairs_25 (by decide) ?_
        refine gj_lcmp_eq (tgt := 51) X d_Co_pairs_26 d_Co_pairs_27 (by decide) (fun c0 => ?_) (fun c0 => ?_)
        · have hC := hC.1 c0
          obtain ⟨v2, ev2⟩ : ∃ y : Int32, y = v_6 + 1 := ⟨_, rfl⟩
          have hC := hC v2 ev2
          refine gj_iinc (v := v2) (L' := [(6, .int v2), (7, .long v1), (0, .ref (h 15)), (1, .int v_1), (2, .int v_2), (3, .int v_3), (4, .long v_4)]) X d_Co_pairs_51 6 rfl (by rw [ev2]; rfl) (by decide) rfl ?_
          refine gj_goto (tgt := 6) X d_Co_pairs_54 (by decide) ?_
          exact gj_loc [2, 3, 4, 5, 6, 0] rfl hC
        · have hC := hC.2 c0
          refine gj_lload X d_Co_pairs_30 5 rfl ?_
          refine gj_lload X d_Co_pairs_32 0 rfl ?_
          refine gj_aload_n X d_Co_pairs_34 rfl 1 rfl ?_
          refine gj_get X inX0 15 rfl rfl 3 (by decide) tw_94 rfl rfl d_Co_pairs_35 ?_
          refine gj_iload_n X d_Co_pairs_38 rfl 3 rfl ?_
          refine gj_iload X d_Co_pairs_39 6 rfl ?_
          refine gj_isub X d_Co_pairs_41 ?_
          refine gj_lald X 17 1 rfl rfl hC.1 d_Co_pairs_42 ?_
          have hC := hC.2
          refine gj_callSL (As := [.long v1, .long (σ.2.2 3 (v_2 - v_6).toNatClampNeg)]) (st := [.long v_4]) X (c_Co_times l dC dI h cI cL σ v1 (σ.2.2 3 (v_2 - v_6).toNatClampNeg) _ hC) ⟨gj_cwB X tw_402 tw_5 tw_400 hd_Co_times rfl rfl ⟨Nat.le_of_ble_eq_true rfl, Nat.le_of_ble_eq_true rfl⟩, X.2.2.2.2.1 _ tw_401⟩ hA rfl (Nat.le_of_ble_eq_true rfl) ⟨Nat.zero_le _, Nat.zero_le _⟩ d_Co_pairs_43 rfl (fun r4 σ3 hC => ?_)
          refine gj_callSL (As := [.long v_4, .long r4]) (st := []) X (c_Co_plus l dC dI h cI cL σ3 v_4 r4 _ hC) ⟨gj_cwB X tw_407 tw_5 tw_405 hd_Co_plus rfl rfl ⟨Nat.le_of_ble_eq_true rfl, Nat.le_of_ble_eq_true rfl⟩, X.2.2.2.2.1 _ tw_406⟩ hA rfl (Nat.le_of_ble_eq_true rfl) ⟨Nat.zero_le _, Nat.zero_le _⟩ d_Co_pairs_46 rfl (fun r6 σ5 hC => ?_)
          refine gj_lstore (L' := [(4, .long r6), (7, .long v1), (0, .ref (h 15)), (1, .int v_1), (2, .int v_2), (3, .int v_3), (6, .int v_6)]) X d_Co_pairs_49 (by decide) rfl ?_
          obtain ⟨v7, ev7⟩ : ∃ y : Int32, y = v_6 + 1 := ⟨_, rfl⟩
          have hC := hC v7 ev7
          refine gj_iinc (v := v7) (L' := [(6, .int v7), (4, .long r6), (7, .long v1), (0, .ref (h 15)), (1, .int v_1), (2, .int v_2), (3, .int v_3)]) X d_Co_pairs_51 6 rfl (by rw [ev7]; rfl) (by decide) rfl ?_
          refine gj_goto (tgt := 6) X d_Co_pairs_54 (by decide) ?_
          exact gj_loc [3, 4, 5, 6, 1, 0] rfl hC)
  refine gj_lconst (v := 0) X d_Co_pairs_0 (by decide) ?_
  refine gj_lstore (L' := [(4, .long (0 : Int64)), (0, .ref (h 15)), (1, .int a0), (2, .int a1), (3, .int a2)]) X d_Co_pairs_1 (by decide) rfl ?_
  refine gj_iconst (v := 0) X d_Co_pairs_3 (by decide) ?_
  refine gj_istore (L' := [(6, .int (0 : Int32)), (4, .long (0 : Int64)), (0, .ref (h 15)), (1, .int a0), (2, .int a1), (3, .int a2)]) X d_Co_pairs_4 (by decide) rfl ?_
  exact gj_loc [2, 3, 4, 5, 1, 0] rfl hC
abbrev rm_Co_fillEndingsw : Room := { frames := 3, cells := 0, slots := 0, locals := 66 }
set_option maxHeartbeats 4000000 in
set_option maxRecDepth 100000 in
theorem c_Co_fillEndingsw (l : Launch) (dC : Nat → ClassId) (dI : Nat → Nat → Nat) (h : Nat → Nat) (cI cL : ClassId) (σ : gs_St) (a0 : Int32) (a1 : Int32) (K : gs_St → Prop) (hC : C_Co_fillEndingsw a0 a1 σ K) : gj_MV 0 0 l y_Co_fillEndings (gj_ws y_Co_fillEndings b_Co_fillEndings 9 (none)) rm_Co_fillEndingsw (dC, dI) gs_C (gs_T cI cL) ((wG h cI cL) σ) (wG h cI cL) [.ref (h 15), .int a0, .int a1] K := by
  refine gj_enterV (by decide) (Nat.le_of_ble_eq_true rfl) (fun p e s m args below meth c A X hr hlk hA hnm => ?_)
  change gj_J p l e rm_Co_fillEndingsw s m args below meth c 0 0 (MQ below (va_Qv K (gj_at (dC, dI) gs_C (gs_T cI cL) (wG h cI cL) A) A) args s 0 0 A) (dC, dI) gs_C A 9 0 [(0, .ref (h 15)), (1, .int a0), (2, .int a1)] [] ((wG h cI cL) σ)
  have hC := hC
    (fun (v_1 : Int32) (v_2 : Int32) (v_4 : Int32) (σ : gs_St) => gj_J p l e rm_Co_fillEndingsw s m args below meth c 0 0 (MQ below (va_Qv K (gj_at (dC, dI) gs_C (gs_T cI cL) (wG h cI cL) A) A) args s 0 0 A) (dC, dI) gs_C A 9 35 [(0, .ref (h 15)), (1, .int v_1), (2, .int v_2), (4, .int v_4)] [] ((wG h cI cL) σ))
    (by
      intro v_1 v_2 v_4 σ hC
      refine gj_iload X d_Co_fillEndings_35 3 rfl ?_
      refine gj_if_lt (tgt := 128) X d_Co_fillEndings_37 (by decide) (fun c0 => ?_) (fun c0 => ?_)
      · have hC := hC.1 c0
        exact gj_vret X hr hlk hC d_Co_fillEndings_128
      · have hC := hC.2 c0
        refine gj_aload_n X d_Co_fillEndings_40 rfl 0 rfl ?_
        refine gj_get X inX0 15 rfl rfl 0 (by decide) tw_91 rfl rfl d_Co_fillEndings_41 ?_
        refine gj_iload_n X d_Co_fillEndings_44 rfl 1 rfl ?_
        refine gj_iload X d_Co_fillEndings_45 3 rfl ?_
        refine gj_callVI (As := [.int v_1, .int v_4]) (st := []) X (c_Gr_symbolAt l dC dI h cI cL σ v_1 v_4 _ hC) ⟨gj_cwB X tw_288 tw_2 tw_394 hd_Gr_symbolAt rfl rfl ⟨Nat.le_of_ble_eq_true rfl, Nat.le_of_ble_eq_true rfl⟩, X.2.2.2.2.1 _ tw_286, X.2.2.2.2.1 _ tw_287⟩ 2 rfl rfl hA rfl (Nat.le_of_ble_eq_true rfl) ⟨Nat.zero_le _, Nat.zero_le _⟩ d_Co_fillEndings_47 rfl (fun r10 σ9 hC => ?_)
        refine gj_istore (L' := [(5, .int r10), (0, .ref (h 15)), (1, .int v_1), (2, .int v_2), (4, .int v_4)]) X d_Co_fillEndings_50 (by decide) rfl ?_
        refine gj_iload_n X d_Co_fillEndings_52 rfl 2 rfl ?_
        refine gj_iload X d_Co_fillEndings_53 4 rfl ?_
        refine gj_iconst (v := 1) X d_Co_fillEndings_55 (by decide) ?_
        refine gj_iadd X d_Co_fillEndings_56 ?_
        refine gj_callSI (As := [.int v_1, .int (v_4 + (1 : Int32))]) (st := []) X (c_Co_endingsAt l dC dI h cI cL σ9 v_1 (v_4 + (1 : Int32)) _ hC) ⟨gj_cwB X tw_393 tw_5 tw_391 hd_Co_endingsAt rfl rfl ⟨Nat.le_of_ble_eq_true rfl, Nat.le_of_ble_eq_true rfl⟩, X.2.2.2.2.1 _ tw_392⟩ hA rfl (Nat.le_of_ble_eq_true rfl) ⟨Nat.zero_le _, Nat.zero_le _⟩ d_Co_fillEndings_57 rfl (fun r12 σ11 hC => ?_)
        refine gj_iload_n X d_Co_fillEndings_60 rfl 3 rfl ?_
        refine gj_iadd X d_Co_fillEndings_61 ?_
        refine gj_topi (fun v13 ev13 => ?_)
        have hC := hC v13 ev13
        refine gj_istore (L' := [(6, .int v13), (5, .int r10), (0, .ref (h 15)), (1, .int v_1), (2, .int v_2), (4, .int v_4)]) X d_Co_fillEndings_62 (by decide) rfl ?_
        refine gj_lconst (v := 0) X d_Co_fillEndings_64 (by decide) ?_
        refine gj_lstore (L' := [(7, .long (0 : Int64)), (6, .int v13), (5, .int r10), (0, .ref (h 15)), (1, .int v_1), (2, .int v_2), (4, .int v_4)]) X d_Co_fillEndings_65 (by decide) rfl ?_
        refine gj_iload X d_Co_fillEndings_67 2 rfl ?_
        refine gj_callSNI (As := [.int r10]) (st := []) X (c_Gl_isNonterminal l dC dI h cI cL σ11 r10 _ hC) ⟨gj_cwN X tw_249 tw_1 tn_395 hd_Gl_isNonterminal rfl rfl ⟨Nat.le_of_ble_eq_true rfl, Nat.le_of_ble_eq_true rfl⟩, X.2.2.2.2.1 _ tw_248, trivial⟩ hA rfl (Nat.le_of_ble_eq_true rfl) ⟨Nat.zero_le _, Nat.zero_le _⟩ d_Co_fillEndings_69 rfl (fun r15 σ14 hC => ?_)
        obtain ⟨hC, hb⟩ := hC
        refine gj_if_eq (tgt := 92) X d_Co_fillEndings_72 (by decide) (fun c0 => ?_) (fun c0 => ?_)
        · have hC := hC.1 c0
          refine gj_iload_n X d_Co_fillEndings_92 rfl 5 rfl ?_
          refine gj_if_le (tgt := 107) X d_Co_fillEndings_93 (by decide) (fun c0 => ?_) (fun c0 => ?_)
          · have hC := hC.1 c0
            refine gj_aload_n X d_Co_fillEndings_107 rfl 3 rfl ?_
            refine gj_get X inX0 15 rfl rfl 3 (by decide) tw_94 rfl rfl d_Co_fillEndings_108 ?_
            refine gj_iload_n X d_Co_fillEndings_111 rfl 4 rfl ?_
            refine gj_iload X d_Co_fillEndings_112 6 rfl ?_
            refine gj_callSI (As := [.int v_1, .int v_4]) (st := [.ref (h 17)]) X (c_Co_endingsAt l dC dI h cI cL σ14 v_1 v_4 _ hC) ⟨gj_cwB X tw_393 tw_5 tw_391 hd_Co_endingsAt rfl rfl ⟨Nat.le_of_ble_eq_true rfl, Nat.le_of_ble_eq_true rfl⟩, X.2.2.2.2.1 _ tw_392⟩ hA rfl (Nat.le_of_ble_eq_true rfl) ⟨Nat.zero_le _, Nat.zero_le _⟩ d_Co_fillEndings_114 rfl (fun r17 σ16 hC => ?_)
            refine gj_iload_n X d_Co_fillEndings_117 rfl 5 rfl ?_
            refine gj_iadd X d_Co_fillEndings_118 ?_
            refine gj_lload X d_Co_fillEndings_119 0 rfl ?_
            refine gj_last (w' := (wG h cI cL) (gs_L σ16 3 (vp_updL (σ16.2.2 3) (r17 + v_2).toNatClampNeg (0 : Int64)))) X 17 1 rfl rfl hC.1 (set_wG_L3 h cI cL σ16 _) d_Co_fillEndings_121 ?_
            refine gj_topw (wof := (wG h cI cL)) (fun σ18 eσ18 => ?_)
            have hC := hC.2 σ18 eσ18
            obtain ⟨v19, ev19⟩ : ∃ y : Int32, y = v_4 + (-1) := ⟨_, rfl⟩
            have hC := hC v19 ev19
            refine gj_iinc (v := v19) (L' := [(4, .int v19), (7, .long (0 : Int64)), (6, .int v13), (5, .int r10), (0, .ref (h 15)), (1, .int v_1), (2, .int v_2)]) X d_Co_fillEndings_122 6 rfl (by rw [ev19]; rfl) (by decide) rfl ?_
            refine gj_goto (tgt := 35) X d_Co_fillEndings_125 (by decide) ?_
            exact gj_loc [4, 5, 6, 0] rfl hC
          · have hC := hC.2 c0
            refine gj_aload_n X d_Co_fillEndings_96 rfl 3 rfl ?_
            refine gj_get X inX0 15 rfl rfl 3 (by decide) tw_94 rfl rfl d_Co_fillEndings_97 ?_
            refine gj_iload X d_Co_fillEndings_100 1 rfl ?_
            refine gj_iconst (v := 1) X d_Co_fillEndings_102 (by decide) ?_
            refine gj_isub X d_Co_fillEndings_103 ?_
            refine gj_lald X 17 1 rfl rfl hC.1 d_Co_fillEndings_104 ?_
            have hC := hC.2
            refine gj_topl (fun v20 ev20 => ?_)
            have hC := hC v20 ev20
            refine gj_lstore (L' := [(7, .long v20), (6, .int v13), (5, .int r10), (0, .ref (h 15)), (1, .int v_1), (2, .int v_2), (4, .int v_4)]) X d_Co_fillEndings_105 (by decide) rfl ?_
            refine gj_aload_n X d_Co_fillEndings_107 rfl 3 rfl ?_
            refine gj_get X inX0 15 rfl rfl 3 (by decide) tw_94 rfl rfl d_Co_fillEndings_108 ?_
            refine gj_iload_n X d_Co_fillEndings_111 rfl 4 rfl ?_
            refine gj_iload X d_Co_fillEndings_112 6 rfl ?_
            refine gj_callSI (As := [.int v_1, .int v_4]) (st := [.ref (h 17)]) X (c_Co_endingsAt l dC dI h cI cL σ14 v_1 v_4 _ hC) ⟨gj_cwB X tw_393 tw_5 tw_391 hd_Co_endingsAt rfl rfl ⟨Nat.le_of_ble_eq_true rfl, Nat.le_of_ble_eq_true rfl⟩, X.2.2.2.2.1 _ tw_392⟩ hA rfl (Nat.le_of_ble_eq_true rfl) ⟨Nat.zero_le _, Nat.zero_le _⟩ d_Co_fillEndings_114 rfl (fun r22 σ21 hC => ?_)
            refine gj_iload_n X d_Co_fillEndings_117 rfl 5 rfl ?_
            refine gj_iadd X d_Co_fillEndings_118 ?_
            refine gj_lload X d_Co_fillEndings_119 0 rfl ?_
            refine gj_last (w' := (wG h cI cL) (gs_L σ21 3 (vp_updL (σ21.2.2 3) (r22 + v_2).toNatClampNeg v20))) X 17 1 rfl rfl hC.1 (set_wG_L3 h cI cL σ21 _) d_Co_fillEndings_121 ?_
            refine gj_topw (wof := (wG h cI cL)) (fun σ23 eσ23 => ?_)
            have hC := hC.2 σ23 eσ23
            obtain ⟨v24, ev24⟩ : ∃ y : Int32, y = v_4 + (-1) := ⟨_, rfl⟩
            have hC := hC v24 ev24
            refine gj_iinc (v := v24) (L' := [(4, .int v24), (7, .long v20), (6, .int v13), (5, .int r10), (0, .ref (h 15)), (1, .int v_1), (2, .int v_2)]) X d_Co_fillEndings_122 6 rfl (by rw [ev24]; rfl) (by decide) rfl ?_
            refine gj_goto (tgt := 35) X d_Co_fillEndings_125 (by decide) ?_
            exact gj_loc [4, 5, 6, 0] rfl hC
        · have hC := hC.2 c0
          refine gj_aload_n X d_Co_fillEndings_75 rfl 3 rfl ?_
          refine gj_iload X d_Co_fillEndings_76 2 rfl ?_
          refine gj_bipush (v := 17) X d_Co_fillEndings_78 (by decide) ?_
          refine gj_imul X d_Co_fillEndings_80 ?_
          refine gj_iload X d_Co_fillEndings_81 1 rfl ?_
          refine gj_iload_n X d_Co_fillEndings_83 rfl 5 rfl ?_
          refine gj_callVL (As := [.int (r10 * (17 : Int32)), .int v13, .int v_2]) (st := []) X (c_Co_pairsw l dC dI h cI cL σ14 (r10 * (17 : Int32)) v13 v_2 _ hC) ⟨gj_cwB X tw_399 tw_5 tw_396 hd_Co_pairs rfl rfl ⟨Nat.le_of_ble_eq_true rfl, Nat.le_of_ble_eq_true rfl⟩, X.2.2.2.2.1 _ tw_398, X.2.2.2.2.1 _ ts_8⟩ 15 rfl rfl hA rfl (Nat.le_of_ble_eq_true rfl) ⟨Nat.zero_le _, Nat.zero_le _⟩ d_Co_fillEndings_84 rfl (fun r26 σ25 hC => ?_)
          refine gj_lstore (L' := [(7, .long r26), (6, .int v13), (5, .int r10), (0, .ref (h 15)), (1, .int v_1), (2, .int v_2), (4, .int v_4)]) X d_Co_fillEndings_87 (by decide) rfl ?_
          refine gj_goto (tgt := 107) X d_Co_fillEndings_89 (by decide) ?_
          refine gj_aload_n X d_Co_fillEndings_107 rfl 3 rfl ?_
          refine gj_get X inX0 15 rfl rfl 3 (by decide) tw_94 rfl rfl d_Co_fillEndings_108 ?_
          refine gj_iload_n X d_Co_fillEndings_111 rfl 4 rfl ?_
          refine gj_iload X d_Co_fillEndings_112 6 rfl ?_
          refine gj_callSI (As := [.int v_1, .int v_4]) (st := [.ref (h 17)]) X (c_Co_endingsAt l dC dI h cI cL σ25 v_1 v_4 _ hC) ⟨gj_cwB X tw_393 tw_5 tw_391 hd_Co_endingsAt rfl rfl ⟨Nat.le_of_ble_eq_true rfl, Nat.le_of_ble_eq_true rfl⟩, X.2.2.2.2.1 _ tw_392⟩ hA rfl (Nat.le_of_ble_eq_true rfl) ⟨Nat.zero_le _, Nat.zero_le _⟩ d_Co_fillEndings_114 rfl (fun r28 σ27 hC => ?_)
          refine gj_iload_n X d_Co_fillEndings_117 rfl 5 rfl ?_
          refine gj_iadd X d_Co_fillEndings_118 ?_
          refine gj_lload X d_Co_fillEndings_119 0 rfl ?_
          refine gj_last (w' := (wG h cI cL) (gs_L σ27 3 (vp_updL (σ27.2.2 3) (r28 + v_2).toNatClampNeg r26))) X 17 1 rfl rfl hC.1 (set_wG_L3 h cI cL σ27 _) d_Co_fillEndings_121 ?_
          refine gj_topw (wof := (wG h cI cL)) (fun σ29 eσ29 => ?_)
          have hC := hC.2 σ29 eσ29
          obtain ⟨v30, ev30⟩ : ∃ y : Int32, y = v_4 + (-1) := ⟨_, rfl⟩
          have hC := hC v30 ev30
          refine gj_iinc (v := v30) (L' := [(4, .int v30), (7, .long r26), (6, .int v13), (5, .int r10), (0, .ref (h 15)), (1, .int v_1), (2, .int v_2)]) X d_Co_fillEndings_122 6 rfl (by rw [ev30]; rfl) (by decide) rfl ?_
          refine gj_goto (tgt := 35) X d_Co_fillEndings_125 (by decide) ?_
          exact gj_loc [4, 5, 6, 0] rfl hC)
  refine gj_aload_n X d_Co_fillEndings_0 rfl 0 rfl ?_
  refine gj_get X inX0 15 rfl rfl 0 (by decide) tw_91 rfl rfl d_Co_fillEndings_1 ?_
  refine gj_iload_n X d_Co_fillEndings_4 rfl 1 rfl ?_
  refine gj_callVI (As := [.int a0]) (st := []) X (c_Gr_sizeOf l dC dI h cI cL σ a0 _ hC) ⟨gj_cwB X tw_280 tw_2 tw_390 hd_Gr_sizeOf rfl rfl ⟨Nat.le_of_ble_eq_true rfl, Nat.le_of_ble_eq_true rfl⟩, X.2.2.2.2.1 _ tw_278, X.2.2.2.2.1 _ tw_279⟩ 2 rfl rfl hA rfl (Nat.le_of_ble_eq_true rfl) ⟨Nat.zero_le _, Nat.zero_le _⟩ d_Co_fillEndings_5 rfl (fun r2 σ1 hC => ?_)
  refine gj_istore_n (L' := [(3, .int r2), (0, .ref (h 15)), (1, .int a0), (2, .int a1)]) X d_Co_fillEndings_8 rfl (by decide) rfl ?_
  refine gj_aload_n X d_Co_fillEndings_9 rfl 1 rfl ?_
  refine gj_get X inX0 15 rfl rfl 3 (by decide) tw_94 rfl rfl d_Co_fillEndings_10 ?_
  refine gj_iload_n X d_Co_fillEndings_13 rfl 2 rfl ?_
  refine gj_iload_n X d_Co_fillEndings_14 rfl 0 rfl ?_
  refine gj_callSI (As := [.int a0, .int r2]) (st := [.ref (h 17)]) X (c_Co_endingsAt l dC dI h cI cL σ1 a0 r2 _ hC) ⟨gj_cwB X tw_393 tw_5 tw_391 hd_Co_endingsAt rfl rfl ⟨Nat.le_of_ble_eq_true rfl, Nat.le_of_ble_eq_true rfl⟩, X.2.2.2.2.1 _ tw_392⟩ hA rfl (Nat.le_of_ble_eq_true rfl) ⟨Nat.zero_le _, Nat.zero_le _⟩ d_Co_fillEndings_15 rfl (fun r4 σ3 hC => ?_)
  refine gj_iload_n X d_Co_fillEndings_18 rfl 3 rfl ?_
  refine gj_iadd X d_Co_fillEndings_19 ?_
  refine gj_iload_n X d_Co_fillEndings_20 rfl 3 rfl ?_
  refine gj_if_ne (tgt := 28) X d_Co_fillEndings_21 (by decide) (fun c0 => ?_) (fun c0 => ?_)
  · have hC := hC.1 c0
    refine gj_lconst (v := 0) X d_Co_fillEndings_28 (by decide) ?_
    refine gj_last (w' := (wG h cI cL) (gs_L σ3 3 (vp_updL (σ3.2.2 3) (r4 + a1).toNatClampNeg (0 : Int64)))) X 17 1 rfl rfl hC.1 (set_wG_L3 h cI cL σ3 _) d_Co_fillEndings_29 ?_
    refine gj_topw (wof := (wG h cI cL)) (fun σ5 eσ5 => ?_)
    have hC := hC.2 σ5 eσ5
    refine gj_iload_n X d_Co_fillEndings_30 rfl 0 rfl ?_
    refine gj_iconst (v := 1) X d_Co_fillEndings_31 (by decide) ?_
    refine gj_isub X d_Co_fillEndings_32 ?_
    refine gj_topi (fun v6 ev6 => ?_)
    have hC := hC v6 ev6
    refine gj_istore (L' := [(4, .int v6), (3, .int r2), (0, .ref (h 15)), (1, .int a0), (2, .int a1)]) X d_Co_fillEndings_33 (by decide) rfl ?_
    exact gj_loc [2, 3, 4, 0] rfl hC
  · have hC := hC.2 c0
    refine gj_lconst (v := 1) X d_Co_fillEndings_24 (by decide) ?_
    refine gj_goto (tgt := 29) X d_Co_fillEndings_25 (by decide) ?_
    refine gj_last (w' := (wG h cI cL) (gs_L σ3 3 (vp_updL (σ3.2.2 3) (r4 + a1).toNatClampNeg (1 : Int64)))) X 17 1 rfl rfl hC.1 (set_wG_L3 h cI cL σ3 _) d_Co_fillEndings_29 ?_
    refine gj_topw (wof := (wG h cI cL)) (fun σ7 eσ7 => ?_)
    have hC := hC.2 σ7 eσ7
    refine gj_iload_n X d_Co_fillEndings_30 rfl 0 rfl ?_
    refine gj_iconst (v := 1) X d_Co_fillEndings_31 (by decide) ?_
    refine gj_isub X d_Co_fillEndings_32 ?_
    refine gj_topi (fun v8 ev8 => ?_)
    have hC := hC v8 ev8
    refine gj_istore (L' := [(4, .int v8), (3, .int r2), (0, .ref (h 15)), (1, .int a0), (2, .int a1)]) X d_Co_fillEndings_33 (by decide) rfl ?_
    exact gj_loc [2, 3, 4, 0] rfl hC
abbrev rm_Co_endingsOfw : Room := { frames := 1, cells := 0, slots := 0, locals := 21 }
set_option maxHeartbeats 4000000 in
set_option maxRecDepth 100000 in
theorem c_Co_endingsOfw (l : Launch) (dC : Nat → ClassId) (dI : Nat → Nat → Nat) (h : Nat → Nat) (cI cL : ClassId) (σ : gs_St) (a0 : Int32) (a1 : Int32) (a2 : Int32) (K : Int64 → gs_St → Prop) (hC : C_Co_endingsOfw a0 a1 a2 σ K) : gj_ML l y_Co_endingsOf (gj_ws y_Co_endingsOf b_Co_endingsOf 4 (some .long)) rm_Co_endingsOfw (dC, dI) gs_C (gs_T cI cL) ((wG h cI cL) σ) (wG h cI cL) [.ref (h 15), .int a0, .int a1, .int a2] K := by
  refine gj_enterL (by decide) (Nat.le_of_ble_eq_true rfl) (fun p e s m args below meth c A X hr hlk hA hnm => ?_)
  change gj_J p l e rm_Co_endingsOfw s m args below meth c 0 0 (MQ below (va_Ql K (gj_at (dC, dI) gs_C (gs_T cI cL) (wG h cI cL) A) A) args s 0 0 A) (dC, dI) gs_C A 4 0 [(0, .ref (h 15)), (1, .int a0), (2, .int a1), (3, .int a2)] [] ((wG h cI cL) σ)
  refine gj_aload_n X d_Co_endingsOf_0 rfl 0 rfl ?_
  refine gj_get X inX0 15 rfl rfl 3 (by decide) tw_94 rfl rfl d_Co_endingsOf_1 ?_
  refine gj_iload_n X d_Co_endingsOf_4 rfl 1 rfl ?_
  refine gj_iload_n X d_Co_endingsOf_5 rfl 2 rfl ?_
  refine gj_callSI (As := [.int a0, .int a1]) (st := [.ref (h 17)]) X (c_Co_endingsAt l dC dI h cI cL σ a0 a1 _ hC) ⟨gj_cwB X tw_393 tw_5 tw_391 hd_Co_endingsAt rfl rfl ⟨Nat.le_of_ble_eq_true rfl, Nat.le_of_ble_eq_true rfl⟩, X.2.2.2.2.1 _ tw_392⟩ hA rfl (Nat.le_of_ble_eq_true rfl) ⟨Nat.zero_le _, Nat.zero_le _⟩ d_Co_endingsOf_6 rfl (fun r2 σ1 hC => ?_)
  refine gj_iload_n X d_Co_endingsOf_9 rfl 3 rfl ?_
  refine gj_iadd X d_Co_endingsOf_10 ?_
  refine gj_lald X 17 1 rfl rfl hC.1 d_Co_endingsOf_11 ?_
  have hC := hC.2
  exact gj_lret X hr hlk hC d_Co_endingsOf_12
abbrev rm_Co_addTreesw : Room := { frames := 2, cells := 0, slots := 0, locals := 38 }
set_option maxHeartbeats 4000000 in
set_option maxRecDepth 100000 in
theorem c_Co_addTreesw (l : Launch) (dC : Nat → ClassId) (dI : Nat → Nat → Nat) (h : Nat → Nat) (cI cL : ClassId) (σ : gs_St) (a0 : Int32) (a1 : Int32) (a2 : Int64) (K : gs_St → Prop) (hC : C_Co_addTreesw a0 a1 a2 σ K) : gj_MV 0 0 l y_Co_addTrees (gj_ws y_Co_addTrees b_Co_addTrees 6 (none)) rm_Co_addTreesw (dC, dI) gs_C (gs_T cI cL) ((wG h cI cL) σ) (wG h cI cL) [.ref (h 15), .int a0, .int a1, .long a2] K := by
  refine gj_enterV (by decide) (Nat.le_of_ble_eq_true rfl) (fun p e s m args below meth c A X hr hlk hA hnm => ?_)
  change gj_J p l e rm_Co_addTreesw s m args below meth c 0 0 (MQ below (va_Qv K (gj_at (dC, dI) gs_C (gs_T cI cL) (wG h cI cL) A) A) args s 0 0 A) (dC, dI) gs_C A 6 0 [(0, .ref (h 15)), (1, .int a0), (2, .int a1), (3, .long a2)] [] ((wG h cI cL) σ)
  refine gj_iload_n X d_Co_addTrees_0 rfl 1 rfl ?_
  refine gj_bipush (v := 17) X d_Co_addTrees_1 (by decide) ?_
  refine gj_imul X d_Co_addTrees_3 ?_
  refine gj_iload_n X d_Co_addTrees_4 rfl 2 rfl ?_
  refine gj_iadd X d_Co_addTrees_5 ?_
  refine gj_topi (fun v1 ev1 => ?_)
  have hC := hC v1 ev1
  refine gj_istore (L' := [(5, .int v1), (0, .ref (h 15)), (1, .int a0), (2, .int a1), (3, .long a2)]) X d_Co_addTrees_6 (by decide) rfl ?_
  refine gj_aload_n X d_Co_addTrees_8 rfl 1 rfl ?_
  refine gj_get X inX0 15 rfl rfl 2 (by decide) tw_93 rfl rfl d_Co_addTrees_9 ?_
  refine gj_iload X d_Co_addTrees_12 0 rfl ?_
  refine gj_aload_n X d_Co_addTrees_14 rfl 1 rfl ?_
  refine gj_get X inX0 15 rfl rfl 2 (by decide) tw_93 rfl rfl d_Co_addTrees_15 ?_
  refine gj_iload X d_Co_addTrees_18 0 rfl ?_
  refine gj_lald X 16 1 rfl rfl hC.1 d_Co_addTrees_20 ?_
  have hC := hC.2
  refine gj_lload_n X d_Co_addTrees_21 rfl 4 rfl ?_
  refine gj_callSL (As := [.long (σ.2.2 2 v1.toNatClampNeg), .long a2]) (st := [.int v1, .ref (h 16)]) X (c_Co_plus l dC dI h cI cL σ (σ.2.2 2 v1.toNatClampNeg) a2 _ hC) ⟨gj_cwB X tw_407 tw_5 tw_405 hd_Co_plus rfl rfl ⟨Nat.le_of_ble_eq_true rfl, Nat.le_of_ble_eq_true rfl⟩, X.2.2.2.2.1 _ tw_406⟩ hA rfl (Nat.le_of_ble_eq_true rfl) ⟨Nat.zero_le _, Nat.zero_le _⟩ d_Co_addTrees_22 rfl (fun r3 σ2 hC => ?_)
  refine gj_last (w' := (wG h cI cL) (gs_L σ2 2 (vp_updL (σ2.2.2 2) v1.toNatClampNeg r3))) X 16 1 rfl rfl hC.1 (set_wG_L2 h cI cL σ2 _) d_Co_addTrees_25 ?_
  refine gj_topw (wof := (wG h cI cL)) (fun σ4 eσ4 => ?_)
  have hC := hC.2 σ4 eσ4
  exact gj_vret X hr hlk hC d_Co_addTrees_26
abbrev rm_Co_countLengthw : Room := { frames := 4, cells := 0, slots := 0, locals := 94 }
set_option maxHeartbeats 4000000 in
set_option maxRecDepth 100000 in
theorem c_Co_countLengthw (l : Launch) (dC : Nat → ClassId) (dI : Nat → Nat → Nat) (h : Nat → Nat) (cI cL : ClassId) (σ : gs_St) (a0 : Int32) (K : gs_St → Prop) (hC : C_Co_countLengthw a0 σ K) : gj_MV 0 0 l y_Co_countLength (gj_ws y_Co_countLength b_Co_countLength 5 (none)) rm_Co_countLengthw (dC, dI) gs_C (gs_T cI cL) ((wG h cI cL) σ) (wG h cI cL) [.ref (h 15), .int a0] K := by
  refine gj_enterV (by decide) (Nat.le_of_ble_eq_true rfl) (fun p e s m args below meth c A X hr hlk hA hnm => ?_)
  change gj_J p l e rm_Co_countLengthw s m args below meth c 0 0 (MQ below (va_Qv K (gj_at (dC, dI) gs_C (gs_T cI cL) (wG h cI cL) A) A) args s 0 0 A) (dC, dI) gs_C A 5 0 [(0, .ref (h 15)), (1, .int a0)] [] ((wG h cI cL) σ)
  have hC := hC
    (fun (v_1 : Int32) (v_2 : Int32) (σ : gs_St) => gj_J p l e rm_Co_countLengthw s m args below meth c 0 0 (MQ below (va_Qv K (gj_at (dC, dI) gs_C (gs_T cI cL) (wG h cI cL) A) A) args s 0 0 A) (dC, dI) gs_C A 5 2 [(0, .ref (h 15)), (1, .int v_1), (2, .int v_2)] [] ((wG h cI cL) σ))
    (fun (v_1 : Int32) (v_2 : Int32) (σ : gs_St) => gj_J p l e rm_Co_countLengthw s m args below meth c 0 0 (MQ below (va_Qv K (gj_at (dC, dI) gs_C (gs_T cI cL) (wG h cI cL) A) A) args s 0 0 A) (dC, dI) gs_C A 5 28 [(0, .ref (h 15)), (1, .int v_1), (2, .int v_2)] [] ((wG h cI cL) σ))
    (fun (v_1 : Int32) (v_2 : Int32) (v_3 : Int32) (v_4 : Int32) (σ : gs_St) => gj_J p l e rm_Co_countLengthw s m args below meth c 0 0 (MQ below (va_Qv K (gj_at (dC, dI) gs_C (gs_T cI cL) (wG h cI cL) A) A) args s 0 0 A) (dC, dI) gs_C A 5 46 [(0, .ref (h 15)), (1, .int v_1), (2, .int v_2), (3, .int v_3), (4, .int v_4)] [] ((wG h cI cL) σ))
    (fun (v_1 : Int32) (v_2 : Int32) (σ : gs_St) => gj_J p l e rm_Co_countLengthw s m args below meth c 0 0 (MQ below (va_Qv K (gj_at (dC, dI) gs_C (gs_T cI cL) (wG h cI cL) A) A) args s 0 0 A) (dC, dI) gs_C A 5 115 [(0, .ref (h 15)), (1, .int v_1), (2, .int v_2)] [] ((wG h cI cL) σ))
    (by
      intro v_1 v_2 σ hC
      refine gj_iload_n X d_Co_countLength_2 rfl 2 rfl ?_
      refine gj_bipush (v := 8) X d_Co_countLength_3 (by decide) ?_
      refine gj_icmp_ge (tgt := 26) X d_Co_countLength_5 (by decide) (fun c0 => ?_) (fun c0 => ?_)
      · have hC := hC.1 c0
        refine gj_iconst (v := 0) X d_Co_countLength_26 (by decide) ?_
        refine gj_istore_n (L' := [(2, .int (0 : Int32)), (0, .ref (h 15)), (1, .int v_1)]) X d_Co_countLength_27 rfl (by decide) rfl ?_
        exact gj_loc [1, 2, 0] rfl hC
      · have hC := hC.2 c0
        refine gj_aload_n X d_Co_countLength_8 rfl 0 rfl ?_
        refine gj_get X inX0 15 rfl rfl 2 (by decide) tw_93 rfl rfl d_Co_countLength_9 ?_
        refine gj_iload_n X d_Co_countLength_12 rfl 2 rfl ?_
        refine gj_bipush (v := 17) X d_Co_countLength_13 (by decide) ?_
        refine gj_imul X d_Co_countLength_15 ?_
        refine gj_iload_n X d_Co_countLength_16 rfl 1 rfl ?_
        refine gj_iadd X d_Co_countLength_17 ?_
        refine gj_lconst (v := 0) X d_Co_countLength_18 (by decide) ?_
        refine gj_last (w' := (wG h cI cL) (gs_L σ 2 (vp_updL (σ.2.2 2) ((v_2 * (17 : Int32)) + v_1).toNatClampNeg (0 : Int64)))) X 16 1 rfl rfl hC.1 (set_wG_L2 h cI cL σ _) d_Co_countLength_19 ?_
        refine gj_topw (wof := (wG h cI cL)) (fun σ1 eσ1 => ?_)
        have hC := hC.2 σ1 eσ1
        obtain ⟨v2, ev2⟩ : ∃ y : Int32, y = v_2 + 1 := ⟨_, rfl⟩
        have hC := hC v2 ev2
        refine gj_iinc (v := v2) (L' := [(2, .int v2), (0, .ref (h 15)), (1, .int v_1)]) X d_Co_countLength_20 2 rfl (by rw [ev2]; rfl) (by decide) rfl ?_
        refine gj_goto (tgt := 2) X d_Co_countLength_23 (by decide) ?_
        exact gj_loc [1, 2, 0] rfl hC)
    (by
      intro v_1 v_2 σ hC
      refine gj_iload_n X d_Co_countLength_28 rfl 2 rfl ?_
      refine gj_bipush (v := 8) X d_Co_countLength_29 (by decide) ?_
      refine gj_icmp_ge (tgt := 113) X d_Co_countLength_31 (by decide) (fun c0 => ?_) (fun c0 => ?_)
      · have hC := hC.1 c0
        refine gj_iconst (v := 0) X d_Co_countLength_113 (by decide) ?_
        refine gj_istore_n (L' := [(2, .int (0 : Int32)), (0, .ref (h 15)), (1, .int v_1)]) X d_Co_countLength_114 rfl (by decide) rfl ?_
        exact gj_loc [1, 2, 0] rfl hC
      · have hC := hC.2 c0
        refine gj_aload_n X d_Co_countLength_34 rfl 0 rfl ?_
        refine gj_get X inX0 15 rfl rfl 1 (by decide) tw_92 rfl rfl d_Co_countLength_35 ?_
        refine gj_iload_n X d_Co_countLength_38 rfl 2 rfl ?_
        refine gj_callVI (As := [.int v_2]) (st := []) X (c_Ld_inOrder l dC dI h cI cL σ v_2 _ hC) ⟨gj_cwB X tw_384 tw_4 tw_381 hd_Ld_inOrder rfl rfl ⟨Nat.le_of_ble_eq_true rfl, Nat.le_of_ble_eq_true rfl⟩, X.2.2.2.2.1 _ tw_382, X.2.2.2.2.1 _ tw_383⟩ 9 rfl rfl hA rfl (Nat.le_of_ble_eq_true rfl) ⟨Nat.zero_le _, Nat.zero_le _⟩ d_Co_countLength_39 rfl (fun r4 σ3 hC => ?_)
        refine gj_istore_n (L' := [(3, .int r4), (0, .ref (h 15)), (1, .int v_1), (2, .int v_2)]) X d_Co_countLength_42 rfl (by decide) rfl ?_
        refine gj_iconst (v := 0) X d_Co_countLength_43 (by decide) ?_
        refine gj_istore (L' := [(4, .int (0 : Int32)), (3, .int r4), (0, .ref (h 15)), (1, .int v_1), (2, .int v_2)]) X d_Co_countLength_44 (by decide) rfl ?_
        exact gj_loc [2, 3, 4, 1, 0] rfl hC)
    (by
      intro v_1 v_2 v_3 v_4 σ hC
      refine gj_iload X d_Co_countLength_46 4 rfl ?_
      refine gj_aload_n X d_Co_countLength_48 rfl 0 rfl ?_
      refine gj_get X inX0 15 rfl rfl 0 (by decide) tw_91 rfl rfl d_Co_countLength_49 ?_
      refine gj_getN X inX2 2 rfl rfl 3 (by decide) tn_36 rfl rfl d_Co_countLength_52 ?_
      refine gj_icmp_ge (tgt := 107) X d_Co_countLength_55 (by decide) (fun c0 => ?_) (fun c0 => ?_)
      · have hC := hC.1 c0
        obtain ⟨v5, ev5⟩ : ∃ y : Int32, y = v_2 + 1 := ⟨_, rfl⟩
        have hC := hC v5 ev5
        refine gj_iinc (v := v5) (L' := [(2, .int v5), (0, .ref (h 15)), (1, .int v_1), (3, .int v_3), (4, .int v_4)]) X d_Co_countLength_107 2 rfl (by rw [ev5]; rfl) (by decide) rfl ?_
        refine gj_goto (tgt := 28) X d_Co_countLength_110 (by decide) ?_
        exact gj_loc [1, 2, 0] rfl hC
      · have hC := hC.2 c0
        refine gj_iload X d_Co_countLength_58 4 rfl ?_
        refine gj_aload_n X d_Co_countLength_60 rfl 0 rfl ?_
        refine gj_get X inX0 15 rfl rfl 4 (by decide) tw_95 rfl rfl d_Co_countLength_61 ?_
        refine gj_icmp_eq (tgt := 101) X d_Co_countLength_64 (by decide) (fun c0 => ?_) (fun c0 => ?_)
        · have hC := hC.1 c0
          obtain ⟨v6, ev6⟩ : ∃ y : Int32, y = v_4 + 1 := ⟨_, rfl⟩
          have hC := hC v6 ev6
          refine gj_iinc (v := v6) (L' := [(4, .int v6), (0, .ref (h 15)), (1, .int v_1), (2, .int v_2), (3, .int v_3)]) X d_Co_countLength_101 4 rfl (by rw [ev6]; rfl) (by decide) rfl ?_
          refine gj_goto (tgt := 46) X d_Co_countLength_104 (by decide) ?_
          exact gj_loc [1, 2, 3, 4, 0] rfl hC
        · have hC := hC.2 c0
          refine gj_aload_n X d_Co_countLength_67 rfl 0 rfl ?_
          refine gj_get X inX0 15 rfl rfl 0 (by decide) tw_91 rfl rfl d_Co_countLength_68 ?_
          refine gj_iload X d_Co_countLength_71 4 rfl ?_
          refine gj_callVI (As := [.int v_4]) (st := []) X (c_Gr_leftOf l dC dI h cI cL σ v_4 _ hC) ⟨gj_cwB X tw_284 tw_2 tw_385 hd_Gr_leftOf rfl rfl ⟨Nat.le_of_ble_eq_true rfl, Nat.le_of_ble_eq_true rfl⟩, X.2.2.2.2.1 _ tw_282, X.2.2.2.2.1 _ tw_283⟩ 2 rfl rfl hA rfl (Nat.le_of_ble_eq_true rfl) ⟨Nat.zero_le _, Nat.zero_le _⟩ d_Co_countLength_73 rfl (fun r8 σ7 hC => ?_)
          refine gj_iload_n X d_Co_countLength_76 rfl 3 rfl ?_
          refine gj_icmp_ne (tgt := 101) X d_Co_countLength_77 (by decide) (fun c0 => ?_) (fun c0 => ?_)
          · have hC := hC.1 c0
            obtain ⟨v9, ev9⟩ : ∃ y : Int32, y = v_4 + 1 := ⟨_, rfl⟩
            have hC := hC v9 ev9
            refine gj_iinc (v := v9) (L' := [(4, .int v9), (0, .ref (h 15)), (1, .int v_1), (2, .int v_2), (3, .int v_3)]) X d_Co_countLength_101 4 rfl (by rw [ev9]; rfl) (by decide) rfl ?_
            refine gj_goto (tgt := 46) X d_Co_countLength_104 (by decide) ?_
            exact gj_loc [1, 2, 3, 4, 0] rfl hC
          · have hC := hC.2 c0
            refine gj_aload_n X d_Co_countLength_80 rfl 0 rfl ?_
            refine gj_iload X d_Co_countLength_81 4 rfl ?_
            refine gj_iload_n X d_Co_countLength_83 rfl 1 rfl ?_
            refine gj_callVV (As := [.int v_4, .int v_1]) (st := []) X (c_Co_fillEndingsw l dC dI h cI cL σ7 v_4 v_1 _ hC) ⟨gj_cwB X tw_389 tw_5 tw_386 hd_Co_fillEndings rfl rfl ⟨Nat.le_of_ble_eq_true rfl, Nat.le_of_ble_eq_true rfl⟩, X.2.2.2.2.1 _ tw_388, X.2.2.2.2.1 _ ts_7⟩ 15 rfl rfl hA rfl (Nat.le_of_ble_eq_true rfl) ⟨Nat.zero_le _, Nat.zero_le _⟩ d_Co_countLength_84 rfl (fun σ10 hC => ?_)
            refine gj_aload_n X d_Co_countLength_87 rfl 0 rfl ?_
            refine gj_iload_n X d_Co_countLength_88 rfl 3 rfl ?_
            refine gj_iload_n X d_Co_countLength_89 rfl 1 rfl ?_
            refine gj_aload_n X d_Co_countLength_90 rfl 0 rfl ?_
            refine gj_iload X d_Co_countLength_91 4 rfl ?_
            refine gj_iconst (v := 0) X d_Co_countLength_93 (by decide) ?_
            refine gj_iload_n X d_Co_countLength_94 rfl 1 rfl ?_
            refine gj_callVL (As := [.int v_4, .int (0 : Int32), .int v_1]) (st := [.int v_1, .int v_3, .ref (h 15)]) X (c_Co_endingsOfw l dC dI h cI cL σ10 v_4 (0 : Int32) v_1 _ hC) ⟨gj_cwB X tw_414 tw_5 tw_411 hd_Co_endingsOf rfl rfl ⟨Nat.le_of_ble_eq_true rfl, Nat.le_of_ble_eq_true rfl⟩, X.2.2.2.2.1 _ tw_412, X.2.2.2.2.1 _ tw_413⟩ 15 rfl rfl hA rfl (Nat.le_of_ble_eq_true rfl) ⟨Nat.zero_le _, Nat.zero_le _⟩ d_Co_countLength_95 rfl (fun r12 σ11 hC => ?_)
            refine gj_callVV (As := [.int v_3, .int v_1, .long r12]) (st := []) X (c_Co_addTreesw l dC dI h cI cL σ11 v_3 v_1 r12 _ hC) ⟨gj_cwB X tw_418 tw_5 tw_415 hd_Co_addTrees rfl rfl ⟨Nat.le_of_ble_eq_true rfl, Nat.le_of_ble_eq_true rfl⟩, X.2.2.2.2.1 _ tw_417, X.2.2.2.2.1 _ ts_9⟩ 15 rfl rfl hA rfl (Nat.le_of_ble_eq_true rfl) ⟨Nat.zero_le _, Nat.zero_le _⟩ d_Co_countLength_98 rfl (fun σ13 hC => ?_)
            obtain ⟨v14, ev14⟩ : ∃ y : Int32, y = v_4 + 1 := ⟨_, rfl⟩
            have hC := hC v14 ev14
            refine gj_iinc (v := v14) (L' := [(4, .int v14), (0, .ref (h 15)), (1, .int v_1), (2, .int v_2), (3, .int v_3)]) X d_Co_countLength_101 4 rfl (by rw [ev14]; rfl) (by decide) rfl ?_
            refine gj_goto (tgt := 46) X d_Co_countLength_104 (by decide) ?_
            exact gj_loc [1, 2, 3, 4, 0] rfl hC)
    (by
      intro v_1 v_2 σ hC
      refine gj_iload_n X d_Co_countLength_115 rfl 2 rfl ?_
      refine gj_aload_n X d_Co_countLength_116 rfl 0 rfl ?_
      refine gj_get X inX0 15 rfl rfl 0 (by decide) tw_91 rfl rfl d_Co_countLength_117 ?_
      refine gj_getN X inX2 2 rfl rfl 3 (by decide) tn_36 rfl rfl d_Co_countLength_120 ?_
      refine gj_icmp_ge (tgt := 146) X d_Co_countLength_123 (by decide) (fun c0 => ?_) (fun c0 => ?_)
      · have hC := hC.1 c0
        exact gj_vret X hr hlk hC d_Co_countLength_146
      · have hC := hC.2 c0
        refine gj_iload_n X d_Co_countLength_126 rfl 2 rfl ?_
        refine gj_aload_n X d_Co_countLength_127 rfl 0 rfl ?_
        refine gj_get X inX0 15 rfl rfl 4 (by decide) tw_95 rfl rfl d_Co_countLength_128 ?_
        refine gj_icmp_eq (tgt := 140) X d_Co_countLength_131 (by decide) (fun c0 => ?_) (fun c0 => ?_)
        · have hC := hC.1 c0
          obtain ⟨v15, ev15⟩ : ∃ y : Int32, y = v_2 + 1 := ⟨_, rfl⟩
          have hC := hC v15 ev15
          refine gj_iinc (v := v15) (L' := [(2, .int v15), (0, .ref (h 15)), (1, .int v_1)]) X d_Co_countLength_140 2 rfl (by rw [ev15]; rfl) (by decide) rfl ?_
          refine gj_goto (tgt := 115) X d_Co_countLength_143 (by decide) ?_
          exact gj_loc [1, 2, 0] rfl hC
        · have hC := hC.2 c0
          refine gj_aload_n X d_Co_countLength_134 rfl 0 rfl ?_
          refine gj_iload_n X d_Co_countLength_135 rfl 2 rfl ?_
          refine gj_iload_n X d_Co_countLength_136 rfl 1 rfl ?_
          refine gj_callVV (As := [.int v_2, .int v_1]) (st := []) X (c_Co_fillEndingsw l dC dI h cI cL σ v_2 v_1 _ hC) ⟨gj_cwB X tw_389 tw_5 tw_386 hd_Co_fillEndings rfl rfl ⟨Nat.le_of_ble_eq_true rfl, Nat.le_of_ble_eq_true rfl⟩, X.2.2.2.2.1 _ tw_388, X.2.2.2.2.1 _ ts_7⟩ 15 rfl rfl hA rfl (Nat.le_of_ble_eq_true rfl) ⟨Nat.zero_le _, Nat.zero_le _⟩ d_Co_countLength_137 rfl (fun σ16 hC => ?_)
          obtain ⟨v17, ev17⟩ : ∃ y : Int32, y = v_2 + 1 := ⟨_, rfl⟩
          have hC := hC v17 ev17
          refine gj_iinc (v := v17) (L' := [(2, .int v17), (0, .ref (h 15)), (1, .int v_1)]) X d_Co_countLength_140 2 rfl (by rw [ev17]; rfl) (by decide) rfl ?_
          refine gj_goto (tgt := 115) X d_Co_countLength_143 (by decide) ?_
          exact gj_loc [1, 2, 0] rfl hC)
  refine gj_iconst (v := 0) X d_Co_countLength_0 (by decide) ?_
  refine gj_istore_n (L' := [(2, .int (0 : Int32)), (0, .ref (h 15)), (1, .int a0)]) X d_Co_countLength_1 rfl (by decide) rfl ?_
  exact gj_loc [1, 2, 0] rfl hC
abbrev rm_Co_treesOfw : Room := { frames := 5, cells := 0, slots := 0, locals := 118 }
set_option maxHeartbeats 4000000 in
set_option maxRecDepth 100000 in
theorem c_Co_treesOfw (l : Launch) (dC : Nat → ClassId) (dI : Nat → Nat → Nat) (h : Nat → Nat) (cI cL : ClassId) (σ : gs_St) (a0 : Int32) (a1 : Int32) (K : Int64 → gs_St → Prop) (hC : C_Co_treesOfw a0 a1 σ K) : gj_ML l y_Co_treesOf (gj_ws y_Co_treesOf b_Co_treesOf 4 (some .long)) rm_Co_treesOfw (dC, dI) gs_C (gs_T cI cL) ((wG h cI cL) σ) (wG h cI cL) [.ref (h 15), .int a0, .int a1] K := by
  refine gj_enterL (by decide) (Nat.le_of_ble_eq_true rfl) (fun p e s m args below meth c A X hr hlk hA hnm => ?_)
  change gj_J p l e rm_Co_treesOfw s m args below meth c 0 0 (MQ below (va_Ql K (gj_at (dC, dI) gs_C (gs_T cI cL) (wG h cI cL) A) A) args s 0 0 A) (dC, dI) gs_C A 4 0 [(0, .ref (h 15)), (1, .int a0), (2, .int a1)] [] ((wG h cI cL) σ)
  have hC := hC
    (fun (v_1 : Int32) (v_2 : Int32) (v_3 : Int32) (σ : gs_St) => gj_J p l e rm_Co_treesOfw s m args below meth c 0 0 (MQ below (va_Ql K (gj_at (dC, dI) gs_C (gs_T cI cL) (wG h cI cL) A) A) args s 0 0 A) (dC, dI) gs_C A 4 5 [(0, .ref (h 15)), (1, .int v_1), (2, .int v_2), (3, .int v_3)] [] ((wG h cI cL) σ))
    (by
      intro v_1 v_2 v_3 σ hC
      refine gj_iload_n X d_Co_treesOf_5 rfl 3 rfl ?_
      refine gj_iload_n X d_Co_treesOf_6 rfl 2 rfl ?_
      refine gj_icmp_gt (tgt := 28) X d_Co_treesOf_7 (by decide) (fun c0 => ?_) (fun c0 => ?_)
      · have hC := hC.1 c0
        refine gj_aload_n X d_Co_treesOf_28 rfl 0 rfl ?_
        refine gj_get X inX0 15 rfl rfl 2 (by decide) tw_93 rfl rfl d_Co_treesOf_29 ?_
        refine gj_iload_n X d_Co_treesOf_32 rfl 1 rfl ?_
        refine gj_bipush (v := 17) X d_Co_treesOf_33 (by decide) ?_
        refine gj_imul X d_Co_treesOf_35 ?_
        refine gj_iload_n X d_Co_treesOf_36 rfl 2 rfl ?_
        refine gj_iadd X d_Co_treesOf_37 ?_
        refine gj_lald X 16 1 rfl rfl hC.1 d_Co_treesOf_38 ?_
        have hC := hC.2
        exact gj_lret X hr hlk hC d_Co_treesOf_39
      · have hC := hC.2 c0
        refine gj_aload_n X d_Co_treesOf_10 rfl 0 rfl ?_
        refine gj_iload_n X d_Co_treesOf_11 rfl 3 rfl ?_
        refine gj_callVV (As := [.int v_3]) (st := []) X (c_Co_countLengthw l dC dI h cI cL σ v_3 _ hC) ⟨gj_cwB X tw_380 tw_5 tw_377 hd_Co_countLength rfl rfl ⟨Nat.le_of_ble_eq_true rfl, Nat.le_of_ble_eq_true rfl⟩, X.2.2.2.2.1 _ tw_379, X.2.2.2.2.1 _ ts_6⟩ 15 rfl rfl hA rfl (Nat.le_of_ble_eq_true rfl) ⟨Nat.zero_le _, Nat.zero_le _⟩ d_Co_treesOf_12 rfl (fun σ2 hC => ?_)
        refine gj_aload_n X d_Co_treesOf_15 rfl 0 rfl ?_
        refine gj_iload_n X d_Co_treesOf_16 rfl 3 rfl ?_
        refine gj_iconst (v := 1) X d_Co_treesOf_17 (by decide) ?_
        refine gj_iadd X d_Co_treesOf_18 ?_
        refine gj_put (w' := (wG h cI cL) (gs_I σ2 7 (v_3 + (1 : Int32)))) X inX0 tyX0 tyX0_ok nmX0 15 rfl rfl 5 (by decide) tw_96 rfl rfl (tyX0_ok 5 (by decide)) rfl rfl (Nat.le_of_ble_eq_true rfl) (set_wG_I7 h cI cL σ2 _) d_Co_treesOf_19 ?_
        refine gj_topw (wof := (wG h cI cL)) (fun σ3 eσ3 => ?_)
        have hC := hC σ3 eσ3
        obtain ⟨v4, ev4⟩ : ∃ y : Int32, y = v_3 + 1 := ⟨_, rfl⟩
        have hC := hC v4 ev4
        refine gj_iinc (v := v4) (L' := [(3, .int v4), (0, .ref (h 15)), (1, .int v_1), (2, .int v_2)]) X d_Co_treesOf_22 3 rfl (by rw [ev4]; rfl) (by decide) rfl ?_
        refine gj_goto (tgt := 5) X d_Co_treesOf_25 (by decide) ?_
        exact gj_loc [1, 2, 3, 0] rfl hC)
  refine gj_aload_n X d_Co_treesOf_0 rfl 0 rfl ?_
  refine gj_get X inX0 15 rfl rfl 5 (by decide) tw_96 rfl rfl d_Co_treesOf_1 ?_
  refine gj_topi (fun v1 ev1 => ?_)
  have hC := hC v1 ev1
  refine gj_istore_n (L' := [(3, .int v1), (0, .ref (h 15)), (1, .int a0), (2, .int a1)]) X d_Co_treesOf_4 rfl (by decide) rfl ?_
  exact gj_loc [1, 2, 3, 0] rfl hC
end
section
abbrev rm_Gl_treesWith : Room := { frames := 6, cells := 0, slots := 0, locals := 141 }
set_option maxHeartbeats 4000000 in
set_option maxRecDepth 100000 in
theorem c_Gl_treesWith (l : Launch) (dC : Nat → ClassId) (dI : Nat → Nat → Nat) (h : Nat → Nat) (cI cL : ClassId) (σ : gs_St) (a0 : Int32) (a1 : Int32) (K : Int64 → gs_St → Prop) (hC : C_Gl_treesWith a0 a1 σ K) : gj_ML l y_Gl_treesWith (gj_ws y_Gl_treesWith b_Gl_treesWith 5 (some .long)) rm_Gl_treesWith (dC, dI) gs_C (gs_T cI cL) ((wG h cI cL) σ) (wG h cI cL) [.ref (h 0), .int a0, .int a1] K := by
  refine gj_enterL (by decide) (Nat.le_of_ble_eq_true rfl) (fun p e s m args below meth c A X hr hlk hA hnm => ?_)
  change gj_J p l e rm_Gl_treesWith s m args below meth c 0 0 (MQ below (va_Ql K (gj_at (dC, dI) gs_C (gs_T cI cL) (wG h cI cL) A) A) args s 0 0 A) (dC, dI) gs_C A 5 0 [(0, .ref (h 0)), (1, .int a0), (2, .int a1)] [] ((wG h cI cL) σ)
  refine gj_aload_n X d_Gl_treesWith_0 rfl 0 rfl ?_
  refine gj_get X inX8 0 rfl rfl 2 (by decide) tw_210 rfl rfl d_Gl_treesWith_1 ?_
  refine gj_iload_n X d_Gl_treesWith_4 rfl 1 rfl ?_
  refine gj_callVI (As := [.int a0]) (st := []) X (c_Gr_has l dC dI h cI cL σ a0 _ hC) ⟨gj_cwB X tw_264 tw_2 tw_261 hd_Gr_has rfl rfl ⟨Nat.le_of_ble_eq_true rfl, Nat.le_of_ble_eq_true rfl⟩, X.2.2.2.2.1 _ tw_262, X.2.2.2.2.1 _ tw_263⟩ 2 rfl rfl hA rfl (Nat.le_of_ble_eq_true rfl) ⟨Nat.zero_le _, Nat.zero_le _⟩ d_Gl_treesWith_5 rfl (fun r2 σ1 hC => ?_)
  obtain ⟨hC, hb⟩ := hC
  refine gj_if_eq (tgt := 19) X d_Gl_treesWith_8 (by decide) (fun c0 => ?_) (fun c0 => ?_)
  · have hC := hC.1 c0
    refine gj_ldc2 (v := -1) X tw_372 d_Gl_treesWith_19 ?_
    exact gj_lret X hr hlk hC d_Gl_treesWith_22
  · have hC := hC.2 c0
    refine gj_aload_n X d_Gl_treesWith_11 rfl 0 rfl ?_
    refine gj_iload_n X d_Gl_treesWith_12 rfl 2 rfl ?_
    refine gj_callVI (As := [.int a1]) (st := []) X (c_Gl_isCounted l dC dI h cI cL σ1 a1 _ hC) ⟨gj_cwB X tw_371 tw_1 tw_368 hd_Gl_isCounted rfl rfl ⟨Nat.le_of_ble_eq_true rfl, Nat.le_of_ble_eq_true rfl⟩, X.2.2.2.2.1 _ tw_370, X.2.2.2.2.1 _ ts_5⟩ 0 rfl rfl hA rfl (Nat.le_of_ble_eq_true rfl) ⟨Nat.zero_le _, Nat.zero_le _⟩ d_Gl_treesWith_13 rfl (fun r4 σ3 hC => ?_)
    obtain ⟨hC, hb⟩ := hC
    refine gj_if_ne (tgt := 23) X d_Gl_treesWith_16 (by decide) (fun c0 => ?_) (fun c0 => ?_)
    · have hC := hC.1 c0
      refine gj_aload_n X d_Gl_treesWith_23 rfl 0 rfl ?_
      refine gj_get X inX8 0 rfl rfl 5 (by decide) tw_213 rfl rfl d_Gl_treesWith_24 ?_
      refine gj_iconst (v := 0) X d_Gl_treesWith_27 (by decide) ?_
      refine gj_iload_n X d_Gl_treesWith_28 rfl 2 rfl ?_
      refine gj_callVL (As := [.int (0 : Int32), .int a1]) (st := []) X (c_Co_treesOf l dC dI h cI cL σ3 (0 : Int32) a1 _ hC) ⟨gj_cwB X tw_376 tw_5 tw_373 hd_Co_treesOf rfl rfl ⟨Nat.le_of_ble_eq_true rfl, Nat.le_of_ble_eq_true rfl⟩, X.2.2.2.2.1 _ tw_374, X.2.2.2.2.1 _ tw_375⟩ 12 rfl rfl hA rfl (Nat.le_of_ble_eq_true rfl) ⟨Nat.zero_le _, Nat.zero_le _⟩ d_Gl_treesWith_29 rfl (fun r6 σ5 hC => ?_)
      refine gj_lstore_n (L' := [(3, .long r6), (0, .ref (h 0)), (1, .int a0), (2, .int a1)]) X d_Gl_treesWith_32 rfl (by decide) rfl ?_
      refine gj_lload_n X d_Gl_treesWith_33 rfl 0 rfl ?_
      refine gj_ldc2 (v := 1000000000000000000) X tw_419 d_Gl_treesWith_34 ?_
      refine gj_lcmp_le (tgt := 45) X d_Gl_treesWith_37 d_Gl_treesWith_38 (by decide) (fun c0 => ?_) (fun c0 => ?_)
      · have hC := hC.1 c0
        refine gj_aload_n X d_Gl_treesWith_45 rfl 1 rfl ?_
        refine gj_get X inX8 0 rfl rfl 6 (by decide) tw_214 rfl rfl d_Gl_treesWith_46 ?_
        refine gj_iload_n X d_Gl_treesWith_49 rfl 2 rfl ?_
        refine gj_callVV (As := [.int a0]) (st := []) X (c_Co_leaveOutw l dC dI h cI cL σ5 a0 _ hC) ⟨gj_cwB X tw_428 tw_5 tw_425 hd_Co_leaveOut rfl rfl ⟨Nat.le_of_ble_eq_true rfl, Nat.le_of_ble_eq_true rfl⟩, X.2.2.2.2.1 _ tw_426, X.2.2.2.2.1 _ tw_427⟩ 15 rfl rfl hA rfl (Nat.le_of_ble_eq_true rfl) ⟨Nat.zero_le _, Nat.zero_le _⟩ d_Gl_treesWith_50 rfl (fun σ7 hC => ?_)
        refine gj_lload_n X d_Gl_treesWith_53 rfl 0 rfl ?_
        refine gj_aload_n X d_Gl_treesWith_54 rfl 1 rfl ?_
        refine gj_get X inX8 0 rfl rfl 6 (by decide) tw_214 rfl rfl d_Gl_treesWith_55 ?_
        refine gj_iconst (v := 0) X d_Gl_treesWith_58 (by decide) ?_
        refine gj_iload_n X d_Gl_treesWith_59 rfl 3 rfl ?_
        refine gj_callVL (As := [.int (0 : Int32), .int a1]) (st := [.long r6]) X (c_Co_treesOfw l dC dI h cI cL σ7 (0 : Int32) a1 _ hC) ⟨gj_cwB X tw_376 tw_5 tw_373 hd_Co_treesOf rfl rfl ⟨Nat.le_of_ble_eq_true rfl, Nat.le_of_ble_eq_true rfl⟩, X.2.2.2.2.1 _ tw_374, X.2.2.2.2.1 _ tw_375⟩ 15 rfl rfl hA rfl (Nat.le_of_ble_eq_true rfl) ⟨Nat.zero_le _, Nat.zero_le _⟩ d_Gl_treesWith_60 rfl (fun r9 σ8 hC => ?_)
        refine gj_lsub X d_Gl_treesWith_63 ?_
        exact gj_lret X hr hlk hC d_Gl_treesWith_64
      · have hC := hC.2 c0
        refine gj_ldc2 (v := -2) X tw_420 d_Gl_treesWith_41 ?_
        exact gj_lret X hr hlk hC d_Gl_treesWith_44
    · have hC := hC.2 c0
      refine gj_ldc2 (v := -1) X tw_372 d_Gl_treesWith_19 ?_
      exact gj_lret X hr hlk hC d_Gl_treesWith_22
abbrev rm_Dr_clear : Room := { frames := 0, cells := 0, slots := 0, locals := 0 }
set_option maxHeartbeats 4000000 in
set_option maxRecDepth 100000 in
theorem c_Dr_clear (l : Launch) (dC : Nat → ClassId) (dI : Nat → Nat → Nat) (h : Nat → Nat) (cI cL : ClassId) (σ : gs_St) (K : gs_St → Prop) (hC : C_Dr_clear σ K) : gj_MV 0 0 l y_Dr_clear (gj_ws y_Dr_clear b_Dr_clear 1 (none)) rm_Dr_clear (dC, dI) gs_C (gs_T cI cL) ((wG h cI cL) σ) (wG h cI cL) [.ref (h 26)] K := by
  refine gj_enterV (by decide) (Nat.le_of_ble_eq_true rfl) (fun p e s m args below meth c A X hr hlk hA hnm => ?_)
  change gj_J p l e rm_Dr_clear s m args below meth c 0 0 (MQ below (va_Qv K (gj_at (dC, dI) gs_C (gs_T cI cL) (wG h cI cL) A) A) args s 0 0 A) (dC, dI) gs_C A 1 0 [(0, .ref (h 26))] [] ((wG h cI cL) σ)
  refine gj_aload_n X d_Dr_clear_0 rfl 0 rfl ?_
  refine gj_iconst (v := 0) X d_Dr_clear_1 (by decide) ?_
  refine gj_put (w' := (wG h cI cL) (gs_I σ 12 (0 : Int32))) X inX1 tyX1 tyX1_ok nmX1 26 rfl rfl 2 (by decide) tw_153 rfl rfl (tyX1_ok 2 (by decide)) rfl rfl (Nat.le_of_ble_eq_true rfl) (set_wG_I12 h cI cL σ _) d_Dr_clear_2 ?_
  refine gj_topw (wof := (wG h cI cL)) (fun σ1 eσ1 => ?_)
  have hC := hC σ1 eσ1
  refine gj_aload_n X d_Dr_clear_5 rfl 0 rfl ?_
  refine gj_iconst (v := 0) X d_Dr_clear_6 (by decide) ?_
  refine gj_put (w' := (wG h cI cL) (gs_I σ1 13 (0 : Int32))) X inX1 tyX1 tyX1_ok nmX1 26 rfl rfl 3 (by decide) tw_155 rfl rfl (tyX1_ok 3 (by decide)) rfl rfl (Nat.le_of_ble_eq_true rfl) (set_wG_I13 h cI cL σ1 _) d_Dr_clear_7 ?_
  refine gj_topw (wof := (wG h cI cL)) (fun σ2 eσ2 => ?_)
  have hC := hC σ2 eσ2
  exact gj_vret X hr hlk hC d_Dr_clear_10
abbrev rm_Pi_put : Room := { frames := 0, cells := 0, slots := 0, locals := 0 }
set_option maxHeartbeats 4000000 in
set_option maxRecDepth 100000 in
theorem c_Pi_put (l : Launch) (dC : Nat → ClassId) (dI : Nat → Nat → Nat) (h : Nat → Nat) (cI cL : ClassId) (σ : gs_St) (a0 : Int32) (a1 : Int32) (a2 : Int32) (a3 : Int64) (K : gs_St → Prop) (hC : C_Pi_put a0 a1 a2 a3 σ K) : gj_MV 0 0 l y_Pi_put (gj_ws y_Pi_put b_Pi_put 6 (none)) rm_Pi_put (dC, dI) gs_C (gs_T cI cL) ((wG h cI cL) σ) (wG h cI cL) [.ref (h 18), .int a0, .int a1, .int a2, .long a3] K := by
  refine gj_enterV (by decide) (Nat.le_of_ble_eq_true rfl) (fun p e s m args below meth c A X hr hlk hA hnm => ?_)
  change gj_J p l e rm_Pi_put s m args below meth c 0 0 (MQ below (va_Qv K (gj_at (dC, dI) gs_C (gs_T cI cL) (wG h cI cL) A) A) args s 0 0 A) (dC, dI) gs_C A 6 0 [(0, .ref (h 18)), (1, .int a0), (2, .int a1), (3, .int a2), (4, .long a3)] [] ((wG h cI cL) σ)
  refine gj_iload_n X d_Pi_put_0 rfl 1 rfl ?_
  refine gj_if_lt (tgt := 33) X d_Pi_put_1 (by decide) (fun c0 => ?_) (fun c0 => ?_)
  · have hC := hC.1 c0
    exact gj_vret X hr hlk hC d_Pi_put_33
  · have hC := hC.2 c0
    refine gj_iload_n X d_Pi_put_4 rfl 1 rfl ?_
    refine gj_sipush (v := 216) X d_Pi_put_5 (by decide) ?_
    refine gj_icmp_ge (tgt := 33) X d_Pi_put_8 (by decide) (fun c0 => ?_) (fun c0 => ?_)
    · have hC := hC.1 c0
      exact gj_vret X hr hlk hC d_Pi_put_33
    · have hC := hC.2 c0
      refine gj_aload_n X d_Pi_put_11 rfl 0 rfl ?_
      refine gj_get X inX6 18 rfl rfl 0 (by decide) tw_117 rfl rfl d_Pi_put_12 ?_
      refine gj_iload_n X d_Pi_put_15 rfl 1 rfl ?_
      refine gj_iload_n X d_Pi_put_16 rfl 2 rfl ?_
      refine gj_iast (w' := (wG h cI cL) (gs_A σ 8 (upd (σ.2.1 8) a0.toNatClampNeg a1))) X 19 0 rfl rfl hC.1 (set_wG_A8 h cI cL σ _) d_Pi_put_17 ?_
      refine gj_topw (wof := (wG h cI cL)) (fun σ1 eσ1 => ?_)
      have hC := hC.2 σ1 eσ1
      refine gj_aload_n X d_Pi_put_18 rfl 0 rfl ?_
      refine gj_get X inX6 18 rfl rfl 1 (by decide) tw_120 rfl rfl d_Pi_put_19 ?_
      refine gj_iload_n X d_Pi_put_22 rfl 1 rfl ?_
      refine gj_iload_n X d_Pi_put_23 rfl 3 rfl ?_
      refine gj_iast (w' := (wG h cI cL) (gs_A σ1 9 (upd (σ1.2.1 9) a0.toNatClampNeg a2))) X 20 0 rfl rfl hC.1 (set_wG_A9 h cI cL σ1 _) d_Pi_put_24 ?_
      refine gj_topw (wof := (wG h cI cL)) (fun σ2 eσ2 => ?_)
      have hC := hC.2 σ2 eσ2
      refine gj_aload_n X d_Pi_put_25 rfl 0 rfl ?_
      refine gj_get X inX6 18 rfl rfl 2 (by decide) tw_123 rfl rfl d_Pi_put_26 ?_
      refine gj_iload_n X d_Pi_put_29 rfl 1 rfl ?_
      refine gj_lload X d_Pi_put_30 4 rfl ?_
      refine gj_last (w' := (wG h cI cL) (gs_L σ2 4 (vp_updL (σ2.2.2 4) a0.toNatClampNeg a3))) X 21 1 rfl rfl hC.1 (set_wG_L4 h cI cL σ2 _) d_Pi_put_32 ?_
      refine gj_topw (wof := (wG h cI cL)) (fun σ3 eσ3 => ?_)
      have hC := hC.2 σ3 eσ3
      exact gj_vret X hr hlk hC d_Pi_put_33
abbrev rm_Gr_nonterminalsIn : Room := { frames := 1, cells := 0, slots := 0, locals := 22 }
set_option maxHeartbeats 4000000 in
set_option maxRecDepth 100000 in
theorem c_Gr_nonterminalsIn (l : Launch) (dC : Nat → ClassId) (dI : Nat → Nat → Nat) (h : Nat → Nat) (cI cL : ClassId) (σ : gs_St) (a0 : Int32) (K : Int32 → gs_St → Prop) (hC : C_Gr_nonterminalsIn a0 σ K) : gj_MI l y_Gr_nonterminalsIn (gj_ws y_Gr_nonterminalsIn b_Gr_nonterminalsIn 4 (some .int)) rm_Gr_nonterminalsIn (dC, dI) gs_C (gs_T cI cL) ((wG h cI cL) σ) (wG h cI cL) [.ref (h 2), .int a0] K := by
  refine gj_enterI (by decide) (Nat.le_of_ble_eq_true rfl) (fun p e s m args below meth c A X hr hlk hA hnm => ?_)
  change gj_J p l e rm_Gr_nonterminalsIn s m args below meth c 0 0 (MQ below (va_Qi K (gj_at (dC, dI) gs_C (gs_T cI cL) (wG h cI cL) A) A) args s 0 0 A) (dC, dI) gs_C A 4 0 [(0, .ref (h 2)), (1, .int a0)] [] ((wG h cI cL) σ)
  have hC := hC
    (fun (v_1 : Int32) (v_2 : Int32) (v_3 : Int32) (σ : gs_St) => gj_J p l e rm_Gr_nonterminalsIn s m args below meth c 0 0 (MQ below (va_Qi K (gj_at (dC, dI) gs_C (gs_T cI cL) (wG h cI cL) A) A) args s 0 0 A) (dC, dI) gs_C A 4 4 [(0, .ref (h 2)), (1, .int v_1), (2, .int v_2), (3, .int v_3)] [] ((wG h cI cL) σ))
    (by
      intro v_1 v_2 v_3 σ hC
      refine gj_iload_n X d_Gr_nonterminalsIn_4 rfl 3 rfl ?_
      refine gj_aload_n X d_Gr_nonterminalsIn_5 rfl 0 rfl ?_
      refine gj_get X inX2 2 rfl rfl 1 (by decide) tw_29 rfl rfl d_Gr_nonterminalsIn_6 ?_
      refine gj_iload_n X d_Gr_nonterminalsIn_9 rfl 1 rfl ?_
      refine gj_iald X 4 0 rfl rfl hC.1 d_Gr_nonterminalsIn_10 ?_
      have hC := hC.2
      refine gj_icmp_ge (tgt := 35) X d_Gr_nonterminalsIn_11 (by decide) (fun c0 => ?_) (fun c0 => ?_)
      · have hC := hC.1 c0
        refine gj_iload_n X d_Gr_nonterminalsIn_35 rfl 2 rfl ?_
        exact gj_iret X hr hlk hC d_Gr_nonterminalsIn_36
      · have hC := hC.2 c0
        refine gj_aload_n X d_Gr_nonterminalsIn_14 rfl 0 rfl ?_
        refine gj_iload_n X d_Gr_nonterminalsIn_15 rfl 1 rfl ?_
        refine gj_iload_n X d_Gr_nonterminalsIn_16 rfl 3 rfl ?_
        refine gj_callVI (As := [.int v_1, .int v_3]) (st := []) X (c_Gr_symbolAt l dC dI h cI cL σ v_1 v_3 _ hC) ⟨gj_cwB X tw_288 tw_2 tw_466 hd_Gr_symbolAt rfl rfl ⟨Nat.le_of_ble_eq_true rfl, Nat.le_of_ble_eq_true rfl⟩, X.2.2.2.2.1 _ tw_286, X.2.2.2.2.1 _ tw_287⟩ 2 rfl rfl hA rfl (Nat.le_of_ble_eq_true rfl) ⟨Nat.zero_le _, Nat.zero_le _⟩ d_Gr_nonterminalsIn_17 rfl (fun r2 σ1 hC => ?_)
        refine gj_callSNI (As := [.int r2]) (st := []) X (c_Gl_isNonterminal l dC dI h cI cL σ1 r2 _ hC) ⟨gj_cwN X tw_249 tw_1 tn_467 hd_Gl_isNonterminal rfl rfl ⟨Nat.le_of_ble_eq_true rfl, Nat.le_of_ble_eq_true rfl⟩, X.2.2.2.2.1 _ tw_248, trivial⟩ hA rfl (Nat.le_of_ble_eq_true rfl) ⟨Nat.zero_le _, Nat.zero_le _⟩ d_Gr_nonterminalsIn_20 rfl (fun r4 σ3 hC => ?_)
        obtain ⟨hC, hb⟩ := hC
        refine gj_if_eq (tgt := 29) X d_Gr_nonterminalsIn_23 (by decide) (fun c0 => ?_) (fun c0 => ?_)
        · have hC := hC.1 c0
          obtain ⟨v5, ev5⟩ : ∃ y : Int32, y = v_3 + 1 := ⟨_, rfl⟩
          have hC := hC v5 ev5
          refine gj_iinc (v := v5) (L' := [(3, .int v5), (0, .ref (h 2)), (1, .int v_1), (2, .int v_2)]) X d_Gr_nonterminalsIn_29 3 rfl (by rw [ev5]; rfl) (by decide) rfl ?_
          refine gj_goto (tgt := 4) X d_Gr_nonterminalsIn_32 (by decide) ?_
          exact gj_loc [1, 2, 3, 0] rfl hC
        · have hC := hC.2 c0
          obtain ⟨v6, ev6⟩ : ∃ y : Int32, y = v_2 + 1 := ⟨_, rfl⟩
          have hC := hC v6 ev6
          refine gj_iinc (v := v6) (L' := [(2, .int v6), (0, .ref (h 2)), (1, .int v_1), (3, .int v_3)]) X d_Gr_nonterminalsIn_26 2 rfl (by rw [ev6]; rfl) (by decide) rfl ?_
          obtain ⟨v7, ev7⟩ : ∃ y : Int32, y = v_3 + 1 := ⟨_, rfl⟩
          have hC := hC v7 ev7
          refine gj_iinc (v := v7) (L' := [(3, .int v7), (2, .int v6), (0, .ref (h 2)), (1, .int v_1)]) X d_Gr_nonterminalsIn_29 3 rfl (by rw [ev7]; rfl) (by decide) rfl ?_
          refine gj_goto (tgt := 4) X d_Gr_nonterminalsIn_32 (by decide) ?_
          exact gj_loc [2, 3, 1, 0] rfl hC)
  refine gj_iconst (v := 0) X d_Gr_nonterminalsIn_0 (by decide) ?_
  refine gj_istore_n (L' := [(2, .int (0 : Int32)), (0, .ref (h 2)), (1, .int a0)]) X d_Gr_nonterminalsIn_1 rfl (by decide) rfl ?_
  refine gj_iconst (v := 0) X d_Gr_nonterminalsIn_2 (by decide) ?_
  refine gj_istore_n (L' := [(3, .int (0 : Int32)), (2, .int (0 : Int32)), (0, .ref (h 2)), (1, .int a0)]) X d_Gr_nonterminalsIn_3 rfl (by decide) rfl ?_
  exact gj_loc [2, 3, 1, 0] rfl hC
abbrev rm_Dr_addRule : Room := { frames := 0, cells := 0, slots := 0, locals := 0 }
set_option maxHeartbeats 4000000 in
set_option maxRecDepth 100000 in
theorem c_Dr_addRule (l : Launch) (dC : Nat → ClassId) (dI : Nat → Nat → Nat) (h : Nat → Nat) (cI cL : ClassId) (σ : gs_St) (a0 : Int32) (K : gs_St → Prop) (hC : C_Dr_addRule a0 σ K) : gj_MV 0 0 l y_Dr_addRule (gj_ws y_Dr_addRule b_Dr_addRule 2 (none)) rm_Dr_addRule (dC, dI) gs_C (gs_T cI cL) ((wG h cI cL) σ) (wG h cI cL) [.ref (h 26), .int a0] K := by
  refine gj_enterV (by decide) (Nat.le_of_ble_eq_true rfl) (fun p e s m args below meth c A X hr hlk hA hnm => ?_)
  change gj_J p l e rm_Dr_addRule s m args below meth c 0 0 (MQ below (va_Qv K (gj_at (dC, dI) gs_C (gs_T cI cL) (wG h cI cL) A) A) args s 0 0 A) (dC, dI) gs_C A 2 0 [(0, .ref (h 26)), (1, .int a0)] [] ((wG h cI cL) σ)
  refine gj_aload_n X d_Dr_addRule_0 rfl 0 rfl ?_
  refine gj_get X inX1 26 rfl rfl 2 (by decide) tw_153 rfl rfl d_Dr_addRule_1 ?_
  refine gj_sipush (v := 200) X d_Dr_addRule_4 (by decide) ?_
  refine gj_icmp_ge (tgt := 30) X d_Dr_addRule_7 (by decide) (fun c0 => ?_) (fun c0 => ?_)
  · have hC := hC.1 c0
    exact gj_vret X hr hlk hC d_Dr_addRule_30
  · have hC := hC.2 c0
    refine gj_aload_n X d_Dr_addRule_10 rfl 0 rfl ?_
    refine gj_get X inX1 26 rfl rfl 0 (by decide) tw_149 rfl rfl d_Dr_addRule_11 ?_
    refine gj_aload_n X d_Dr_addRule_14 rfl 0 rfl ?_
    refine gj_get X inX1 26 rfl rfl 2 (by decide) tw_153 rfl rfl d_Dr_addRule_15 ?_
    refine gj_iload_n X d_Dr_addRule_18 rfl 1 rfl ?_
    refine gj_iast (w' := (wG h cI cL) (gs_A σ 12 (upd (σ.2.1 12) (σ.1 12).toNatClampNeg a0))) X 27 0 rfl rfl hC.1 (set_wG_A12 h cI cL σ _) d_Dr_addRule_19 ?_
    refine gj_topw (wof := (wG h cI cL)) (fun σ1 eσ1 => ?_)
    have hC := hC.2 σ1 eσ1
    refine gj_aload_n X d_Dr_addRule_20 rfl 0 rfl ?_
    refine gj_dup X d_Dr_addRule_21 rfl ?_
    refine gj_get X inX1 26 rfl rfl 2 (by decide) tw_153 rfl rfl d_Dr_addRule_22 ?_
    refine gj_iconst (v := 1) X d_Dr_addRule_25 (by decide) ?_
    refine gj_iadd X d_Dr_addRule_26 ?_
    refine gj_put (w' := (wG h cI cL) (gs_I σ1 12 ((σ1.1 12) + (1 : Int32)))) X inX1 tyX1 tyX1_ok nmX1 26 rfl rfl 2 (by decide) tw_153 rfl rfl (tyX1_ok 2 (by decide)) rfl rfl (Nat.le_of_ble_eq_true rfl) (set_wG_I12 h cI cL σ1 _) d_Dr_addRule_27 ?_
    refine gj_topw (wof := (wG h cI cL)) (fun σ2 eσ2 => ?_)
    have hC := hC σ2 eσ2
    exact gj_vret X hr hlk hC d_Dr_addRule_30
abbrev rm_Co_endingsWith : Room := { frames := 1, cells := 0, slots := 0, locals := 23 }
set_option maxHeartbeats 4000000 in
set_option maxRecDepth 100000 in
theorem c_Co_endingsWith (l : Launch) (dC : Nat → ClassId) (dI : Nat → Nat → Nat) (h : Nat → Nat) (cI cL : ClassId) (σ : gs_St) (a0 : Int32) (a1 : Int32) (a2 : Int32) (a3 : Int32) (K : Int64 → gs_St → Prop) (hC : C_Co_endingsWith a0 a1 a2 a3 σ K) : gj_ML l y_Co_endingsWith (gj_ws y_Co_endingsWith b_Co_endingsWith 8 (some .long)) rm_Co_endingsWith (dC, dI) gs_C (gs_T cI cL) ((wG h cI cL) σ) (wG h cI cL) [.ref (h 12), .int a0, .int a1, .int a2, .int a3] K := by
  refine gj_enterL (by decide) (Nat.le_of_ble_eq_true rfl) (fun p e s m args below meth c A X hr hlk hA hnm => ?_)
  change gj_J p l e rm_Co_endingsWith s m args below meth c 0 0 (MQ below (va_Ql K (gj_at (dC, dI) gs_C (gs_T cI cL) (wG h cI cL) A) A) args s 0 0 A) (dC, dI) gs_C A 8 0 [(0, .ref (h 12)), (1, .int a0), (2, .int a1), (3, .int a2), (4, .int a3)] [] ((wG h cI cL) σ)
  have hC := hC
    (fun (v_1 : Int32) (v_2 : Int32) (v_3 : Int32) (v_4 : Int32) (v_5 : Int32) (s_0 : Int64) (σ : gs_St) => gj_J p l e rm_Co_endingsWith s m args below meth c 0 0 (MQ below (va_Ql K (gj_at (dC, dI) gs_C (gs_T cI cL) (wG h cI cL) A) A) args s 0 0 A) (dC, dI) gs_C A 8 21 [(0, .ref (h 12)), (1, .int v_1), (2, .int v_2), (3, .int v_3), (4, .int v_4), (5, .int v_5)] [.long s_0] ((wG h cI cL) σ))
    (by
      intro v_1 v_2 v_3 v_4 v_5 s_0 σ hC
      refine gj_lstore (L' := [(6, .long s_0), (0, .ref (h 12)), (1, .int v_1), (2, .int v_2), (3, .int v_3), (4, .int v_4), (5, .int v_5)]) X d_Co_endingsWith_21 (by decide) rfl ?_
      refine gj_iload X d_Co_endingsWith_23 6 rfl ?_
      refine gj_callSNI (As := [.int v_5]) (st := []) X (c_Gl_isNonterminal l dC dI h cI cL σ v_5 _ hC) ⟨gj_cwN X tw_249 tw_1 tn_395 hd_Gl_isNonterminal rfl rfl ⟨Nat.le_of_ble_eq_true rfl, Nat.le_of_ble_eq_true rfl⟩, X.2.2.2.2.1 _ tw_248, trivial⟩ hA rfl (Nat.le_of_ble_eq_true rfl) ⟨Nat.zero_le _, Nat.zero_le _⟩ d_Co_endingsWith_25 rfl (fun r4 σ3 hC => ?_)
      obtain ⟨hC, hb⟩ := hC
      refine gj_if_eq (tgt := 45) X d_Co_endingsWith_28 (by decide) (fun c0 => ?_) (fun c0 => ?_)
      · have hC := hC.1 c0
        refine gj_lload X d_Co_endingsWith_45 0 rfl ?_
        refine gj_aload_n X d_Co_endingsWith_47 rfl 1 rfl ?_
        refine gj_get X inX0 12 rfl rfl 3 (by decide) tw_94 rfl rfl d_Co_endingsWith_48 ?_
        refine gj_iload_n X d_Co_endingsWith_51 rfl 2 rfl ?_
        refine gj_iload_n X d_Co_endingsWith_52 rfl 3 rfl ?_
        refine gj_iconst (v := 1) X d_Co_endingsWith_53 (by decide) ?_
        refine gj_iadd X d_Co_endingsWith_54 ?_
        refine gj_callSI (As := [.int v_1, .int (v_2 + (1 : Int32))]) (st := [.ref (h 14), .long s_0]) X (c_Co_endingsAt l dC dI h cI cL σ3 v_1 (v_2 + (1 : Int32)) _ hC) ⟨gj_cwB X tw_393 tw_5 tw_391 hd_Co_endingsAt rfl rfl ⟨Nat.le_of_ble_eq_true rfl, Nat.le_of_ble_eq_true rfl⟩, X.2.2.2.2.1 _ tw_392⟩ hA rfl (Nat.le_of_ble_eq_true rfl) ⟨Nat.zero_le _, Nat.zero_le _⟩ d_Co_endingsWith_55 rfl (fun r6 σ5 hC => ?_)
        refine gj_iload X d_Co_endingsWith_58 5 rfl ?_
        refine gj_iadd X d_Co_endingsWith_60 ?_
        refine gj_iload_n X d_Co_endingsWith_61 rfl 4 rfl ?_
        refine gj_isub X d_Co_endingsWith_62 ?_
        refine gj_lald X 14 1 rfl rfl hC.1 d_Co_endingsWith_63 ?_
        have hC := hC.2
        refine gj_callSL (As := [.long s_0, .long (σ5.2.2 1 ((r6 + v_4) - v_3).toNatClampNeg)]) (st := []) X (c_Co_times l dC dI h cI cL σ5 s_0 (σ5.2.2 1 ((r6 + v_4) - v_3).toNatClampNeg) _ hC) ⟨gj_cwB X tw_402 tw_5 tw_400 hd_Co_times rfl rfl ⟨Nat.le_of_ble_eq_true rfl, Nat.le_of_ble_eq_true rfl⟩, X.2.2.2.2.1 _ tw_401⟩ hA rfl (Nat.le_of_ble_eq_true rfl) ⟨Nat.zero_le _, Nat.zero_le _⟩ d_Co_endingsWith_64 rfl (fun r8 σ7 hC => ?_)
        exact gj_lret X hr hlk hC d_Co_endingsWith_67
      · have hC := hC.2 c0
        refine gj_aload_n X d_Co_endingsWith_31 rfl 1 rfl ?_
        refine gj_get X inX0 12 rfl rfl 2 (by decide) tw_93 rfl rfl d_Co_endingsWith_32 ?_
        refine gj_iload X d_Co_endingsWith_35 6 rfl ?_
        refine gj_bipush (v := 17) X d_Co_endingsWith_37 (by decide) ?_
        refine gj_imul X d_Co_endingsWith_39 ?_
        refine gj_iload_n X d_Co_endingsWith_40 rfl 4 rfl ?_
        refine gj_iadd X d_Co_endingsWith_41 ?_
        refine gj_lald X 13 1 rfl rfl hC.1 d_Co_endingsWith_42 ?_
        have hC := hC.2
        refine gj_topl (fun v9 ev9 => ?_)
        have hC := hC v9 ev9
        refine gj_lstore (L' := [(6, .long v9), (0, .ref (h 12)), (1, .int v_1), (2, .int v_2), (3, .int v_3), (4, .int v_4), (5, .int v_5)]) X d_Co_endingsWith_43 (by decide) rfl ?_
        refine gj_lload X d_Co_endingsWith_45 0 rfl ?_
        refine gj_aload_n X d_Co_endingsWith_47 rfl 1 rfl ?_
        refine gj_get X inX0 12 rfl rfl 3 (by decide) tw_94 rfl rfl d_Co_endingsWith_48 ?_
        refine gj_iload_n X d_Co_endingsWith_51 rfl 2 rfl ?_
        refine gj_iload_n X d_Co_endingsWith_52 rfl 3 rfl ?_
        refine gj_iconst (v := 1) X d_Co_endingsWith_53 (by decide) ?_
        refine gj_iadd X d_Co_endingsWith_54 ?_
        refine gj_callSI (As := [.int v_1, .int (v_2 + (1 : Int32))]) (st := [.ref (h 14), .long v9]) X (c_Co_endingsAt l dC dI h cI cL σ3 v_1 (v_2 + (1 : Int32)) _ hC) ⟨gj_cwB X tw_393 tw_5 tw_391 hd_Co_endingsAt rfl rfl ⟨Nat.le_of_ble_eq_true rfl, Nat.le_of_ble_eq_true rfl⟩, X.2.2.2.2.1 _ tw_392⟩ hA rfl (Nat.le_of_ble_eq_true rfl) ⟨Nat.zero_le _, Nat.zero_le _⟩ d_Co_endingsWith_55 rfl (fun r11 σ10 hC => ?_)
        refine gj_iload X d_Co_endingsWith_58 5 rfl ?_
        refine gj_iadd X d_Co_endingsWith_60 ?_
        refine gj_iload_n X d_Co_endingsWith_61 rfl 4 rfl ?_
        refine gj_isub X d_Co_endingsWith_62 ?_
        refine gj_lald X 14 1 rfl rfl hC.1 d_Co_endingsWith_63 ?_
        have hC := hC.2
        refine gj_callSL (As := [.long v9, .long (σ10.2.2 1 ((r11 + v_4) - v_3).toNatClampNeg)]) (st := []) X (c_Co_times l dC dI h cI cL σ10 v9 (σ10.2.2 1 ((r11 + v_4) - v_3).toNatClampNeg) _ hC) ⟨gj_cwB X tw_402 tw_5 tw_400 hd_Co_times rfl rfl ⟨Nat.le_of_ble_eq_true rfl, Nat.le_of_ble_eq_true rfl⟩, X.2.2.2.2.1 _ tw_401⟩ hA rfl (Nat.le_of_ble_eq_true rfl) ⟨Nat.zero_le _, Nat.zero_le _⟩ d_Co_endingsWith_64 rfl (fun r13 σ12 hC => ?_)
        exact gj_lret X hr hlk hC d_Co_endingsWith_67)
  refine gj_aload_n X d_Co_endingsWith_0 rfl 0 rfl ?_
  refine gj_get X inX0 12 rfl rfl 0 (by decide) tw_91 rfl rfl d_Co_endingsWith_1 ?_
  refine gj_iload_n X d_Co_endingsWith_4 rfl 1 rfl ?_
  refine gj_iload_n X d_Co_endingsWith_5 rfl 2 rfl ?_
  refine gj_callVI (As := [.int a0, .int a1]) (st := []) X (c_Gr_symbolAt l dC dI h cI cL σ a0 a1 _ hC) ⟨gj_cwB X tw_288 tw_2 tw_394 hd_Gr_symbolAt rfl rfl ⟨Nat.le_of_ble_eq_true rfl, Nat.le_of_ble_eq_true rfl⟩, X.2.2.2.2.1 _ tw_286, X.2.2.2.2.1 _ tw_287⟩ 2 rfl rfl hA rfl (Nat.le_of_ble_eq_true rfl) ⟨Nat.zero_le _, Nat.zero_le _⟩ d_Co_endingsWith_6 rfl (fun r2 σ1 hC => ?_)
  refine gj_istore (L' := [(5, .int r2), (0, .ref (h 12)), (1, .int a0), (2, .int a1), (3, .int a2), (4, .int a3)]) X d_Co_endingsWith_9 (by decide) rfl ?_
  refine gj_iload_n X d_Co_endingsWith_11 rfl 4 rfl ?_
  refine gj_iconst (v := 1) X d_Co_endingsWith_12 (by decide) ?_
  refine gj_icmp_ne (tgt := 20) X d_Co_endingsWith_13 (by decide) (fun c0 => ?_) (fun c0 => ?_)
  · have hC := hC.1 c0
    refine gj_lconst (v := 0) X d_Co_endingsWith_20 (by decide) ?_
    exact gj_loc [1, 2, 3, 4, 5, 0] rfl hC
  · have hC := hC.2 c0
    refine gj_lconst (v := 1) X d_Co_endingsWith_16 (by decide) ?_
    refine gj_goto (tgt := 21) X d_Co_endingsWith_17 (by decide) ?_
    exact gj_loc [1, 2, 3, 4, 5, 0] rfl hC
abbrev rm_We_unfoldRule : Room := { frames := 2, cells := 0, slots := 0, locals := 50 }
set_option maxHeartbeats 4000000 in
set_option maxRecDepth 100000 in
theorem c_We_unfoldRule (l : Launch) (dC : Nat → ClassId) (dI : Nat → Nat → Nat) (h : Nat → Nat) (cI cL : ClassId) (σ : gs_St) (a0 : Int32) (a1 : Int32) (a2 : Int64) (K : Int32 → gs_St → Prop) (hC : C_We_unfoldRule a0 a1 a2 σ K) : gj_MI l y_We_unfoldRule (gj_ws y_We_unfoldRule b_We_unfoldRule 15 (some .boolean)) rm_We_unfoldRule (dC, dI) gs_C (gs_T cI cL) ((wG h cI cL) σ) (wG h cI cL) [.ref (h 22), .int a0, .int a1, .long a2] (fun r u => K r u ∧ (r = 0 ∨ r = 1)) := by
  refine gj_enterZ (by decide) (Nat.le_of_ble_eq_true rfl) (fun p e s m args below meth c A X hr hlk hA hnm => ?_)
  change gj_J p l e rm_We_unfoldRule s m args below meth c 0 0 (MQ below (va_Qi (fun r u => K r u ∧ (r = 0 ∨ r = 1)) (gj_at (dC, dI) gs_C (gs_T cI cL) (wG h cI cL) A) A) args s 0 0 A) (dC, dI) gs_C A 15 0 [(0, .ref (h 22)), (1, .int a0), (2, .int a1), (3, .long a2)] [] ((wG h cI cL) σ)
  have hC := hC
    (fun (v_1 : Int32) (v_5 : Int32) (v_6 : Int32) (v_7 : Int64) (v_9 : Int32) (σ : gs_St) => gj_J p l e rm_We_unfoldRule s m args below meth c 0 0 (MQ below (va_Qi (fun r u => K r u ∧ (r = 0 ∨ r = 1)) (gj_at (dC, dI) gs_C (gs_T cI cL) (wG h cI cL) A) A) args s 0 0 A) (dC, dI) gs_C A 15 68 [(0, .ref (h 22)), (1, .int v_1), (5, .int v_5), (6, .int v_6), (7, .long v_7), (9, .int v_9)] [] ((wG h cI cL) σ))
    (fun (v_1 : Int32) (v_5 : Int32) (v_6 : Int32) (v_7 : Int64) (v_9 : Int32) (v_10 : Int32) (v_11 : Int64) (σ : gs_St) => gj_J p l e rm_We_unfoldRule s m args below meth c 0 0 (MQ below (va_Qi (fun r u => K r u ∧ (r = 0 ∨ r = 1)) (gj_at (dC, dI) gs_C (gs_T cI cL) (wG h cI cL) A) A) args s 0 0 A) (dC, dI) gs_C A 15 94 [(0, .ref (h 22)), (1, .int v_1), (5, .int v_5), (6, .int v_6), (7, .long v_7), (9, .int v_9), (10, .int v_10), (11, .long v_11)] [] ((wG h cI cL) σ))
    (fun (v_1 : Int32) (v_5 : Int32) (v_6 : Int32) (v_7 : Int64) (v_9 : Int32) (v_10 : Int32) (σ : gs_St) => gj_J p l e rm_We_unfoldRule s m args below meth c 0 0 (MQ below (va_Qi (fun r u => K r u ∧ (r = 0 ∨ r = 1)) (gj_at (dC, dI) gs_C (gs_T cI cL) (wG h cI cL) A) A) args s 0 0 A) (dC, dI) gs_C A 15 138 [(0, .ref (h 22)), (1, .int v_1), (5, .int v_5), (6, .int v_6), (7, .long v_7), (9, .int v_9), (10, .int v_10)] [] ((wG h cI cL) σ))
    (by
      intro v_1 v_5 v_6 v_7 v_9 σ hC
      refine gj_iload X d_We_unfoldRule_68 5 rfl ?_
      refine gj_iload X d_We_unfoldRule_70 2 rfl ?_
      refine gj_icmp_ge (tgt := 217) X d_We_unfoldRule_72 (by decide) (fun c0 => ?_) (fun c0 => ?_)
      · have hC := hC.1 c0
        refine gj_aload_n X d_We_unfoldRule_217 rfl 0 rfl ?_
        refine gj_get X inX7 22 rfl rfl 2 (by decide) tw_168 rfl rfl d_We_unfoldRule_218 ?_
        refine gj_dup X d_We_unfoldRule_221 rfl ?_
        refine gj_getN X inX6 18 rfl rfl 3 (by decide) tn_127 rfl rfl d_We_unfoldRule_222 ?_
        refine gj_iload X d_We_unfoldRule_225 2 rfl ?_
        refine gj_iadd X d_We_unfoldRule_227 ?_
        refine gj_putN (w' := (wG h cI cL) (gs_I σ 8 ((σ.1 8) + v_5))) X inX6 tyX6 tyX6_ok nmX6 18 rfl rfl 3 (by decide) tn_127 rfl rfl (tyX6_ok 3 (by decide)) rfl rfl (Nat.le_of_ble_eq_true rfl) (set_wG_I8 h cI cL σ _) d_We_unfoldRule_228 ?_
        refine gj_topw (wof := (wG h cI cL)) (fun σ7 eσ7 => ?_)
        have hC := hC σ7 eσ7
        refine gj_iconst (v := 1) X d_We_unfoldRule_231 (by decide) ?_
        exact gj_zret X hr hlk (by decide) ⟨hC, Or.inr rfl⟩ d_We_unfoldRule_232
      · have hC := hC.2 c0
        refine gj_iconst (v := 0) X d_We_unfoldRule_75 (by decide) ?_
        refine gj_istore (L' := [(10, .int (0 : Int32)), (0, .ref (h 22)), (1, .int v_1), (5, .int v_5), (6, .int v_6), (7, .long v_7), (9, .int v_9)]) X d_We_unfoldRule_76 (by decide) rfl ?_
        refine gj_aload_n X d_We_unfoldRule_78 rfl 1 rfl ?_
        refine gj_get X inX7 22 rfl rfl 1 (by decide) tw_167 rfl rfl d_We_unfoldRule_79 ?_
        refine gj_iload_n X d_We_unfoldRule_82 rfl 2 rfl ?_
        refine gj_iload X d_We_unfoldRule_83 6 rfl ?_
        refine gj_iload X d_We_unfoldRule_85 0 rfl ?_
        refine gj_iload X d_We_unfoldRule_87 4 rfl ?_
        refine gj_callVL (As := [.int v_1, .int v_9, .int (0 : Int32), .int v_6]) (st := []) X (c_Co_endingsWith l dC dI h cI cL σ v_1 v_9 (0 : Int32) v_6 _ hC) ⟨gj_cwB X tw_476 tw_5 tw_473 hd_Co_endingsWith rfl rfl ⟨Nat.le_of_ble_eq_true rfl, Nat.le_of_ble_eq_true rfl⟩, X.2.2.2.2.1 _ tw_474, X.2.2.2.2.1 _ tw_475⟩ 12 rfl rfl hA rfl (Nat.le_of_ble_eq_true rfl) ⟨Nat.zero_le _, Nat.zero_le _⟩ d_We_unfoldRule_89 rfl (fun r9 σ8 hC => ?_)
        refine gj_lstore (L' := [(11, .long r9), (10, .int (0 : Int32)), (0, .ref (h 22)), (1, .int v_1), (5, .int v_5), (6, .int v_6), (7, .long v_7), (9, .int v_9)]) X d_We_unfoldRule_92 (by decide) rfl ?_
        exact gj_loc [2, 3, 4, 5, 6, 7, 1, 0] rfl hC)
    (by
      intro v_1 v_5 v_6 v_7 v_9 v_10 v_11 σ hC
      refine gj_iload X d_We_unfoldRule_94 6 rfl ?_
      refine gj_iload X d_We_unfoldRule_96 3 rfl ?_
      refine gj_icmp_ge (tgt := 138) X d_We_unfoldRule_98 (by decide) (fun c0 => ?_) (fun c0 => ?_)
      · have hC := hC.1 c0
        exact gj_loc [0, 1, 2, 3, 4, 5, 6] rfl hC
      · have hC := hC.2 c0
        refine gj_lload X d_We_unfoldRule_101 4 rfl ?_
        refine gj_lload X d_We_unfoldRule_103 7 rfl ?_
        refine gj_lcmp_lt (tgt := 138) X d_We_unfoldRule_105 d_We_unfoldRule_106 (by decide) (fun c0 => ?_) (fun c0 => ?_)
        · have hC := hC.1 c0
          exact gj_loc [0, 1, 2, 3, 4, 5, 6] rfl hC
        · have hC := hC.2 c0
          refine gj_lload X d_We_unfoldRule_109 4 rfl ?_
          refine gj_lload X d_We_unfoldRule_111 7 rfl ?_
          refine gj_lsub X d_We_unfoldRule_113 ?_
          refine gj_topl (fun v10 ev10 => ?_)
          have hC := hC v10 ev10
          refine gj_lstore (L' := [(7, .long v10), (0, .ref (h 22)), (1, .int v_1), (5, .int v_5), (6, .int v_6), (9, .int v_9), (10, .int v_10), (11, .long v_11)]) X d_We_unfoldRule_114 (by decide) rfl ?_
          obtain ⟨v11, ev11⟩ : ∃ y : Int32, y = v_10 + 1 := ⟨_, rfl⟩
          have hC := hC v11 ev11
          refine gj_iinc (v := v11) (L' := [(10, .int v11), (7, .long v10), (0, .ref (h 22)), (1, .int v_1), (5, .int v_5), (6, .int v_6), (9, .int v_9), (11, .long v_11)]) X d_We_unfoldRule_116 6 rfl (by rw [ev11]; rfl) (by decide) rfl ?_
          refine gj_aload_n X d_We_unfoldRule_119 rfl 2 rfl ?_
          refine gj_get X inX7 22 rfl rfl 1 (by decide) tw_167 rfl rfl d_We_unfoldRule_120 ?_
          refine gj_iload_n X d_We_unfoldRule_123 rfl 3 rfl ?_
          refine gj_iload X d_We_unfoldRule_124 6 rfl ?_
          refine gj_iload X d_We_unfoldRule_126 0 rfl ?_
          refine gj_iload X d_We_unfoldRule_128 5 rfl ?_
          refine gj_callVL (As := [.int v_1, .int v_9, .int v11, .int v_6]) (st := []) X (c_Co_endingsWith l dC dI h cI cL σ v_1 v_9 v11 v_6 _ hC) ⟨gj_cwB X tw_476 tw_5 tw_473 hd_Co_endingsWith rfl rfl ⟨Nat.le_of_ble_eq_true rfl, Nat.le_of_ble_eq_true rfl⟩, X.2.2.2.2.1 _ tw_474, X.2.2.2.2.1 _ tw_475⟩ 12 rfl rfl hA rfl (Nat.le_of_ble_eq_true rfl) ⟨Nat.zero_le _, Nat.zero_le _⟩ d_We_unfoldRule_130 rfl (fun r13 σ12 hC => ?_)
          refine gj_lstore (L' := [(11, .long r13), (10, .int v11), (7, .long v10), (0, .ref (h 22)), (1, .int v_1), (5, .int v_5), (6, .int v_6), (9, .int v_9)]) X d_We_unfoldRule_133 (by decide) rfl ?_
          refine gj_goto (tgt := 94) X d_We_unfoldRule_135 (by decide) ?_
          exact gj_loc [3, 4, 5, 6, 2, 7, 1, 0] rfl hC)
    (by
      intro v_1 v_5 v_6 v_7 v_9 v_10 σ hC
      refine gj_iload X d_We_unfoldRule_138 3 rfl ?_
      refine gj_iload X d_We_unfoldRule_140 6 rfl ?_
      refine gj_isub X d_We_unfoldRule_142 ?_
      refine gj_topi (fun v14 ev14 => ?_)
      have hC := hC v14 ev14
      refine gj_istore (L' := [(6, .int v14), (0, .ref (h 22)), (1, .int v_1), (5, .int v_5), (7, .long v_7), (9, .int v_9), (10, .int v_10)]) X d_We_unfoldRule_143 (by decide) rfl ?_
      refine gj_lconst (v := 1) X d_We_unfoldRule_145 (by decide) ?_
      refine gj_aload_n X d_We_unfoldRule_146 rfl 1 rfl ?_
      refine gj_get X inX7 22 rfl rfl 1 (by decide) tw_167 rfl rfl d_We_unfoldRule_147 ?_
      refine gj_iload_n X d_We_unfoldRule_150 rfl 2 rfl ?_
      refine gj_iload X d_We_unfoldRule_151 5 rfl ?_
      refine gj_iconst (v := 1) X d_We_unfoldRule_153 (by decide) ?_
      refine gj_iadd X d_We_unfoldRule_154 ?_
      refine gj_iload X d_We_unfoldRule_155 0 rfl ?_
      refine gj_callVL (As := [.int v_1, .int (v_9 + (1 : Int32)), .int v14]) (st := [.long (1 : Int64)]) X (c_Co_endingsOf l dC dI h cI cL σ v_1 (v_9 + (1 : Int32)) v14 _ hC) ⟨gj_cwB X tw_414 tw_5 tw_457 hd_Co_endingsOf rfl rfl ⟨Nat.le_of_ble_eq_true rfl, Nat.le_of_ble_eq_true rfl⟩, X.2.2.2.2.1 _ tw_412, X.2.2.2.2.1 _ tw_413⟩ 12 rfl rfl hA rfl (Nat.le_of_ble_eq_true rfl) ⟨Nat.zero_le _, Nat.zero_le _⟩ d_We_unfoldRule_157 rfl (fun r16 σ15 hC => ?_)
      refine gj_mmaxl X tw_477 tw_478 tw_13 tw_479 (Nat.le_of_ble_eq_true rfl) (Nat.le_of_ble_eq_true rfl) (Nat.zero_le _) (Nat.zero_le _) d_We_unfoldRule_160 ?_
      refine gj_topl (fun v17 ev17 => ?_)
      have hC := hC v17 ev17
      refine gj_lstore (L' := [(13, .long v17), (6, .int v14), (0, .ref (h 22)), (1, .int v_1), (5, .int v_5), (7, .long v_7), (9, .int v_9), (10, .int v_10)]) X d_We_unfoldRule_163 (by decide) rfl ?_
      refine gj_aload_n X d_We_unfoldRule_165 rfl 2 rfl ?_
      refine gj_get X inX7 22 rfl rfl 2 (by decide) tw_168 rfl rfl d_We_unfoldRule_166 ?_
      refine gj_aload_n X d_We_unfoldRule_169 rfl 2 rfl ?_
      refine gj_get X inX7 22 rfl rfl 2 (by decide) tw_168 rfl rfl d_We_unfoldRule_170 ?_
      refine gj_getN X inX6 18 rfl rfl 3 (by decide) tn_127 rfl rfl d_We_unfoldRule_173 ?_
      refine gj_iload X d_We_unfoldRule_176 4 rfl ?_
      refine gj_iadd X d_We_unfoldRule_178 ?_
      refine gj_iconst (v := 1) X d_We_unfoldRule_179 (by decide) ?_
      refine gj_isub X d_We_unfoldRule_180 ?_
      refine gj_iload X d_We_unfoldRule_181 6 rfl ?_
      refine gj_isub X d_We_unfoldRule_183 ?_
      refine gj_aload_n X d_We_unfoldRule_184 rfl 2 rfl ?_
      refine gj_get X inX7 22 rfl rfl 0 (by decide) tw_166 rfl rfl d_We_unfoldRule_185 ?_
      refine gj_iload_n X d_We_unfoldRule_188 rfl 3 rfl ?_
      refine gj_iload X d_We_unfoldRule_189 6 rfl ?_
      refine gj_callVI (As := [.int v_1, .int v_9]) (st := [.int ((((σ15.1 8) + v_5) - (1 : Int32)) - v_9), .ref (h 18)]) X (c_Gr_symbolAt l dC dI h cI cL σ15 v_1 v_9 _ hC) ⟨gj_cwB X tw_288 tw_2 tw_480 hd_Gr_symbolAt rfl rfl ⟨Nat.le_of_ble_eq_true rfl, Nat.le_of_ble_eq_true rfl⟩, X.2.2.2.2.1 _ tw_286, X.2.2.2.2.1 _ tw_287⟩ 2 rfl rfl hA rfl (Nat.le_of_ble_eq_true rfl) ⟨Nat.zero_le _, Nat.zero_le _⟩ d_We_unfoldRule_191 rfl (fun r19 σ18 hC => ?_)
      refine gj_iload X d_We_unfoldRule_194 7 rfl ?_
      refine gj_lload X d_We_unfoldRule_196 5 rfl ?_
      refine gj_lload X d_We_unfoldRule_198 0 rfl ?_
      refine gj_ldiv X d_We_unfoldRule_200 hC.1 ?_
      have hC := hC.2
      refine gj_callVV (As := [.int ((((σ15.1 8) + v_5) - (1 : Int32)) - v_9), .int r19, .int v_10, .long (v_7 / v17)]) (st := []) X (c_Pi_put l dC dI h cI cL σ18 ((((σ15.1 8) + v_5) - (1 : Int32)) - v_9) r19 v_10 (v_7 / v17) _ hC) ⟨gj_cwB X tw_446 tw_6 tw_443 hd_Pi_put rfl rfl ⟨Nat.le_of_ble_eq_true rfl, Nat.le_of_ble_eq_true rfl⟩, X.2.2.2.2.1 _ tw_444, X.2.2.2.2.1 _ tw_445⟩ 18 rfl rfl hA rfl (Nat.le_of_ble_eq_true rfl) ⟨Nat.zero_le _, Nat.zero_le _⟩ d_We_unfoldRule_201 rfl (fun σ20 hC => ?_)
      refine gj_lload X d_We_unfoldRule_204 5 rfl ?_
      refine gj_lload X d_We_unfoldRule_206 0 rfl ?_
      refine gj_lrem X d_We_unfoldRule_208 hC.1 ?_
      have hC := hC.2
      refine gj_topl (fun v21 ev21 => ?_)
      have hC := hC v21 ev21
      refine gj_lstore (L' := [(7, .long v21), (13, .long v17), (6, .int v14), (0, .ref (h 22)), (1, .int v_1), (5, .int v_5), (9, .int v_9), (10, .int v_10)]) X d_We_unfoldRule_209 (by decide) rfl ?_
      obtain ⟨v22, ev22⟩ : ∃ y : Int32, y = v_9 + 1 := ⟨_, rfl⟩
      have hC := hC v22 ev22
      refine gj_iinc (v := v22) (L' := [(9, .int v22), (7, .long v21), (13, .long v17), (6, .int v14), (0, .ref (h 22)), (1, .int v_1), (5, .int v_5), (10, .int v_10)]) X d_We_unfoldRule_211 6 rfl (by rw [ev22]; rfl) (by decide) rfl ?_
      refine gj_goto (tgt := 68) X d_We_unfoldRule_214 (by decide) ?_
      exact gj_loc [4, 5, 6, 3, 1, 0] rfl hC)
  refine gj_aload_n X d_We_unfoldRule_0 rfl 0 rfl ?_
  refine gj_dup X d_We_unfoldRule_1 rfl ?_
  refine gj_get X inX7 22 rfl rfl 5 (by decide) tw_171 rfl rfl d_We_unfoldRule_2 ?_
  refine gj_aload_n X d_We_unfoldRule_5 rfl 0 rfl ?_
  refine gj_get X inX7 22 rfl rfl 0 (by decide) tw_166 rfl rfl d_We_unfoldRule_6 ?_
  refine gj_iload_n X d_We_unfoldRule_9 rfl 1 rfl ?_
  refine gj_callVI (As := [.int a0]) (st := [.int (σ.1 9), .ref (h 22)]) X (c_Gr_nonterminalsIn l dC dI h cI cL σ a0 _ hC) ⟨gj_cwB X tw_465 tw_2 tw_462 hd_Gr_nonterminalsIn rfl rfl ⟨Nat.le_of_ble_eq_true rfl, Nat.le_of_ble_eq_true rfl⟩, X.2.2.2.2.1 _ tw_463, X.2.2.2.2.1 _ tw_464⟩ 2 rfl rfl hA rfl (Nat.le_of_ble_eq_true rfl) ⟨Nat.zero_le _, Nat.zero_le _⟩ d_We_unfoldRule_10 rfl (fun r2 σ1 hC => ?_)
  refine gj_iconst (v := 1) X d_We_unfoldRule_13 (by decide) ?_
  refine gj_isub X d_We_unfoldRule_14 ?_
  refine gj_iadd X d_We_unfoldRule_15 ?_
  refine gj_put (w' := (wG h cI cL) (gs_I σ1 9 ((σ.1 9) + (r2 - (1 : Int32))))) X inX7 tyX7 tyX7_ok nmX7 22 rfl rfl 5 (by decide) tw_171 rfl rfl (tyX7_ok 5 (by decide)) rfl rfl (Nat.le_of_ble_eq_true rfl) (set_wG_I9 h cI cL σ1 _) d_We_unfoldRule_16 ?_
  refine gj_topw (wof := (wG h cI cL)) (fun σ3 eσ3 => ?_)
  have hC := hC σ3 eσ3
  refine gj_aload_n X d_We_unfoldRule_19 rfl 0 rfl ?_
  refine gj_get X inX7 22 rfl rfl 4 (by decide) tw_170 rfl rfl d_We_unfoldRule_20 ?_
  refine gj_getN X inX1 26 rfl rfl 2 (by decide) tn_154 rfl rfl d_We_unfoldRule_23 ?_
  refine gj_iconst (v := 1) X d_We_unfoldRule_26 (by decide) ?_
  refine gj_iadd X d_We_unfoldRule_27 ?_
  refine gj_aload_n X d_We_unfoldRule_28 rfl 0 rfl ?_
  refine gj_get X inX7 22 rfl rfl 5 (by decide) tw_171 rfl rfl d_We_unfoldRule_29 ?_
  refine gj_iadd X d_We_unfoldRule_32 ?_
  refine gj_sipush (v := 200) X d_We_unfoldRule_33 (by decide) ?_
  refine gj_icmp_le (tgt := 41) X d_We_unfoldRule_36 (by decide) (fun c0 => ?_) (fun c0 => ?_)
  · have hC := hC.1 c0
    refine gj_aload_n X d_We_unfoldRule_41 rfl 0 rfl ?_
    refine gj_get X inX7 22 rfl rfl 4 (by decide) tw_170 rfl rfl d_We_unfoldRule_42 ?_
    refine gj_iload_n X d_We_unfoldRule_45 rfl 1 rfl ?_
    refine gj_callVV (As := [.int a0]) (st := []) X (c_Dr_addRule l dC dI h cI cL σ3 a0 _ hC) ⟨gj_cwB X tw_471 tw_8 tw_468 hd_Dr_addRule rfl rfl ⟨Nat.le_of_ble_eq_true rfl, Nat.le_of_ble_eq_true rfl⟩, X.2.2.2.2.1 _ tw_469, X.2.2.2.2.1 _ tw_470⟩ 26 rfl rfl hA rfl (Nat.le_of_ble_eq_true rfl) ⟨Nat.zero_le _, Nat.zero_le _⟩ d_We_unfoldRule_46 rfl (fun σ4 hC => ?_)
    refine gj_aload_n X d_We_unfoldRule_49 rfl 0 rfl ?_
    refine gj_get X inX7 22 rfl rfl 0 (by decide) tw_166 rfl rfl d_We_unfoldRule_50 ?_
    refine gj_iload_n X d_We_unfoldRule_53 rfl 1 rfl ?_
    refine gj_callVI (As := [.int a0]) (st := []) X (c_Gr_sizeOf l dC dI h cI cL σ4 a0 _ hC) ⟨gj_cwB X tw_280 tw_2 tw_472 hd_Gr_sizeOf rfl rfl ⟨Nat.le_of_ble_eq_true rfl, Nat.le_of_ble_eq_true rfl⟩, X.2.2.2.2.1 _ tw_278, X.2.2.2.2.1 _ tw_279⟩ 2 rfl rfl hA rfl (Nat.le_of_ble_eq_true rfl) ⟨Nat.zero_le _, Nat.zero_le _⟩ d_We_unfoldRule_54 rfl (fun r6 σ5 hC => ?_)
    refine gj_istore (L' := [(5, .int r6), (0, .ref (h 22)), (1, .int a0), (2, .int a1), (3, .long a2)]) X d_We_unfoldRule_57 (by decide) rfl ?_
    refine gj_iload_n X d_We_unfoldRule_59 rfl 3 rfl ?_
    refine gj_istore (L' := [(6, .int a1), (5, .int r6), (0, .ref (h 22)), (1, .int a0), (2, .int a1), (3, .long a2)]) X d_We_unfoldRule_60 (by decide) rfl ?_
    refine gj_lload_n X d_We_unfoldRule_62 rfl 5 rfl ?_
    refine gj_lstore (L' := [(7, .long a2), (6, .int a1), (5, .int r6), (0, .ref (h 22)), (1, .int a0), (2, .int a1), (3, .long a2)]) X d_We_unfoldRule_63 (by decide) rfl ?_
    refine gj_iconst (v := 0) X d_We_unfoldRule_65 (by decide) ?_
    refine gj_istore (L' := [(9, .int (0 : Int32)), (7, .long a2), (6, .int a1), (5, .int r6), (0, .ref (h 22)), (1, .int a0), (2, .int a1), (3, .long a2)]) X d_We_unfoldRule_66 (by decide) rfl ?_
    exact gj_loc [4, 5, 3, 2, 1, 0] rfl hC
  · have hC := hC.2 c0
    refine gj_iconst (v := 0) X d_We_unfoldRule_39 (by decide) ?_
    exact gj_zret X hr hlk (by decide) ⟨hC, Or.inl rfl⟩ d_We_unfoldRule_40
end
section
abbrev rm_We_unfold : Room := { frames := 3, cells := 0, slots := 0, locals := 84 }
set_option maxHeartbeats 4000000 in
set_option maxRecDepth 100000 in
theorem c_We_unfold (l : Launch) (dC : Nat → ClassId) (dI : Nat → Nat → Nat) (h : Nat → Nat) (cI cL : ClassId) (σ : gs_St) (a0 : Int32) (a1 : Int32) (a2 : Int64) (K : Int32 → gs_St → Prop) (hC : C_We_unfold a0 a1 a2 σ K) : gj_MI l y_We_unfold (gj_ws y_We_unfold b_We_unfold 10 (some .boolean)) rm_We_unfold (dC, dI) gs_C (gs_T cI cL) ((wG h cI cL) σ) (wG h cI cL) [.ref (h 22), .int a0, .int a1, .long a2] (fun r u => K r u ∧ (r = 0 ∨ r = 1)) := by
  refine gj_enterZ (by decide) (Nat.le_of_ble_eq_true rfl) (fun p e s m args below meth c A X hr hlk hA hnm => ?_)
  change gj_J p l e rm_We_unfold s m args below meth c 0 0 (MQ below (va_Qi (fun r u => K r u ∧ (r = 0 ∨ r = 1)) (gj_at (dC, dI) gs_C (gs_T cI cL) (wG h cI cL) A) A) args s 0 0 A) (dC, dI) gs_C A 10 0 [(0, .ref (h 22)), (1, .int a0), (2, .int a1), (3, .long a2)] [] ((wG h cI cL) σ)
  have hC := hC
    (fun (v_1 : Int32) (v_2 : Int32) (v_5 : Int64) (v_7 : Int32) (σ : gs_St) => gj_J p l e rm_We_unfold s m args below meth c 0 0 (MQ below (va_Qi (fun r u => K r u ∧ (r = 0 ∨ r = 1)) (gj_at (dC, dI) gs_C (gs_T cI cL) (wG h cI cL) A) A) args s 0 0 A) (dC, dI) gs_C A 10 6 [(0, .ref (h 22)), (1, .int v_1), (2, .int v_2), (5, .long v_5), (7, .int v_7)] [] ((wG h cI cL) σ))
    (by
      intro v_1 v_2 v_5 v_7 σ hC
      refine gj_iload X d_We_unfold_6 4 rfl ?_
      refine gj_aload_n X d_We_unfold_8 rfl 0 rfl ?_
      refine gj_get X inX7 22 rfl rfl 0 (by decide) tw_166 rfl rfl d_We_unfold_9 ?_
      refine gj_getN X inX2 2 rfl rfl 3 (by decide) tn_34 rfl rfl d_We_unfold_12 ?_
      refine gj_icmp_ge (tgt := 75) X d_We_unfold_15 (by decide) (fun c0 => ?_) (fun c0 => ?_)
      · have hC := hC.1 c0
        refine gj_iconst (v := 0) X d_We_unfold_75 (by decide) ?_
        exact gj_zret X hr hlk (by decide) ⟨hC, Or.inl rfl⟩ d_We_unfold_76
      · have hC := hC.2 c0
        refine gj_aload_n X d_We_unfold_18 rfl 0 rfl ?_
        refine gj_get X inX7 22 rfl rfl 0 (by decide) tw_166 rfl rfl d_We_unfold_19 ?_
        refine gj_iload X d_We_unfold_22 4 rfl ?_
        refine gj_callVI (As := [.int v_7]) (st := []) X (c_Gr_leftOf l dC dI h cI cL σ v_7 _ hC) ⟨gj_cwB X tw_284 tw_2 tw_456 hd_Gr_leftOf rfl rfl ⟨Nat.le_of_ble_eq_true rfl, Nat.le_of_ble_eq_true rfl⟩, X.2.2.2.2.1 _ tw_282, X.2.2.2.2.1 _ tw_283⟩ 2 rfl rfl hA rfl (Nat.le_of_ble_eq_true rfl) ⟨Nat.zero_le _, Nat.zero_le _⟩ d_We_unfold_24 rfl (fun r2 σ1 hC => ?_)
        refine gj_iload_n X d_We_unfold_27 rfl 1 rfl ?_
        refine gj_icmp_ne (tgt := 69) X d_We_unfold_28 (by decide) (fun c0 => ?_) (fun c0 => ?_)
        · have hC := hC.1 c0
          obtain ⟨v3, ev3⟩ : ∃ y : Int32, y = v_7 + 1 := ⟨_, rfl⟩
          have hC := hC v3 ev3
          refine gj_iinc (v := v3) (L' := [(7, .int v3), (0, .ref (h 22)), (1, .int v_1), (2, .int v_2), (5, .long v_5)]) X d_We_unfold_69 4 rfl (by rw [ev3]; rfl) (by decide) rfl ?_
          refine gj_goto (tgt := 6) X d_We_unfold_72 (by decide) ?_
          exact gj_loc [1, 2, 3, 4, 0] rfl hC
        · have hC := hC.2 c0
          refine gj_aload_n X d_We_unfold_31 rfl 0 rfl ?_
          refine gj_get X inX7 22 rfl rfl 1 (by decide) tw_167 rfl rfl d_We_unfold_32 ?_
          refine gj_iload X d_We_unfold_35 4 rfl ?_
          refine gj_iconst (v := 0) X d_We_unfold_37 (by decide) ?_
          refine gj_iload_n X d_We_unfold_38 rfl 2 rfl ?_
          refine gj_callVL (As := [.int v_7, .int (0 : Int32), .int v_2]) (st := []) X (c_Co_endingsOf l dC dI h cI cL σ1 v_7 (0 : Int32) v_2 _ hC) ⟨gj_cwB X tw_414 tw_5 tw_457 hd_Co_endingsOf rfl rfl ⟨Nat.le_of_ble_eq_true rfl, Nat.le_of_ble_eq_true rfl⟩, X.2.2.2.2.1 _ tw_412, X.2.2.2.2.1 _ tw_413⟩ 12 rfl rfl hA rfl (Nat.le_of_ble_eq_true rfl) ⟨Nat.zero_le _, Nat.zero_le _⟩ d_We_unfold_39 rfl (fun r5 σ4 hC => ?_)
          refine gj_lstore (L' := [(8, .long r5), (0, .ref (h 22)), (1, .int v_1), (2, .int v_2), (5, .long v_5), (7, .int v_7)]) X d_We_unfold_42 (by decide) rfl ?_
          refine gj_lload X d_We_unfold_44 4 rfl ?_
          refine gj_lload X d_We_unfold_46 0 rfl ?_
          refine gj_lcmp_ge (tgt := 62) X d_We_unfold_48 d_We_unfold_49 (by decide) (fun c0 => ?_) (fun c0 => ?_)
          · have hC := hC.1 c0
            refine gj_lload X d_We_unfold_62 4 rfl ?_
            refine gj_lload X d_We_unfold_64 0 rfl ?_
            refine gj_lsub X d_We_unfold_66 ?_
            refine gj_topl (fun v6 ev6 => ?_)
            have hC := hC v6 ev6
            refine gj_lstore (L' := [(5, .long v6), (8, .long r5), (0, .ref (h 22)), (1, .int v_1), (2, .int v_2), (7, .int v_7)]) X d_We_unfold_67 (by decide) rfl ?_
            obtain ⟨v7, ev7⟩ : ∃ y : Int32, y = v_7 + 1 := ⟨_, rfl⟩
            have hC := hC v7 ev7
            refine gj_iinc (v := v7) (L' := [(7, .int v7), (5, .long v6), (8, .long r5), (0, .ref (h 22)), (1, .int v_1), (2, .int v_2)]) X d_We_unfold_69 5 rfl (by rw [ev7]; rfl) (by decide) rfl ?_
            refine gj_goto (tgt := 6) X d_We_unfold_72 (by decide) ?_
            exact gj_loc [3, 4, 5, 1, 0] rfl hC
          · have hC := hC.2 c0
            refine gj_aload_n X d_We_unfold_52 rfl 1 rfl ?_
            refine gj_iload X d_We_unfold_53 5 rfl ?_
            refine gj_iload_n X d_We_unfold_55 rfl 3 rfl ?_
            refine gj_lload X d_We_unfold_56 4 rfl ?_
            refine gj_callVI (As := [.int v_7, .int v_2, .long v_5]) (st := []) X (c_We_unfoldRule l dC dI h cI cL σ4 v_7 v_2 v_5 _ hC) ⟨gj_cwB X tw_461 tw_7 tw_458 hd_We_unfoldRule rfl rfl ⟨Nat.le_of_ble_eq_true rfl, Nat.le_of_ble_eq_true rfl⟩, X.2.2.2.2.1 _ tw_460, X.2.2.2.2.1 _ ts_11⟩ 22 rfl rfl hA rfl (Nat.le_of_ble_eq_true rfl) ⟨Nat.zero_le _, Nat.zero_le _⟩ d_We_unfold_58 rfl (fun r9 σ8 hC => ?_)
            obtain ⟨hC, hb⟩ := hC
            exact gj_zret X hr hlk (gj_nz hb) ⟨hC, hb⟩ d_We_unfold_61)
  refine gj_lload_n X d_We_unfold_0 rfl 3 rfl ?_
  refine gj_lstore (L' := [(5, .long a2), (0, .ref (h 22)), (1, .int a0), (2, .int a1), (3, .long a2)]) X d_We_unfold_1 (by decide) rfl ?_
  refine gj_iconst (v := 0) X d_We_unfold_3 (by decide) ?_
  refine gj_istore (L' := [(7, .int (0 : Int32)), (5, .long a2), (0, .ref (h 22)), (1, .int a0), (2, .int a1), (3, .long a2)]) X d_We_unfold_4 (by decide) rfl ?_
  exact gj_loc [2, 3, 4, 1, 0] rfl hC
abbrev rm_Dr_addLeaf : Room := { frames := 0, cells := 0, slots := 0, locals := 0 }
set_option maxHeartbeats 4000000 in
set_option maxRecDepth 100000 in
theorem c_Dr_addLeaf (l : Launch) (dC : Nat → ClassId) (dI : Nat → Nat → Nat) (h : Nat → Nat) (cI cL : ClassId) (σ : gs_St) (a0 : Int32) (K : gs_St → Prop) (hC : C_Dr_addLeaf a0 σ K) : gj_MV 0 0 l y_Dr_addLeaf (gj_ws y_Dr_addLeaf b_Dr_addLeaf 2 (none)) rm_Dr_addLeaf (dC, dI) gs_C (gs_T cI cL) ((wG h cI cL) σ) (wG h cI cL) [.ref (h 26), .int a0] K := by
  refine gj_enterV (by decide) (Nat.le_of_ble_eq_true rfl) (fun p e s m args below meth c A X hr hlk hA hnm => ?_)
  change gj_J p l e rm_Dr_addLeaf s m args below meth c 0 0 (MQ below (va_Qv K (gj_at (dC, dI) gs_C (gs_T cI cL) (wG h cI cL) A) A) args s 0 0 A) (dC, dI) gs_C A 2 0 [(0, .ref (h 26)), (1, .int a0)] [] ((wG h cI cL) σ)
  refine gj_aload_n X d_Dr_addLeaf_0 rfl 0 rfl ?_
  refine gj_get X inX1 26 rfl rfl 3 (by decide) tw_155 rfl rfl d_Dr_addLeaf_1 ?_
  refine gj_bipush (v := 16) X d_Dr_addLeaf_4 (by decide) ?_
  refine gj_icmp_ge (tgt := 29) X d_Dr_addLeaf_6 (by decide) (fun c0 => ?_) (fun c0 => ?_)
  · have hC := hC.1 c0
    exact gj_vret X hr hlk hC d_Dr_addLeaf_29
  · have hC := hC.2 c0
    refine gj_aload_n X d_Dr_addLeaf_9 rfl 0 rfl ?_
    refine gj_get X inX1 26 rfl rfl 1 (by decide) tw_151 rfl rfl d_Dr_addLeaf_10 ?_
    refine gj_aload_n X d_Dr_addLeaf_13 rfl 0 rfl ?_
    refine gj_get X inX1 26 rfl rfl 3 (by decide) tw_155 rfl rfl d_Dr_addLeaf_14 ?_
    refine gj_iload_n X d_Dr_addLeaf_17 rfl 1 rfl ?_
    refine gj_iast (w' := (wG h cI cL) (gs_A σ 13 (upd (σ.2.1 13) (σ.1 13).toNatClampNeg a0))) X 28 0 rfl rfl hC.1 (set_wG_A13 h cI cL σ _) d_Dr_addLeaf_18 ?_
    refine gj_topw (wof := (wG h cI cL)) (fun σ1 eσ1 => ?_)
    have hC := hC.2 σ1 eσ1
    refine gj_aload_n X d_Dr_addLeaf_19 rfl 0 rfl ?_
    refine gj_dup X d_Dr_addLeaf_20 rfl ?_
    refine gj_get X inX1 26 rfl rfl 3 (by decide) tw_155 rfl rfl d_Dr_addLeaf_21 ?_
    refine gj_iconst (v := 1) X d_Dr_addLeaf_24 (by decide) ?_
    refine gj_iadd X d_Dr_addLeaf_25 ?_
    refine gj_put (w' := (wG h cI cL) (gs_I σ1 13 ((σ1.1 13) + (1 : Int32)))) X inX1 tyX1 tyX1_ok nmX1 26 rfl rfl 3 (by decide) tw_155 rfl rfl (tyX1_ok 3 (by decide)) rfl rfl (Nat.le_of_ble_eq_true rfl) (set_wG_I13 h cI cL σ1 _) d_Dr_addLeaf_26 ?_
    refine gj_topw (wof := (wG h cI cL)) (fun σ2 eσ2 => ?_)
    have hC := hC σ2 eσ2
    exact gj_vret X hr hlk hC d_Dr_addLeaf_29
abbrev rm_We_weave : Room := { frames := 4, cells := 0, slots := 0, locals := 113 }
set_option maxHeartbeats 4000000 in
set_option maxRecDepth 100000 in
theorem c_We_weave (l : Launch) (dC : Nat → ClassId) (dI : Nat → Nat → Nat) (h : Nat → Nat) (cI cL : ClassId) (σ : gs_St) (a0 : Int32) (a1 : Int32) (a2 : Int64) (K : Int32 → (gs_St × Bool) → Prop) (hC : C_We_weave a0 a1 a2 σ K) : gj_MI l y_We_weave (gj_ws y_We_weave b_We_weave 7 (some .int)) rm_We_weave (dC, dI) gs_C (gs_T cI cL) ((wG h cI cL) σ) (wGb h cI cL) [.ref (h 22), .int a0, .int a1, .long a2] K := by
  refine gj_enterI (by decide) (Nat.le_of_ble_eq_true rfl) (fun p e s m args below meth c A X hr hlk hA hnm => ?_)
  change gj_J p l e rm_We_weave s m args below meth c 0 0 (MQ below (va_Qi K (gj_at (dC, dI) gs_C (gs_T cI cL) (wGb h cI cL) A) A) args s 0 0 A) (dC, dI) gs_C A 7 0 [(0, .ref (h 22)), (1, .int a0), (2, .int a1), (3, .long a2)] [] ((wG h cI cL) σ)
  have hC := hC
    (fun (v_5 : Int32) (σ : gs_St) => gj_J p l e rm_We_weave s m args below meth c 0 0 (MQ below (va_Qi K (gj_at (dC, dI) gs_C (gs_T cI cL) (wGb h cI cL) A) A) args s 0 0 A) (dC, dI) gs_C A 7 34 [(0, .ref (h 22)), (5, .int v_5)] [] ((wG h cI cL) σ))
    (by
      intro v_5 σ hC
      refine gj_iload X d_We_weave_34 1 rfl ?_
      refine gj_sipush (v := 216) X d_We_weave_36 (by decide) ?_
      refine gj_icmp_ge (tgt := 150) X d_We_weave_39 (by decide) (fun c0 => ?_) (fun c0 => ?_)
      · have hC := hC.1 c0
        refine gj_aload_n X d_We_weave_150 rfl 0 rfl ?_
        refine gj_get X inX7 22 rfl rfl 3 (by decide) tw_169 rfl rfl d_We_weave_151 ?_
        refine gj_astore (L' := [(5, .ref (h 23)), (0, .ref (h 22))]) X d_We_weave_154 (by decide) rfl ?_
        refine gj_aload_n X d_We_weave_156 rfl 1 rfl ?_
        refine gj_aload_n X d_We_weave_157 rfl 1 rfl ?_
        refine gj_get X inX7 22 rfl rfl 4 (by decide) tw_170 rfl rfl d_We_weave_158 ?_
        refine gj_put (w' := wX h (h 26) (h 26) cI cL σ) X inX7 tyX7 tyX7_ok nmX7 22 rfl rfl 3 (by decide) tw_169 rfl rfl (tyX7_ok 3 (by decide)) rfl rfl (Nat.le_of_ble_eq_true rfl) rfl d_We_weave_161 ?_
        refine gj_aload_n X d_We_weave_164 rfl 1 rfl ?_
        refine gj_aload X d_We_weave_165 0 rfl ?_
        refine gj_put (w' := wX h (h 26) (h 23) cI cL σ) X inX7 tyX7 tyX7_ok nmX7 22 rfl rfl 4 (by decide) tw_170 rfl rfl (tyX7_ok 4 (by decide)) rfl rfl (Nat.le_of_ble_eq_true rfl) rfl d_We_weave_167 ?_
        refine gj_sub (w' := wG (gs_sw h) cI cL (gs_sS σ)) [0, 1, 2, 3, 4, 5, 6, 7, 8, 9, 10, 11, 12, 13, 14, 15, 16, 17, 18, 19, 20, 21, 22, 26, 27, 28, 23, 24, 25, 29, 30] (by decide) rfl ?_
        refine gj_aload_n X d_We_weave_170 rfl 1 rfl ?_
        refine gj_get X inX7 22 rfl rfl 3 (by decide) tw_169 rfl rfl d_We_weave_171 ?_
        refine gj_getN X inX1 23 rfl rfl 2 (by decide) tn_154 rfl rfl d_We_weave_174 ?_
        exact gj_iret (wof := (wGb h cI cL)) (u := (gs_sS σ, true)) X hr hlk hC d_We_weave_177
      · have hC := hC.2 c0
        refine gj_aload_n X d_We_weave_42 rfl 0 rfl ?_
        refine gj_get X inX7 22 rfl rfl 2 (by decide) tw_168 rfl rfl d_We_weave_43 ?_
        refine gj_getN X inX6 18 rfl rfl 3 (by decide) tn_127 rfl rfl d_We_weave_46 ?_
        refine gj_if_le (tgt := 150) X d_We_weave_49 (by decide) (fun c0 => ?_) (fun c0 => ?_)
        · have hC := hC.1 c0
          refine gj_aload_n X d_We_weave_150 rfl 0 rfl ?_
          refine gj_get X inX7 22 rfl rfl 3 (by decide) tw_169 rfl rfl d_We_weave_151 ?_
          refine gj_astore (L' := [(5, .ref (h 23)), (0, .ref (h 22))]) X d_We_weave_154 (by decide) rfl ?_
          refine gj_aload_n X d_We_weave_156 rfl 1 rfl ?_
          refine gj_aload_n X d_We_weave_157 rfl 1 rfl ?_
          refine gj_get X inX7 22 rfl rfl 4 (by decide) tw_170 rfl rfl d_We_weave_158 ?_
          refine gj_put (w' := wX h (h 26) (h 26) cI cL σ) X inX7 tyX7 tyX7_ok nmX7 22 rfl rfl 3 (by decide) tw_169 rfl rfl (tyX7_ok 3 (by decide)) rfl rfl (Nat.le_of_ble_eq_true rfl) rfl d_We_weave_161 ?_
          refine gj_aload_n X d_We_weave_164 rfl 1 rfl ?_
          refine gj_aload X d_We_weave_165 0 rfl ?_
          refine gj_put (w' := wX h (h 26) (h 23) cI cL σ) X inX7 tyX7 tyX7_ok nmX7 22 rfl rfl 4 (by decide) tw_170 rfl rfl (tyX7_ok 4 (by decide)) rfl rfl (Nat.le_of_ble_eq_true rfl) rfl d_We_weave_167 ?_
          refine gj_sub (w' := wG (gs_sw h) cI cL (gs_sS σ)) [0, 1, 2, 3, 4, 5, 6, 7, 8, 9, 10, 11, 12, 13, 14, 15, 16, 17, 18, 19, 20, 21, 22, 26, 27, 28, 23, 24, 25, 29, 30] (by decide) rfl ?_
          refine gj_aload_n X d_We_weave_170 rfl 1 rfl ?_
          refine gj_get X inX7 22 rfl rfl 3 (by decide) tw_169 rfl rfl d_We_weave_171 ?_
          refine gj_getN X inX1 23 rfl rfl 2 (by decide) tn_154 rfl rfl d_We_weave_174 ?_
          exact gj_iret (wof := (wGb h cI cL)) (u := (gs_sS σ, true)) X hr hlk hC d_We_weave_177
        · have hC := hC.2 c0
          refine gj_aload_n X d_We_weave_52 rfl 0 rfl ?_
          refine gj_get X inX7 22 rfl rfl 2 (by decide) tw_168 rfl rfl d_We_weave_53 ?_
          refine gj_dup X d_We_weave_56 rfl ?_
          refine gj_getN X inX6 18 rfl rfl 3 (by decide) tn_127 rfl rfl d_We_weave_57 ?_
          refine gj_iconst (v := 1) X d_We_weave_60 (by decide) ?_
          refine gj_isub X d_We_weave_61 ?_
          refine gj_putN (w' := (wG h cI cL) (gs_I σ 8 ((σ.1 8) - (1 : Int32)))) X inX6 tyX6 tyX6_ok nmX6 18 rfl rfl 3 (by decide) tn_127 rfl rfl (tyX6_ok 3 (by decide)) rfl rfl (Nat.le_of_ble_eq_true rfl) (set_wG_I8 h cI cL σ _) d_We_weave_62 ?_
          refine gj_topw (wof := (wG h cI cL)) (fun σ5 eσ5 => ?_)
          have hC := hC σ5 eσ5
          refine gj_aload_n X d_We_weave_65 rfl 0 rfl ?_
          refine gj_get X inX7 22 rfl rfl 2 (by decide) tw_168 rfl rfl d_We_weave_66 ?_
          refine gj_getN X inX6 18 rfl rfl 0 (by decide) tn_119 rfl rfl d_We_weave_69 ?_
          refine gj_aload_n X d_We_weave_72 rfl 0 rfl ?_
          refine gj_get X inX7 22 rfl rfl 2 (by decide) tw_168 rfl rfl d_We_weave_73 ?_
          refine gj_getN X inX6 18 rfl rfl 3 (by decide) tn_127 rfl rfl d_We_weave_76 ?_
          refine gj_iald X 19 0 rfl rfl hC.1 d_We_weave_79 ?_
          have hC := hC.2
          refine gj_topi (fun v6 ev6 => ?_)
          have hC := hC v6 ev6
          refine gj_istore (L' := [(6, .int v6), (0, .ref (h 22)), (5, .int v_5)]) X d_We_weave_80 (by decide) rfl ?_
          refine gj_iload X d_We_weave_82 0 rfl ?_
          refine gj_callSNI (As := [.int v6]) (st := []) X (c_Gl_isNonterminal l dC dI h cI cL σ5 v6 _ hC) ⟨gj_cwN X tw_249 tw_1 tn_447 hd_Gl_isNonterminal rfl rfl ⟨Nat.le_of_ble_eq_true rfl, Nat.le_of_ble_eq_true rfl⟩, X.2.2.2.2.1 _ tw_248, trivial⟩ hA rfl (Nat.le_of_ble_eq_true rfl) ⟨Nat.zero_le _, Nat.zero_le _⟩ d_We_weave_84 rfl (fun r8 σ7 hC => ?_)
          obtain ⟨hC, hb⟩ := hC
          refine gj_if_ne (tgt := 102) X d_We_weave_87 (by decide) (fun c0 => ?_) (fun c0 => ?_)
          · have hC := hC.1 c0
            refine gj_aload_n X d_We_weave_102 rfl 1 rfl ?_
            refine gj_iload X d_We_weave_103 0 rfl ?_
            refine gj_aload_n X d_We_weave_105 rfl 1 rfl ?_
            refine gj_get X inX7 22 rfl rfl 2 (by decide) tw_168 rfl rfl d_We_weave_106 ?_
            refine gj_getN X inX6 18 rfl rfl 1 (by decide) tn_121 rfl rfl d_We_weave_109 ?_
            refine gj_aload_n X d_We_weave_112 rfl 1 rfl ?_
            refine gj_get X inX7 22 rfl rfl 2 (by decide) tw_168 rfl rfl d_We_weave_113 ?_
            refine gj_getN X inX6 18 rfl rfl 3 (by decide) tn_127 rfl rfl d_We_weave_116 ?_
            refine gj_iald X 20 0 rfl rfl hC.1 d_We_weave_119 ?_
            have hC := hC.2
            refine gj_aload_n X d_We_weave_120 rfl 1 rfl ?_
            refine gj_get X inX7 22 rfl rfl 2 (by decide) tw_168 rfl rfl d_We_weave_121 ?_
            refine gj_getN X inX6 18 rfl rfl 2 (by decide) tn_125 rfl rfl d_We_weave_124 ?_
            refine gj_aload_n X d_We_weave_127 rfl 1 rfl ?_
            refine gj_get X inX7 22 rfl rfl 2 (by decide) tw_168 rfl rfl d_We_weave_128 ?_
            refine gj_getN X inX6 18 rfl rfl 3 (by decide) tn_127 rfl rfl d_We_weave_131 ?_
            refine gj_lald X 21 1 rfl rfl hC.1 d_We_weave_134 ?_
            have hC := hC.2
            refine gj_callVI (As := [.int v6, .int (σ7.2.1 9 (σ7.1 8).toNatClampNeg), .long (σ7.2.2 4 (σ7.1 8).toNatClampNeg)]) (st := []) X (c_We_unfold l dC dI h cI cL σ7 v6 (σ7.2.1 9 (σ7.1 8).toNatClampNeg) (σ7.2.2 4 (σ7.1 8).toNatClampNeg) _ hC) ⟨gj_cwB X tw_455 tw_7 tw_452 hd_We_unfold rfl rfl ⟨Nat.le_of_ble_eq_true rfl, Nat.le_of_ble_eq_true rfl⟩, X.2.2.2.2.1 _ tw_454, X.2.2.2.2.1 _ ts_10⟩ 22 rfl rfl hA rfl (Nat.le_of_ble_eq_true rfl) ⟨Nat.zero_le _, Nat.zero_le _⟩ d_We_weave_135 rfl (fun r10 σ9 hC => ?_)
            obtain ⟨hC, hb⟩ := hC
            refine gj_if_ne (tgt := 144) X d_We_weave_138 (by decide) (fun c0 => ?_) (fun c0 => ?_)
            · have hC := hC.1 c0
              obtain ⟨v11, ev11⟩ : ∃ y : Int32, y = v_5 + 1 := ⟨_, rfl⟩
              have hC := hC v11 ev11
              refine gj_iinc (v := v11) (L' := [(5, .int v11), (6, .int v6), (0, .ref (h 22))]) X d_We_weave_144 2 rfl (by rw [ev11]; rfl) (by decide) rfl ?_
              refine gj_goto (tgt := 34) X d_We_weave_147 (by decide) ?_
              exact gj_loc [2, 0] rfl hC
            · have hC := hC.2 c0
              refine gj_bipush (v := -2) X d_We_weave_141 (by decide) ?_
              exact gj_iret (wof := (wGb h cI cL)) (u := (σ9, false)) X hr hlk hC d_We_weave_143
          · have hC := hC.2 c0
            refine gj_aload_n X d_We_weave_90 rfl 1 rfl ?_
            refine gj_get X inX7 22 rfl rfl 4 (by decide) tw_170 rfl rfl d_We_weave_91 ?_
            refine gj_iload X d_We_weave_94 0 rfl ?_
            refine gj_callVV (As := [.int v6]) (st := []) X (c_Dr_addLeaf l dC dI h cI cL σ7 v6 _ hC) ⟨gj_cwB X tw_451 tw_8 tw_448 hd_Dr_addLeaf rfl rfl ⟨Nat.le_of_ble_eq_true rfl, Nat.le_of_ble_eq_true rfl⟩, X.2.2.2.2.1 _ tw_449, X.2.2.2.2.1 _ tw_450⟩ 26 rfl rfl hA rfl (Nat.le_of_ble_eq_true rfl) ⟨Nat.zero_le _, Nat.zero_le _⟩ d_We_weave_96 rfl (fun σ12 hC => ?_)
            refine gj_goto (tgt := 144) X d_We_weave_99 (by decide) ?_
            obtain ⟨v13, ev13⟩ : ∃ y : Int32, y = v_5 + 1 := ⟨_, rfl⟩
            have hC := hC v13 ev13
            refine gj_iinc (v := v13) (L' := [(5, .int v13), (6, .int v6), (0, .ref (h 22))]) X d_We_weave_144 2 rfl (by rw [ev13]; rfl) (by decide) rfl ?_
            refine gj_goto (tgt := 34) X d_We_weave_147 (by decide) ?_
            exact gj_loc [2, 0] rfl hC)
  refine gj_aload_n X d_We_weave_0 rfl 0 rfl ?_
  refine gj_get X inX7 22 rfl rfl 4 (by decide) tw_170 rfl rfl d_We_weave_1 ?_
  refine gj_callVV (As := []) (st := []) X (c_Dr_clear l dC dI h cI cL σ _ hC) ⟨gj_cwB X tw_442 tw_8 tw_439 hd_Dr_clear rfl rfl ⟨Nat.le_of_ble_eq_true rfl, Nat.le_of_ble_eq_true rfl⟩, X.2.2.2.2.1 _ tw_440, X.2.2.2.2.1 _ tw_441⟩ 26 rfl rfl hA rfl (Nat.le_of_ble_eq_true rfl) ⟨Nat.zero_le _, Nat.zero_le _⟩ d_We_weave_4 rfl (fun σ1 hC => ?_)
  refine gj_aload_n X d_We_weave_7 rfl 0 rfl ?_
  refine gj_get X inX7 22 rfl rfl 2 (by decide) tw_168 rfl rfl d_We_weave_8 ?_
  refine gj_iconst (v := 0) X d_We_weave_11 (by decide) ?_
  refine gj_iload_n X d_We_weave_12 rfl 1 rfl ?_
  refine gj_iload_n X d_We_weave_13 rfl 2 rfl ?_
  refine gj_lload_n X d_We_weave_14 rfl 3 rfl ?_
  refine gj_callVV (As := [.int (0 : Int32), .int a0, .int a1, .long a2]) (st := []) X (c_Pi_put l dC dI h cI cL σ1 (0 : Int32) a0 a1 a2 _ hC) ⟨gj_cwB X tw_446 tw_6 tw_443 hd_Pi_put rfl rfl ⟨Nat.le_of_ble_eq_true rfl, Nat.le_of_ble_eq_true rfl⟩, X.2.2.2.2.1 _ tw_444, X.2.2.2.2.1 _ tw_445⟩ 18 rfl rfl hA rfl (Nat.le_of_ble_eq_true rfl) ⟨Nat.zero_le _, Nat.zero_le _⟩ d_We_weave_15 rfl (fun σ2 hC => ?_)
  refine gj_aload_n X d_We_weave_18 rfl 0 rfl ?_
  refine gj_get X inX7 22 rfl rfl 2 (by decide) tw_168 rfl rfl d_We_weave_19 ?_
  refine gj_iconst (v := 1) X d_We_weave_22 (by decide) ?_
  refine gj_putN (w' := (wG h cI cL) (gs_I σ2 8 (1 : Int32))) X inX6 tyX6 tyX6_ok nmX6 18 rfl rfl 3 (by decide) tn_127 rfl rfl (tyX6_ok 3 (by decide)) rfl rfl (Nat.le_of_ble_eq_true rfl) (set_wG_I8 h cI cL σ2 _) d_We_weave_23 ?_
  refine gj_topw (wof := (wG h cI cL)) (fun σ3 eσ3 => ?_)
  have hC := hC σ3 eσ3
  refine gj_aload_n X d_We_weave_26 rfl 0 rfl ?_
  refine gj_iconst (v := 1) X d_We_weave_27 (by decide) ?_
  refine gj_put (w' := (wG h cI cL) (gs_I σ3 9 (1 : Int32))) X inX7 tyX7 tyX7_ok nmX7 22 rfl rfl 5 (by decide) tw_171 rfl rfl (tyX7_ok 5 (by decide)) rfl rfl (Nat.le_of_ble_eq_true rfl) (set_wG_I9 h cI cL σ3 _) d_We_weave_28 ?_
  refine gj_topw (wof := (wG h cI cL)) (fun σ4 eσ4 => ?_)
  have hC := hC σ4 eσ4
  refine gj_iconst (v := 0) X d_We_weave_31 (by decide) ?_
  refine gj_istore (L' := [(5, .int (0 : Int32)), (0, .ref (h 22)), (1, .int a0), (2, .int a1), (3, .long a2)]) X d_We_weave_32 (by decide) rfl ?_
  exact gj_loc [1, 0] rfl hC
abbrev rm_Gl_draw : Room := { frames := 7, cells := 0, slots := 0, locals := 165 }
set_option maxHeartbeats 4000000 in
set_option maxRecDepth 100000 in
theorem c_Gl_draw (l : Launch) (dC : Nat → ClassId) (dI : Nat → Nat → Nat) (h : Nat → Nat) (cI cL : ClassId) (σ : gs_St) (a0 : Int32) (a1 : Int32) (a2 : Int64) (K : Int32 → (gs_St × Bool) → Prop) (hC : C_Gl_draw a0 a1 a2 σ K) : gj_MI l y_Gl_draw (gj_ws y_Gl_draw b_Gl_draw 5 (some .int)) rm_Gl_draw (dC, dI) gs_C (gs_T cI cL) ((wG h cI cL) σ) (wGb h cI cL) [.ref (h 0), .int a0, .int a1, .long a2] K := by
  refine gj_enterI (by decide) (Nat.le_of_ble_eq_true rfl) (fun p e s m args below meth c A X hr hlk hA hnm => ?_)
  change gj_J p l e rm_Gl_draw s m args below meth c 0 0 (MQ below (va_Qi K (gj_at (dC, dI) gs_C (gs_T cI cL) (wGb h cI cL) A) A) args s 0 0 A) (dC, dI) gs_C A 5 0 [(0, .ref (h 0)), (1, .int a0), (2, .int a1), (3, .long a2)] [] ((wG h cI cL) σ)
  refine gj_lload_n X d_Gl_draw_0 rfl 3 rfl ?_
  refine gj_lconst (v := 0) X d_Gl_draw_1 (by decide) ?_
  refine gj_lcmp_lt (tgt := 17) X d_Gl_draw_2 d_Gl_draw_3 (by decide) (fun c0 => ?_) (fun c0 => ?_)
  · have hC := hC.1 c0
    refine gj_iconst (v := -1) X d_Gl_draw_17 (by decide) ?_
    exact gj_iret (wof := (wGb h cI cL)) (u := (σ, false)) X hr hlk hC d_Gl_draw_18
  · have hC := hC.2 c0
    refine gj_lload_n X d_Gl_draw_6 rfl 3 rfl ?_
    refine gj_aload_n X d_Gl_draw_7 rfl 0 rfl ?_
    refine gj_iload_n X d_Gl_draw_8 rfl 1 rfl ?_
    refine gj_iload_n X d_Gl_draw_9 rfl 2 rfl ?_
    refine gj_callVL (As := [.int a0, .int a1]) (st := [.long a2]) X (c_Gl_trees l dC dI h cI cL σ a0 a1 _ hC) ⟨gj_cwB X tw_367 tw_1 tw_434 hd_Gl_trees rfl rfl ⟨Nat.le_of_ble_eq_true rfl, Nat.le_of_ble_eq_true rfl⟩, X.2.2.2.2.1 _ tw_365, X.2.2.2.2.1 _ tw_366⟩ 0 rfl rfl hA rfl (Nat.le_of_ble_eq_true rfl) ⟨Nat.zero_le _, Nat.zero_le _⟩ d_Gl_draw_10 rfl (fun r2 σ1 hC => ?_)
    refine gj_lcmp_lt (tgt := 19) X d_Gl_draw_13 d_Gl_draw_14 (by decide) (fun c0 => ?_) (fun c0 => ?_)
    · have hC := hC.1 c0
      refine gj_aload_n X d_Gl_draw_19 rfl 0 rfl ?_
      refine gj_get X inX8 0 rfl rfl 7 (by decide) tw_215 rfl rfl d_Gl_draw_20 ?_
      refine gj_iload_n X d_Gl_draw_23 rfl 1 rfl ?_
      refine gj_iload_n X d_Gl_draw_24 rfl 2 rfl ?_
      refine gj_lload_n X d_Gl_draw_25 rfl 3 rfl ?_
      refine gj_callVI (As := [.int a0, .int a1, .long a2]) (st := []) X (c_We_weave l dC dI h cI cL σ1 a0 a1 a2 _ hC) ⟨gj_cwB X tw_438 tw_7 tw_435 hd_We_weave rfl rfl ⟨Nat.le_of_ble_eq_true rfl, Nat.le_of_ble_eq_true rfl⟩, X.2.2.2.2.1 _ tw_436, X.2.2.2.2.1 _ tw_437⟩ 22 rfl rfl hA rfl (Nat.le_of_ble_eq_true rfl) ⟨Nat.zero_le _, Nat.zero_le _⟩ d_Gl_draw_26 rfl (fun r4 σ3 hC => ?_)
      exact gj_iret (wof := (wGb h cI cL)) (u := σ3) X hr hlk hC d_Gl_draw_29
    · have hC := hC.2 c0
      refine gj_iconst (v := -1) X d_Gl_draw_17 (by decide) ?_
      exact gj_iret (wof := (wGb h cI cL)) (u := (σ1, false)) X hr hlk hC d_Gl_draw_18
abbrev rm_We_ruleAt : Room := { frames := 0, cells := 0, slots := 0, locals := 0 }
set_option maxHeartbeats 4000000 in
set_option maxRecDepth 100000 in
theorem c_We_ruleAt (l : Launch) (dC : Nat → ClassId) (dI : Nat → Nat → Nat) (h : Nat → Nat) (cI cL : ClassId) (σ : gs_St) (a0 : Int32) (K : Int32 → gs_St → Prop) (hC : C_We_ruleAt a0 σ K) : gj_MI l y_We_ruleAt (gj_ws y_We_ruleAt b_We_ruleAt 2 (some .int)) rm_We_ruleAt (dC, dI) gs_C (gs_T cI cL) ((wG h cI cL) σ) (wG h cI cL) [.ref (h 22), .int a0] K := by
  refine gj_enterI (by decide) (Nat.le_of_ble_eq_true rfl) (fun p e s m args below meth c A X hr hlk hA hnm => ?_)
  change gj_J p l e rm_We_ruleAt s m args below meth c 0 0 (MQ below (va_Qi K (gj_at (dC, dI) gs_C (gs_T cI cL) (wG h cI cL) A) A) args s 0 0 A) (dC, dI) gs_C A 2 0 [(0, .ref (h 22)), (1, .int a0)] [] ((wG h cI cL) σ)
  refine gj_iload_n X d_We_ruleAt_0 rfl 1 rfl ?_
  refine gj_if_lt (tgt := 27) X d_We_ruleAt_1 (by decide) (fun c0 => ?_) (fun c0 => ?_)
  · have hC := hC.1 c0
    refine gj_iconst (v := -1) X d_We_ruleAt_27 (by decide) ?_
    exact gj_iret X hr hlk hC d_We_ruleAt_28
  · have hC := hC.2 c0
    refine gj_iload_n X d_We_ruleAt_4 rfl 1 rfl ?_
    refine gj_aload_n X d_We_ruleAt_5 rfl 0 rfl ?_
    refine gj_get X inX7 22 rfl rfl 3 (by decide) tw_169 rfl rfl d_We_ruleAt_6 ?_
    refine gj_getN X inX1 23 rfl rfl 2 (by decide) tn_154 rfl rfl d_We_ruleAt_9 ?_
    refine gj_icmp_ge (tgt := 27) X d_We_ruleAt_12 (by decide) (fun c0 => ?_) (fun c0 => ?_)
    · have hC := hC.1 c0
      refine gj_iconst (v := -1) X d_We_ruleAt_27 (by decide) ?_
      exact gj_iret X hr hlk hC d_We_ruleAt_28
    · have hC := hC.2 c0
      refine gj_aload_n X d_We_ruleAt_15 rfl 0 rfl ?_
      refine gj_get X inX7 22 rfl rfl 3 (by decide) tw_169 rfl rfl d_We_ruleAt_16 ?_
      refine gj_getN X inX1 23 rfl rfl 0 (by decide) tn_150 rfl rfl d_We_ruleAt_19 ?_
      refine gj_iload_n X d_We_ruleAt_22 rfl 1 rfl ?_
      refine gj_iald X 24 0 rfl rfl hC.1 d_We_ruleAt_23 ?_
      have hC := hC.2
      refine gj_goto (tgt := 28) X d_We_ruleAt_24 (by decide) ?_
      exact gj_iret X hr hlk hC d_We_ruleAt_28
abbrev rm_Gl_row : Room := { frames := 1, cells := 0, slots := 0, locals := 21 }
set_option maxHeartbeats 4000000 in
set_option maxRecDepth 100000 in
theorem c_Gl_row (l : Launch) (dC : Nat → ClassId) (dI : Nat → Nat → Nat) (h : Nat → Nat) (cI cL : ClassId) (σ : gs_St) (a0 : Int32) (K : Int32 → gs_St → Prop) (hC : C_Gl_row a0 σ K) : gj_MI l y_Gl_row (gj_ws y_Gl_row b_Gl_row 2 (some .int)) rm_Gl_row (dC, dI) gs_C (gs_T cI cL) ((wG h cI cL) σ) (wG h cI cL) [.ref (h 0), .int a0] K := by
  refine gj_enterI (by decide) (Nat.le_of_ble_eq_true rfl) (fun p e s m args below meth c A X hr hlk hA hnm => ?_)
  change gj_J p l e rm_Gl_row s m args below meth c 0 0 (MQ below (va_Qi K (gj_at (dC, dI) gs_C (gs_T cI cL) (wG h cI cL) A) A) args s 0 0 A) (dC, dI) gs_C A 2 0 [(0, .ref (h 0)), (1, .int a0)] [] ((wG h cI cL) σ)
  refine gj_aload_n X d_Gl_row_0 rfl 0 rfl ?_
  refine gj_get X inX8 0 rfl rfl 7 (by decide) tw_215 rfl rfl d_Gl_row_1 ?_
  refine gj_iload_n X d_Gl_row_4 rfl 1 rfl ?_
  refine gj_callVI (As := [.int a0]) (st := []) X (c_We_ruleAt l dC dI h cI cL σ a0 _ hC) ⟨gj_cwB X tw_488 tw_7 tw_485 hd_We_ruleAt rfl rfl ⟨Nat.le_of_ble_eq_true rfl, Nat.le_of_ble_eq_true rfl⟩, X.2.2.2.2.1 _ tw_486, X.2.2.2.2.1 _ tw_487⟩ 22 rfl rfl hA rfl (Nat.le_of_ble_eq_true rfl) ⟨Nat.zero_le _, Nat.zero_le _⟩ d_Gl_row_5 rfl (fun r2 σ1 hC => ?_)
  exact gj_iret X hr hlk hC d_Gl_row_8
abbrev rm_We_leafAt : Room := { frames := 0, cells := 0, slots := 0, locals := 0 }
set_option maxHeartbeats 4000000 in
set_option maxRecDepth 100000 in
theorem c_We_leafAt (l : Launch) (dC : Nat → ClassId) (dI : Nat → Nat → Nat) (h : Nat → Nat) (cI cL : ClassId) (σ : gs_St) (a0 : Int32) (K : Int32 → gs_St → Prop) (hC : C_We_leafAt a0 σ K) : gj_MI l y_We_leafAt (gj_ws y_We_leafAt b_We_leafAt 2 (some .int)) rm_We_leafAt (dC, dI) gs_C (gs_T cI cL) ((wG h cI cL) σ) (wG h cI cL) [.ref (h 22), .int a0] K := by
  refine gj_enterI (by decide) (Nat.le_of_ble_eq_true rfl) (fun p e s m args below meth c A X hr hlk hA hnm => ?_)
  change gj_J p l e rm_We_leafAt s m args below meth c 0 0 (MQ below (va_Qi K (gj_at (dC, dI) gs_C (gs_T cI cL) (wG h cI cL) A) A) args s 0 0 A) (dC, dI) gs_C A 2 0 [(0, .ref (h 22)), (1, .int a0)] [] ((wG h cI cL) σ)
  refine gj_iload_n X d_We_leafAt_0 rfl 1 rfl ?_
  refine gj_if_lt (tgt := 27) X d_We_leafAt_1 (by decide) (fun c0 => ?_) (fun c0 => ?_)
  · have hC := hC.1 c0
    refine gj_iconst (v := -1) X d_We_leafAt_27 (by decide) ?_
    exact gj_iret X hr hlk hC d_We_leafAt_28
  · have hC := hC.2 c0
    refine gj_iload_n X d_We_leafAt_4 rfl 1 rfl ?_
    refine gj_aload_n X d_We_leafAt_5 rfl 0 rfl ?_
    refine gj_get X inX7 22 rfl rfl 3 (by decide) tw_169 rfl rfl d_We_leafAt_6 ?_
    refine gj_getN X inX1 23 rfl rfl 3 (by decide) tn_156 rfl rfl d_We_leafAt_9 ?_
    refine gj_icmp_ge (tgt := 27) X d_We_leafAt_12 (by decide) (fun c0 => ?_) (fun c0 => ?_)
    · have hC := hC.1 c0
      refine gj_iconst (v := -1) X d_We_leafAt_27 (by decide) ?_
      exact gj_iret X hr hlk hC d_We_leafAt_28
    · have hC := hC.2 c0
      refine gj_aload_n X d_We_leafAt_15 rfl 0 rfl ?_
      refine gj_get X inX7 22 rfl rfl 3 (by decide) tw_169 rfl rfl d_We_leafAt_16 ?_
      refine gj_getN X inX1 23 rfl rfl 1 (by decide) tn_152 rfl rfl d_We_leafAt_19 ?_
      refine gj_iload_n X d_We_leafAt_22 rfl 1 rfl ?_
      refine gj_iald X 25 0 rfl rfl hC.1 d_We_leafAt_23 ?_
      have hC := hC.2
      refine gj_goto (tgt := 28) X d_We_leafAt_24 (by decide) ?_
      exact gj_iret X hr hlk hC d_We_leafAt_28
abbrev rm_Gl_leaf : Room := { frames := 1, cells := 0, slots := 0, locals := 21 }
set_option maxHeartbeats 4000000 in
set_option maxRecDepth 100000 in
theorem c_Gl_leaf (l : Launch) (dC : Nat → ClassId) (dI : Nat → Nat → Nat) (h : Nat → Nat) (cI cL : ClassId) (σ : gs_St) (a0 : Int32) (K : Int32 → gs_St → Prop) (hC : C_Gl_leaf a0 σ K) : gj_MI l y_Gl_leaf (gj_ws y_Gl_leaf b_Gl_leaf 2 (some .int)) rm_Gl_leaf (dC, dI) gs_C (gs_T cI cL) ((wG h cI cL) σ) (wG h cI cL) [.ref (h 0), .int a0] K := by
  refine gj_enterI (by decide) (Nat.le_of_ble_eq_true rfl) (fun p e s m args below meth c A X hr hlk hA hnm => ?_)
  change gj_J p l e rm_Gl_leaf s m args below meth c 0 0 (MQ below (va_Qi K (gj_at (dC, dI) gs_C (gs_T cI cL) (wG h cI cL) A) A) args s 0 0 A) (dC, dI) gs_C A 2 0 [(0, .ref (h 0)), (1, .int a0)] [] ((wG h cI cL) σ)
  refine gj_aload_n X d_Gl_leaf_0 rfl 0 rfl ?_
  refine gj_get X inX8 0 rfl rfl 7 (by decide) tw_215 rfl rfl d_Gl_leaf_1 ?_
  refine gj_iload_n X d_Gl_leaf_4 rfl 1 rfl ?_
  refine gj_callVI (As := [.int a0]) (st := []) X (c_We_leafAt l dC dI h cI cL σ a0 _ hC) ⟨gj_cwB X tw_496 tw_7 tw_493 hd_We_leafAt rfl rfl ⟨Nat.le_of_ble_eq_true rfl, Nat.le_of_ble_eq_true rfl⟩, X.2.2.2.2.1 _ tw_494, X.2.2.2.2.1 _ tw_495⟩ 22 rfl rfl hA rfl (Nat.le_of_ble_eq_true rfl) ⟨Nat.zero_le _, Nat.zero_le _⟩ d_Gl_leaf_5 rfl (fun r2 σ1 hC => ?_)
  exact gj_iret X hr hlk hC d_Gl_leaf_8
abbrev rm_Li_add : Room := { frames := 0, cells := 0, slots := 0, locals := 0 }
set_option maxHeartbeats 4000000 in
set_option maxRecDepth 100000 in
theorem c_Li_add (l : Launch) (dC : Nat → ClassId) (dI : Nat → Nat → Nat) (h : Nat → Nat) (cI cL : ClassId) (σ : gs_St) (a0 : Int32) (K : Int32 → gs_St → Prop) (hC : C_Li_add a0 σ K) : gj_MI l y_Li_add (gj_ws y_Li_add b_Li_add 2 (some .int)) rm_Li_add (dC, dI) gs_C (gs_T cI cL) ((wG h cI cL) σ) (wG h cI cL) [.ref (h 29), .int a0] K := by
  refine gj_enterI (by decide) (Nat.le_of_ble_eq_true rfl) (fun p e s m args below meth c A X hr hlk hA hnm => ?_)
  change gj_J p l e rm_Li_add s m args below meth c 0 0 (MQ below (va_Qi K (gj_at (dC, dI) gs_C (gs_T cI cL) (wG h cI cL) A) A) args s 0 0 A) (dC, dI) gs_C A 2 0 [(0, .ref (h 29)), (1, .int a0)] [] ((wG h cI cL) σ)
  refine gj_aload_n X d_Li_add_0 rfl 0 rfl ?_
  refine gj_get X inX5 29 rfl rfl 4 (by decide) tw_195 rfl rfl d_Li_add_1 ?_
  refine gj_sipush (v := 200) X d_Li_add_4 (by decide) ?_
  refine gj_icmp_lt (tgt := 12) X d_Li_add_7 (by decide) (fun c0 => ?_) (fun c0 => ?_)
  · have hC := hC.1 c0
    refine gj_aload_n X d_Li_add_12 rfl 0 rfl ?_
    refine gj_get X inX5 29 rfl rfl 3 (by decide) tw_194 rfl rfl d_Li_add_13 ?_
    refine gj_aload_n X d_Li_add_16 rfl 0 rfl ?_
    refine gj_get X inX5 29 rfl rfl 4 (by decide) tw_195 rfl rfl d_Li_add_17 ?_
    refine gj_iload_n X d_Li_add_20 rfl 1 rfl ?_
    refine gj_iast (w' := (wG h cI cL) (gs_A σ 14 (upd (σ.2.1 14) (σ.1 14).toNatClampNeg a0))) X 30 0 rfl rfl hC.1 (set_wG_A14 h cI cL σ _) d_Li_add_21 ?_
    refine gj_topw (wof := (wG h cI cL)) (fun σ1 eσ1 => ?_)
    have hC := hC.2 σ1 eσ1
    refine gj_aload_n X d_Li_add_22 rfl 0 rfl ?_
    refine gj_dup X d_Li_add_23 rfl ?_
    refine gj_get X inX5 29 rfl rfl 4 (by decide) tw_195 rfl rfl d_Li_add_24 ?_
    refine gj_iconst (v := 1) X d_Li_add_27 (by decide) ?_
    refine gj_iadd X d_Li_add_28 ?_
    refine gj_put (w' := (wG h cI cL) (gs_I σ1 14 ((σ1.1 14) + (1 : Int32)))) X inX5 tyX5 tyX5_ok nmX5 29 rfl rfl 4 (by decide) tw_195 rfl rfl (tyX5_ok 4 (by decide)) rfl rfl (Nat.le_of_ble_eq_true rfl) (set_wG_I14 h cI cL σ1 _) d_Li_add_29 ?_
    refine gj_topw (wof := (wG h cI cL)) (fun σ2 eσ2 => ?_)
    have hC := hC σ2 eσ2
    refine gj_aload_n X d_Li_add_32 rfl 0 rfl ?_
    refine gj_get X inX5 29 rfl rfl 4 (by decide) tw_195 rfl rfl d_Li_add_33 ?_
    exact gj_iret X hr hlk hC d_Li_add_36
  · have hC := hC.2 c0
    refine gj_iconst (v := -1) X d_Li_add_10 (by decide) ?_
    exact gj_iret X hr hlk hC d_Li_add_11
abbrev rm_Gl_list : Room := { frames := 1, cells := 0, slots := 0, locals := 21 }
set_option maxHeartbeats 4000000 in
set_option maxRecDepth 100000 in
theorem c_Gl_list (l : Launch) (dC : Nat → ClassId) (dI : Nat → Nat → Nat) (h : Nat → Nat) (cI cL : ClassId) (σ : gs_St) (a0 : Int32) (K : Int32 → gs_St → Prop) (hC : C_Gl_list a0 σ K) : gj_MI l y_Gl_list (gj_ws y_Gl_list b_Gl_list 2 (some .int)) rm_Gl_list (dC, dI) gs_C (gs_T cI cL) ((wG h cI cL) σ) (wG h cI cL) [.ref (h 0), .int a0] K := by
  refine gj_enterI (by decide) (Nat.le_of_ble_eq_true rfl) (fun p e s m args below meth c A X hr hlk hA hnm => ?_)
  change gj_J p l e rm_Gl_list s m args below meth c 0 0 (MQ below (va_Qi K (gj_at (dC, dI) gs_C (gs_T cI cL) (wG h cI cL) A) A) args s 0 0 A) (dC, dI) gs_C A 2 0 [(0, .ref (h 0)), (1, .int a0)] [] ((wG h cI cL) σ)
  refine gj_aload_n X d_Gl_list_0 rfl 0 rfl ?_
  refine gj_get X inX8 0 rfl rfl 8 (by decide) tw_216 rfl rfl d_Gl_list_1 ?_
  refine gj_iload_n X d_Gl_list_4 rfl 1 rfl ?_
  refine gj_callVI (As := [.int a0]) (st := []) X (c_Li_add l dC dI h cI cL σ a0 _ hC) ⟨gj_cwB X tw_504 tw_9 tw_501 hd_Li_add rfl rfl ⟨Nat.le_of_ble_eq_true rfl, Nat.le_of_ble_eq_true rfl⟩, X.2.2.2.2.1 _ tw_502, X.2.2.2.2.1 _ tw_503⟩ 29 rfl rfl hA rfl (Nat.le_of_ble_eq_true rfl) ⟨Nat.zero_le _, Nat.zero_le _⟩ d_Gl_list_5 rfl (fun r2 σ1 hC => ?_)
  exact gj_iret X hr hlk hC d_Gl_list_8
abbrev rm_Li_terminals : Room := { frames := 2, cells := 0, slots := 0, locals := 45 }
set_option maxHeartbeats 4000000 in
set_option maxRecDepth 100000 in
theorem c_Li_terminals (l : Launch) (dC : Nat → ClassId) (dI : Nat → Nat → Nat) (h : Nat → Nat) (cI cL : ClassId) (σ : gs_St) (K : Int32 → gs_St → Prop) (hC : C_Li_terminals σ K) : gj_MI l y_Li_terminals (gj_ws y_Li_terminals b_Li_terminals 3 (some .int)) rm_Li_terminals (dC, dI) gs_C (gs_T cI cL) ((wG h cI cL) σ) (wG h cI cL) [.ref (h 29)] K := by
  refine gj_enterI (by decide) (Nat.le_of_ble_eq_true rfl) (fun p e s m args below meth c A X hr hlk hA hnm => ?_)
  change gj_J p l e rm_Li_terminals s m args below meth c 0 0 (MQ below (va_Qi K (gj_at (dC, dI) gs_C (gs_T cI cL) (wG h cI cL) A) A) args s 0 0 A) (dC, dI) gs_C A 3 0 [(0, .ref (h 29))] [] ((wG h cI cL) σ)
  have hC := hC
    (fun (v_1 : Int32) (v_2 : Int32) (σ : gs_St) => gj_J p l e rm_Li_terminals s m args below meth c 0 0 (MQ below (va_Qi K (gj_at (dC, dI) gs_C (gs_T cI cL) (wG h cI cL) A) A) args s 0 0 A) (dC, dI) gs_C A 3 4 [(0, .ref (h 29)), (1, .int v_1), (2, .int v_2)] [] ((wG h cI cL) σ))
    (by
      intro v_1 v_2 σ hC
      refine gj_iload_n X d_Li_terminals_4 rfl 2 rfl ?_
      refine gj_aload_n X d_Li_terminals_5 rfl 0 rfl ?_
      refine gj_get X inX5 29 rfl rfl 4 (by decide) tw_195 rfl rfl d_Li_terminals_6 ?_
      refine gj_icmp_ge (tgt := 66) X d_Li_terminals_9 (by decide) (fun c0 => ?_) (fun c0 => ?_)
      · have hC := hC.1 c0
        refine gj_iload_n X d_Li_terminals_66 rfl 1 rfl ?_
        exact gj_iret X hr hlk hC d_Li_terminals_67
      · have hC := hC.2 c0
        refine gj_aload_n X d_Li_terminals_12 rfl 0 rfl ?_
        refine gj_get X inX5 29 rfl rfl 0 (by decide) tw_191 rfl rfl d_Li_terminals_13 ?_
        refine gj_aload_n X d_Li_terminals_16 rfl 0 rfl ?_
        refine gj_get X inX5 29 rfl rfl 3 (by decide) tw_194 rfl rfl d_Li_terminals_17 ?_
        refine gj_iload_n X d_Li_terminals_20 rfl 2 rfl ?_
        refine gj_iald X 30 0 rfl rfl hC.1 d_Li_terminals_21 ?_
        have hC := hC.2
        refine gj_callVI (As := [.int (σ.2.1 14 v_2.toNatClampNeg)]) (st := []) X (c_Gr_has l dC dI h cI cL σ (σ.2.1 14 v_2.toNatClampNeg) _ hC) ⟨gj_cwB X tw_264 tw_2 tw_518 hd_Gr_has rfl rfl ⟨Nat.le_of_ble_eq_true rfl, Nat.le_of_ble_eq_true rfl⟩, X.2.2.2.2.1 _ tw_262, X.2.2.2.2.1 _ tw_263⟩ 2 rfl rfl hA rfl (Nat.le_of_ble_eq_true rfl) ⟨Nat.zero_le _, Nat.zero_le _⟩ d_Li_terminals_22 rfl (fun r2 σ1 hC => ?_)
        obtain ⟨hC, hb⟩ := hC
        refine gj_if_ne (tgt := 30) X d_Li_terminals_25 (by decide) (fun c0 => ?_) (fun c0 => ?_)
        · have hC := hC.1 c0
          refine gj_iload_n X d_Li_terminals_30 rfl 1 rfl ?_
          refine gj_aload_n X d_Li_terminals_31 rfl 0 rfl ?_
          refine gj_get X inX5 29 rfl rfl 0 (by decide) tw_191 rfl rfl d_Li_terminals_32 ?_
          refine gj_aload_n X d_Li_terminals_35 rfl 0 rfl ?_
          refine gj_get X inX5 29 rfl rfl 3 (by decide) tw_194 rfl rfl d_Li_terminals_36 ?_
          refine gj_iload_n X d_Li_terminals_39 rfl 2 rfl ?_
          refine gj_iald X 30 0 rfl rfl hC.1 d_Li_terminals_40 ?_
          have hC := hC.2
          refine gj_callVI (As := [.int (σ1.2.1 14 v_2.toNatClampNeg)]) (st := [.int v_1]) X (c_Gr_sizeOf l dC dI h cI cL σ1 (σ1.2.1 14 v_2.toNatClampNeg) _ hC) ⟨gj_cwB X tw_280 tw_2 tw_519 hd_Gr_sizeOf rfl rfl ⟨Nat.le_of_ble_eq_true rfl, Nat.le_of_ble_eq_true rfl⟩, X.2.2.2.2.1 _ tw_278, X.2.2.2.2.1 _ tw_279⟩ 2 rfl rfl hA rfl (Nat.le_of_ble_eq_true rfl) ⟨Nat.zero_le _, Nat.zero_le _⟩ d_Li_terminals_41 rfl (fun r4 σ3 hC => ?_)
          refine gj_aload_n X d_Li_terminals_44 rfl 0 rfl ?_
          refine gj_get X inX5 29 rfl rfl 0 (by decide) tw_191 rfl rfl d_Li_terminals_45 ?_
          refine gj_aload_n X d_Li_terminals_48 rfl 0 rfl ?_
          refine gj_get X inX5 29 rfl rfl 3 (by decide) tw_194 rfl rfl d_Li_terminals_49 ?_
          refine gj_iload_n X d_Li_terminals_52 rfl 2 rfl ?_
          refine gj_iald X 30 0 rfl rfl hC.1 d_Li_terminals_53 ?_
          have hC := hC.2
          refine gj_callVI (As := [.int (σ3.2.1 14 v_2.toNatClampNeg)]) (st := [.int r4, .int v_1]) X (c_Gr_nonterminalsIn l dC dI h cI cL σ3 (σ3.2.1 14 v_2.toNatClampNeg) _ hC) ⟨gj_cwB X tw_465 tw_2 tw_520 hd_Gr_nonterminalsIn rfl rfl ⟨Nat.le_of_ble_eq_true rfl, Nat.le_of_ble_eq_true rfl⟩, X.2.2.2.2.1 _ tw_463, X.2.2.2.2.1 _ tw_464⟩ 2 rfl rfl hA rfl (Nat.le_of_ble_eq_true rfl) ⟨Nat.zero_le _, Nat.zero_le _⟩ d_Li_terminals_54 rfl (fun r6 σ5 hC => ?_)
          refine gj_isub X d_Li_terminals_57 ?_
          refine gj_iadd X d_Li_terminals_58 ?_
          refine gj_topi (fun v7 ev7 => ?_)
          have hC := hC v7 ev7
          refine gj_istore_n (L' := [(1, .int v7), (0, .ref (h 29)), (2, .int v_2)]) X d_Li_terminals_59 rfl (by decide) rfl ?_
          obtain ⟨v8, ev8⟩ : ∃ y : Int32, y = v_2 + 1 := ⟨_, rfl⟩
          have hC := hC v8 ev8
          refine gj_iinc (v := v8) (L' := [(2, .int v8), (1, .int v7), (0, .ref (h 29))]) X d_Li_terminals_60 2 rfl (by rw [ev8]; rfl) (by decide) rfl ?_
          refine gj_goto (tgt := 4) X d_Li_terminals_63 (by decide) ?_
          exact gj_loc [2, 1, 0] rfl hC
        · have hC := hC.2 c0
          refine gj_iconst (v := -1) X d_Li_terminals_28 (by decide) ?_
          exact gj_iret X hr hlk hC d_Li_terminals_29)
  refine gj_iconst (v := 0) X d_Li_terminals_0 (by decide) ?_
  refine gj_istore_n (L' := [(1, .int (0 : Int32)), (0, .ref (h 29))]) X d_Li_terminals_1 rfl (by decide) rfl ?_
  refine gj_iconst (v := 0) X d_Li_terminals_2 (by decide) ?_
  refine gj_istore_n (L' := [(2, .int (0 : Int32)), (1, .int (0 : Int32)), (0, .ref (h 29))]) X d_Li_terminals_3 rfl (by decide) rfl ?_
  exact gj_loc [2, 1, 0] rfl hC
end
section
abbrev rm_Li_treesBefore : Room := { frames := 2, cells := 0, slots := 0, locals := 44 }
set_option maxHeartbeats 4000000 in
set_option maxRecDepth 100000 in
theorem c_Li_treesBefore (l : Launch) (dC : Nat → ClassId) (dI : Nat → Nat → Nat) (h : Nat → Nat) (cI cL : ClassId) (σ : gs_St) (a0 : Int32) (a1 : Int32) (K : Int64 → gs_St → Prop) (hC : C_Li_treesBefore a0 a1 σ K) : gj_ML l y_Li_treesBefore (gj_ws y_Li_treesBefore b_Li_treesBefore 6 (some .long)) rm_Li_treesBefore (dC, dI) gs_C (gs_T cI cL) ((wG h cI cL) σ) (wG h cI cL) [.ref (h 29), .int a0, .int a1] K := by
  refine gj_enterL (by decide) (Nat.le_of_ble_eq_true rfl) (fun p e s m args below meth c A X hr hlk hA hnm => ?_)
  change gj_J p l e rm_Li_treesBefore s m args below meth c 0 0 (MQ below (va_Ql K (gj_at (dC, dI) gs_C (gs_T cI cL) (wG h cI cL) A) A) args s 0 0 A) (dC, dI) gs_C A 6 0 [(0, .ref (h 29)), (1, .int a0), (2, .int a1)] [] ((wG h cI cL) σ)
  have hC := hC
    (fun (v_1 : Int32) (v_2 : Int32) (v_3 : Int64) (v_5 : Int32) (σ : gs_St) => gj_J p l e rm_Li_treesBefore s m args below meth c 0 0 (MQ below (va_Ql K (gj_at (dC, dI) gs_C (gs_T cI cL) (wG h cI cL) A) A) args s 0 0 A) (dC, dI) gs_C A 6 5 [(0, .ref (h 29)), (1, .int v_1), (2, .int v_2), (3, .long v_3), (5, .int v_5)] [] ((wG h cI cL) σ))
    (by
      intro v_1 v_2 v_3 v_5 σ hC
      refine gj_iload X d_Li_treesBefore_5 4 rfl ?_
      refine gj_iload_n X d_Li_treesBefore_7 rfl 1 rfl ?_
      refine gj_icmp_ge (tgt := 51) X d_Li_treesBefore_8 (by decide) (fun c0 => ?_) (fun c0 => ?_)
      · have hC := hC.1 c0
        refine gj_lload_n X d_Li_treesBefore_51 rfl 3 rfl ?_
        exact gj_lret X hr hlk hC d_Li_treesBefore_52
      · have hC := hC.2 c0
        refine gj_aload_n X d_Li_treesBefore_11 rfl 0 rfl ?_
        refine gj_get X inX5 29 rfl rfl 0 (by decide) tw_191 rfl rfl d_Li_treesBefore_12 ?_
        refine gj_iload X d_Li_treesBefore_15 4 rfl ?_
        refine gj_callVI (As := [.int v_5]) (st := []) X (c_Gr_leftOf l dC dI h cI cL σ v_5 _ hC) ⟨gj_cwB X tw_284 tw_2 tw_534 hd_Gr_leftOf rfl rfl ⟨Nat.le_of_ble_eq_true rfl, Nat.le_of_ble_eq_true rfl⟩, X.2.2.2.2.1 _ tw_282, X.2.2.2.2.1 _ tw_283⟩ 2 rfl rfl hA rfl (Nat.le_of_ble_eq_true rfl) ⟨Nat.zero_le _, Nat.zero_le _⟩ d_Li_treesBefore_17 rfl (fun r2 σ1 hC => ?_)
        refine gj_aload_n X d_Li_treesBefore_20 rfl 0 rfl ?_
        refine gj_get X inX5 29 rfl rfl 0 (by decide) tw_191 rfl rfl d_Li_treesBefore_21 ?_
        refine gj_iload_n X d_Li_treesBefore_24 rfl 1 rfl ?_
        refine gj_callVI (As := [.int v_1]) (st := [.int r2]) X (c_Gr_leftOf l dC dI h cI cL σ1 v_1 _ hC) ⟨gj_cwB X tw_284 tw_2 tw_534 hd_Gr_leftOf rfl rfl ⟨Nat.le_of_ble_eq_true rfl, Nat.le_of_ble_eq_true rfl⟩, X.2.2.2.2.1 _ tw_282, X.2.2.2.2.1 _ tw_283⟩ 2 rfl rfl hA rfl (Nat.le_of_ble_eq_true rfl) ⟨Nat.zero_le _, Nat.zero_le _⟩ d_Li_treesBefore_25 rfl (fun r4 σ3 hC => ?_)
        refine gj_icmp_ne (tgt := 45) X d_Li_treesBefore_28 (by decide) (fun c0 => ?_) (fun c0 => ?_)
        · have hC := hC.1 c0
          obtain ⟨v5, ev5⟩ : ∃ y : Int32, y = v_5 + 1 := ⟨_, rfl⟩
          have hC := hC v5 ev5
          refine gj_iinc (v := v5) (L' := [(5, .int v5), (0, .ref (h 29)), (1, .int v_1), (2, .int v_2), (3, .long v_3)]) X d_Li_treesBefore_45 4 rfl (by rw [ev5]; rfl) (by decide) rfl ?_
          refine gj_goto (tgt := 5) X d_Li_treesBefore_48 (by decide) ?_
          exact gj_loc [1, 2, 3, 4, 0] rfl hC
        · have hC := hC.2 c0
          refine gj_lload_n X d_Li_treesBefore_31 rfl 3 rfl ?_
          refine gj_aload_n X d_Li_treesBefore_32 rfl 0 rfl ?_
          refine gj_get X inX5 29 rfl rfl 1 (by decide) tw_192 rfl rfl d_Li_treesBefore_33 ?_
          refine gj_iload X d_Li_treesBefore_36 4 rfl ?_
          refine gj_iconst (v := 0) X d_Li_treesBefore_38 (by decide) ?_
          refine gj_iload_n X d_Li_treesBefore_39 rfl 2 rfl ?_
          refine gj_callVL (As := [.int v_5, .int (0 : Int32), .int v_2]) (st := [.long v_3]) X (c_Co_endingsOf l dC dI h cI cL σ3 v_5 (0 : Int32) v_2 _ hC) ⟨gj_cwB X tw_414 tw_5 tw_535 hd_Co_endingsOf rfl rfl ⟨Nat.le_of_ble_eq_true rfl, Nat.le_of_ble_eq_true rfl⟩, X.2.2.2.2.1 _ tw_412, X.2.2.2.2.1 _ tw_413⟩ 12 rfl rfl hA rfl (Nat.le_of_ble_eq_true rfl) ⟨Nat.zero_le _, Nat.zero_le _⟩ d_Li_treesBefore_40 rfl (fun r7 σ6 hC => ?_)
          refine gj_ladd X d_Li_treesBefore_43 ?_
          refine gj_topl (fun v8 ev8 => ?_)
          have hC := hC v8 ev8
          refine gj_lstore_n (L' := [(3, .long v8), (0, .ref (h 29)), (1, .int v_1), (2, .int v_2), (5, .int v_5)]) X d_Li_treesBefore_44 rfl (by decide) rfl ?_
          obtain ⟨v9, ev9⟩ : ∃ y : Int32, y = v_5 + 1 := ⟨_, rfl⟩
          have hC := hC v9 ev9
          refine gj_iinc (v := v9) (L' := [(5, .int v9), (3, .long v8), (0, .ref (h 29)), (1, .int v_1), (2, .int v_2)]) X d_Li_treesBefore_45 4 rfl (by rw [ev9]; rfl) (by decide) rfl ?_
          refine gj_goto (tgt := 5) X d_Li_treesBefore_48 (by decide) ?_
          exact gj_loc [2, 3, 4, 1, 0] rfl hC)
  refine gj_lconst (v := 0) X d_Li_treesBefore_0 (by decide) ?_
  refine gj_lstore_n (L' := [(3, .long (0 : Int64)), (0, .ref (h 29)), (1, .int a0), (2, .int a1)]) X d_Li_treesBefore_1 rfl (by decide) rfl ?_
  refine gj_iconst (v := 0) X d_Li_treesBefore_2 (by decide) ?_
  refine gj_istore (L' := [(5, .int (0 : Int32)), (3, .long (0 : Int64)), (0, .ref (h 29)), (1, .int a0), (2, .int a1)]) X d_Li_treesBefore_3 (by decide) rfl ?_
  exact gj_loc [2, 3, 4, 1, 0] rfl hC
abbrev rm_Li_numberInRule : Room := { frames := 2, cells := 0, slots := 0, locals := 50 }
set_option maxHeartbeats 4000000 in
set_option maxRecDepth 100000 in
theorem c_Li_numberInRule (l : Launch) (dC : Nat → ClassId) (dI : Nat → Nat → Nat) (h : Nat → Nat) (cI cL : ClassId) (σ : gs_St) (a0 : Int32) (a1 : Int32) (K : Int64 → gs_St → Prop) (hC : C_Li_numberInRule a0 a1 σ K) : gj_ML l y_Li_numberInRule (gj_ws y_Li_numberInRule b_Li_numberInRule 12 (some .long)) rm_Li_numberInRule (dC, dI) gs_C (gs_T cI cL) ((wG h cI cL) σ) (wG h cI cL) [.ref (h 29), .int a0, .int a1] K := by
  refine gj_enterL (by decide) (Nat.le_of_ble_eq_true rfl) (fun p e s m args below meth c A X hr hlk hA hnm => ?_)
  change gj_J p l e rm_Li_numberInRule s m args below meth c 0 0 (MQ below (va_Ql K (gj_at (dC, dI) gs_C (gs_T cI cL) (wG h cI cL) A) A) args s 0 0 A) (dC, dI) gs_C A 12 0 [(0, .ref (h 29)), (1, .int a0), (2, .int a1)] [] ((wG h cI cL) σ)
  have hC := hC
    (fun (v_1 : Int32) (v_3 : Int64) (v_5 : Int32) (v_6 : Int32) (v_7 : Int32) (σ : gs_St) => gj_J p l e rm_Li_numberInRule s m args below meth c 0 0 (MQ below (va_Ql K (gj_at (dC, dI) gs_C (gs_T cI cL) (wG h cI cL) A) A) args s 0 0 A) (dC, dI) gs_C A 12 17 [(0, .ref (h 29)), (1, .int v_1), (3, .long v_3), (5, .int v_5), (6, .int v_6), (7, .int v_7)] [] ((wG h cI cL) σ))
    (fun (v_1 : Int32) (v_3 : Int64) (v_5 : Int32) (v_6 : Int32) (v_7 : Int32) (v_8 : Int32) (v_9 : Int64) (v_11 : Int32) (σ : gs_St) => gj_J p l e rm_Li_numberInRule s m args below meth c 0 0 (MQ below (va_Ql K (gj_at (dC, dI) gs_C (gs_T cI cL) (wG h cI cL) A) A) args s 0 0 A) (dC, dI) gs_C A 12 82 [(0, .ref (h 29)), (1, .int v_1), (3, .long v_3), (5, .int v_5), (6, .int v_6), (7, .int v_7), (8, .int v_8), (9, .long v_9), (11, .int v_11)] [] ((wG h cI cL) σ))
    (by
      intro v_1 v_3 v_5 v_6 v_7 σ hC
      refine gj_iload X d_Li_numberInRule_17 5 rfl ?_
      refine gj_aload_n X d_Li_numberInRule_19 rfl 0 rfl ?_
      refine gj_get X inX5 29 rfl rfl 0 (by decide) tw_191 rfl rfl d_Li_numberInRule_20 ?_
      refine gj_iload_n X d_Li_numberInRule_23 rfl 1 rfl ?_
      refine gj_callVI (As := [.int v_1]) (st := [.int v_7]) X (c_Gr_sizeOf l dC dI h cI cL σ v_1 _ hC) ⟨gj_cwB X tw_280 tw_2 tw_519 hd_Gr_sizeOf rfl rfl ⟨Nat.le_of_ble_eq_true rfl, Nat.le_of_ble_eq_true rfl⟩, X.2.2.2.2.1 _ tw_278, X.2.2.2.2.1 _ tw_279⟩ 2 rfl rfl hA rfl (Nat.le_of_ble_eq_true rfl) ⟨Nat.zero_le _, Nat.zero_le _⟩ d_Li_numberInRule_24 rfl (fun r3 σ2 hC => ?_)
      refine gj_icmp_ge (tgt := 145) X d_Li_numberInRule_27 (by decide) (fun c0 => ?_) (fun c0 => ?_)
      · have hC := hC.1 c0
        refine gj_lload_n X d_Li_numberInRule_145 rfl 2 rfl ?_
        exact gj_lret X hr hlk hC d_Li_numberInRule_146
      · have hC := hC.2 c0
        refine gj_iconst (v := 1) X d_Li_numberInRule_30 (by decide) ?_
        refine gj_istore (L' := [(8, .int (1 : Int32)), (0, .ref (h 29)), (1, .int v_1), (3, .long v_3), (5, .int v_5), (6, .int v_6), (7, .int v_7)]) X d_Li_numberInRule_31 (by decide) rfl ?_
        refine gj_lconst (v := 0) X d_Li_numberInRule_33 (by decide) ?_
        refine gj_lstore (L' := [(9, .long (0 : Int64)), (8, .int (1 : Int32)), (0, .ref (h 29)), (1, .int v_1), (3, .long v_3), (5, .int v_5), (6, .int v_6), (7, .int v_7)]) X d_Li_numberInRule_34 (by decide) rfl ?_
        refine gj_aload_n X d_Li_numberInRule_36 rfl 2 rfl ?_
        refine gj_get X inX5 29 rfl rfl 0 (by decide) tw_191 rfl rfl d_Li_numberInRule_37 ?_
        refine gj_iload_n X d_Li_numberInRule_40 rfl 3 rfl ?_
        refine gj_iload X d_Li_numberInRule_41 7 rfl ?_
        refine gj_callVI (As := [.int v_1, .int v_7]) (st := []) X (c_Gr_symbolAt l dC dI h cI cL σ2 v_1 v_7 _ hC) ⟨gj_cwB X tw_288 tw_2 tw_528 hd_Gr_symbolAt rfl rfl ⟨Nat.le_of_ble_eq_true rfl, Nat.le_of_ble_eq_true rfl⟩, X.2.2.2.2.1 _ tw_286, X.2.2.2.2.1 _ tw_287⟩ 2 rfl rfl hA rfl (Nat.le_of_ble_eq_true rfl) ⟨Nat.zero_le _, Nat.zero_le _⟩ d_Li_numberInRule_43 rfl (fun r5 σ4 hC => ?_)
        refine gj_callSNI (As := [.int r5]) (st := []) X (c_Gl_isNonterminal l dC dI h cI cL σ4 r5 _ hC) ⟨gj_cwN X tw_249 tw_1 tn_529 hd_Gl_isNonterminal rfl rfl ⟨Nat.le_of_ble_eq_true rfl, Nat.le_of_ble_eq_true rfl⟩, X.2.2.2.2.1 _ tw_248, trivial⟩ hA rfl (Nat.le_of_ble_eq_true rfl) ⟨Nat.zero_le _, Nat.zero_le _⟩ d_Li_numberInRule_46 rfl (fun r7 σ6 hC => ?_)
        obtain ⟨hC, hb⟩ := hC
        refine gj_if_eq (tgt := 79) X d_Li_numberInRule_49 (by decide) (fun c0 => ?_) (fun c0 => ?_)
        · have hC := hC.1 c0
          refine gj_iconst (v := 0) X d_Li_numberInRule_79 (by decide) ?_
          refine gj_istore (L' := [(11, .int (0 : Int32)), (9, .long (0 : Int64)), (8, .int (1 : Int32)), (0, .ref (h 29)), (1, .int v_1), (3, .long v_3), (5, .int v_5), (6, .int v_6), (7, .int v_7)]) X d_Li_numberInRule_80 (by decide) rfl ?_
          exact gj_loc [3, 4, 5, 6, 7, 8, 2, 1, 0] rfl hC
        · have hC := hC.2 c0
          obtain ⟨v8, ev8⟩ : ∃ y : Int32, y = v_6 + (-1) := ⟨_, rfl⟩
          have hC := hC v8 ev8
          refine gj_iinc (v := v8) (L' := [(6, .int v8), (9, .long (0 : Int64)), (8, .int (1 : Int32)), (0, .ref (h 29)), (1, .int v_1), (3, .long v_3), (5, .int v_5), (7, .int v_7)]) X d_Li_numberInRule_52 6 rfl (by rw [ev8]; rfl) (by decide) rfl ?_
          refine gj_aload_n X d_Li_numberInRule_55 rfl 3 rfl ?_
          refine gj_get X inX5 29 rfl rfl 2 (by decide) tw_193 rfl rfl d_Li_numberInRule_56 ?_
          refine gj_getN X inX6 18 rfl rfl 1 (by decide) tn_122 rfl rfl d_Li_numberInRule_59 ?_
          refine gj_iload X d_Li_numberInRule_62 0 rfl ?_
          refine gj_iald X 20 0 rfl rfl hC.1 d_Li_numberInRule_64 ?_
          have hC := hC.2
          refine gj_topi (fun v9 ev9 => ?_)
          have hC := hC v9 ev9
          refine gj_istore (L' := [(8, .int v9), (6, .int v8), (9, .long (0 : Int64)), (0, .ref (h 29)), (1, .int v_1), (3, .long v_3), (5, .int v_5), (7, .int v_7)]) X d_Li_numberInRule_65 (by decide) rfl ?_
          refine gj_aload_n X d_Li_numberInRule_67 rfl 3 rfl ?_
          refine gj_get X inX5 29 rfl rfl 2 (by decide) tw_193 rfl rfl d_Li_numberInRule_68 ?_
          refine gj_getN X inX6 18 rfl rfl 2 (by decide) tn_124 rfl rfl d_Li_numberInRule_71 ?_
          refine gj_iload X d_Li_numberInRule_74 1 rfl ?_
          refine gj_lald X 21 1 rfl rfl hC.1 d_Li_numberInRule_76 ?_
          have hC := hC.2
          refine gj_topl (fun v10 ev10 => ?_)
          have hC := hC v10 ev10
          refine gj_lstore (L' := [(9, .long v10), (8, .int v9), (6, .int v8), (0, .ref (h 29)), (1, .int v_1), (3, .long v_3), (5, .int v_5), (7, .int v_7)]) X d_Li_numberInRule_77 (by decide) rfl ?_
          refine gj_iconst (v := 0) X d_Li_numberInRule_79 (by decide) ?_
          refine gj_istore (L' := [(11, .int (0 : Int32)), (9, .long v10), (8, .int v9), (6, .int v8), (0, .ref (h 29)), (1, .int v_1), (3, .long v_3), (5, .int v_5), (7, .int v_7)]) X d_Li_numberInRule_80 (by decide) rfl ?_
          exact gj_loc [4, 5, 6, 7, 3, 8, 2, 1, 0] rfl hC)
    (by
      intro v_1 v_3 v_5 v_6 v_7 v_8 v_9 v_11 σ hC
      refine gj_iload X d_Li_numberInRule_82 8 rfl ?_
      refine gj_iload X d_Li_numberInRule_84 6 rfl ?_
      refine gj_icmp_ge (tgt := 112) X d_Li_numberInRule_86 (by decide) (fun c0 => ?_) (fun c0 => ?_)
      · have hC := hC.1 c0
        refine gj_iload X d_Li_numberInRule_112 3 rfl ?_
        refine gj_iload X d_Li_numberInRule_114 6 rfl ?_
        refine gj_isub X d_Li_numberInRule_116 ?_
        refine gj_topi (fun v11 ev11 => ?_)
        have hC := hC v11 ev11
        refine gj_istore (L' := [(5, .int v11), (0, .ref (h 29)), (1, .int v_1), (3, .long v_3), (6, .int v_6), (7, .int v_7), (8, .int v_8), (9, .long v_9), (11, .int v_11)]) X d_Li_numberInRule_117 (by decide) rfl ?_
        refine gj_lload_n X d_Li_numberInRule_119 rfl 3 rfl ?_
        refine gj_lload X d_Li_numberInRule_120 7 rfl ?_
        refine gj_aload_n X d_Li_numberInRule_122 rfl 1 rfl ?_
        refine gj_get X inX5 29 rfl rfl 1 (by decide) tw_192 rfl rfl d_Li_numberInRule_123 ?_
        refine gj_iload_n X d_Li_numberInRule_126 rfl 2 rfl ?_
        refine gj_iload X d_Li_numberInRule_127 5 rfl ?_
        refine gj_iconst (v := 1) X d_Li_numberInRule_129 (by decide) ?_
        refine gj_iadd X d_Li_numberInRule_130 ?_
        refine gj_iload X d_Li_numberInRule_131 0 rfl ?_
        refine gj_callVL (As := [.int v_1, .int (v_7 + (1 : Int32)), .int v11]) (st := [.long v_9, .long v_3]) X (c_Co_endingsOf l dC dI h cI cL σ v_1 (v_7 + (1 : Int32)) v11 _ hC) ⟨gj_cwB X tw_414 tw_5 tw_535 hd_Co_endingsOf rfl rfl ⟨Nat.le_of_ble_eq_true rfl, Nat.le_of_ble_eq_true rfl⟩, X.2.2.2.2.1 _ tw_412, X.2.2.2.2.1 _ tw_413⟩ 12 rfl rfl hA rfl (Nat.le_of_ble_eq_true rfl) ⟨Nat.zero_le _, Nat.zero_le _⟩ d_Li_numberInRule_133 rfl (fun r13 σ12 hC => ?_)
        refine gj_lmul X d_Li_numberInRule_136 ?_
        refine gj_ladd X d_Li_numberInRule_137 ?_
        refine gj_topl (fun v14 ev14 => ?_)
        have hC := hC v14 ev14
        refine gj_lstore_n (L' := [(3, .long v14), (5, .int v11), (0, .ref (h 29)), (1, .int v_1), (6, .int v_6), (7, .int v_7), (8, .int v_8), (9, .long v_9), (11, .int v_11)]) X d_Li_numberInRule_138 rfl (by decide) rfl ?_
        obtain ⟨v15, ev15⟩ : ∃ y : Int32, y = v_7 + 1 := ⟨_, rfl⟩
        have hC := hC v15 ev15
        refine gj_iinc (v := v15) (L' := [(7, .int v15), (3, .long v14), (5, .int v11), (0, .ref (h 29)), (1, .int v_1), (6, .int v_6), (8, .int v_8), (9, .long v_9), (11, .int v_11)]) X d_Li_numberInRule_139 5 rfl (by rw [ev15]; rfl) (by decide) rfl ?_
        refine gj_goto (tgt := 17) X d_Li_numberInRule_142 (by decide) ?_
        exact gj_loc [3, 4, 1, 2, 5, 0] rfl hC
      · have hC := hC.2 c0
        refine gj_lload_n X d_Li_numberInRule_89 rfl 2 rfl ?_
        refine gj_aload_n X d_Li_numberInRule_90 rfl 0 rfl ?_
        refine gj_get X inX5 29 rfl rfl 1 (by decide) tw_192 rfl rfl d_Li_numberInRule_91 ?_
        refine gj_iload_n X d_Li_numberInRule_94 rfl 1 rfl ?_
        refine gj_iload X d_Li_numberInRule_95 5 rfl ?_
        refine gj_iload X d_Li_numberInRule_97 8 rfl ?_
        refine gj_iload X d_Li_numberInRule_99 3 rfl ?_
        refine gj_callVL (As := [.int v_1, .int v_7, .int v_11, .int v_5]) (st := [.long v_3]) X (c_Co_endingsWith l dC dI h cI cL σ v_1 v_7 v_11 v_5 _ hC) ⟨gj_cwB X tw_476 tw_5 tw_540 hd_Co_endingsWith rfl rfl ⟨Nat.le_of_ble_eq_true rfl, Nat.le_of_ble_eq_true rfl⟩, X.2.2.2.2.1 _ tw_474, X.2.2.2.2.1 _ tw_475⟩ 12 rfl rfl hA rfl (Nat.le_of_ble_eq_true rfl) ⟨Nat.zero_le _, Nat.zero_le _⟩ d_Li_numberInRule_101 rfl (fun r17 σ16 hC => ?_)
        refine gj_ladd X d_Li_numberInRule_104 ?_
        refine gj_topl (fun v18 ev18 => ?_)
        have hC := hC v18 ev18
        refine gj_lstore_n (L' := [(3, .long v18), (0, .ref (h 29)), (1, .int v_1), (5, .int v_5), (6, .int v_6), (7, .int v_7), (8, .int v_8), (9, .long v_9), (11, .int v_11)]) X d_Li_numberInRule_105 rfl (by decide) rfl ?_
        obtain ⟨v19, ev19⟩ : ∃ y : Int32, y = v_11 + 1 := ⟨_, rfl⟩
        have hC := hC v19 ev19
        refine gj_iinc (v := v19) (L' := [(11, .int v19), (3, .long v18), (0, .ref (h 29)), (1, .int v_1), (5, .int v_5), (6, .int v_6), (7, .int v_7), (8, .int v_8), (9, .long v_9)]) X d_Li_numberInRule_106 8 rfl (by rw [ev19]; rfl) (by decide) rfl ?_
        refine gj_goto (tgt := 82) X d_Li_numberInRule_109 (by decide) ?_
        exact gj_loc [2, 3, 1, 4, 5, 6, 7, 8, 0] rfl hC)
  refine gj_lconst (v := 0) X d_Li_numberInRule_0 (by decide) ?_
  refine gj_lstore_n (L' := [(3, .long (0 : Int64)), (0, .ref (h 29)), (1, .int a0), (2, .int a1)]) X d_Li_numberInRule_1 rfl (by decide) rfl ?_
  refine gj_iload_n X d_Li_numberInRule_2 rfl 3 rfl ?_
  refine gj_istore (L' := [(5, .int a1), (3, .long (0 : Int64)), (0, .ref (h 29)), (1, .int a0), (2, .int a1)]) X d_Li_numberInRule_3 (by decide) rfl ?_
  refine gj_aload_n X d_Li_numberInRule_5 rfl 2 rfl ?_
  refine gj_get X inX5 29 rfl rfl 2 (by decide) tw_193 rfl rfl d_Li_numberInRule_6 ?_
  refine gj_getN X inX6 18 rfl rfl 3 (by decide) tn_126 rfl rfl d_Li_numberInRule_9 ?_
  refine gj_topi (fun v1 ev1 => ?_)
  have hC := hC v1 ev1
  refine gj_istore (L' := [(6, .int v1), (5, .int a1), (3, .long (0 : Int64)), (0, .ref (h 29)), (1, .int a0), (2, .int a1)]) X d_Li_numberInRule_12 (by decide) rfl ?_
  refine gj_iconst (v := 0) X d_Li_numberInRule_14 (by decide) ?_
  refine gj_istore (L' := [(7, .int (0 : Int32)), (6, .int v1), (5, .int a1), (3, .long (0 : Int64)), (0, .ref (h 29)), (1, .int a0), (2, .int a1)]) X d_Li_numberInRule_15 (by decide) rfl ?_
  exact gj_loc [4, 5, 3, 2, 1, 0] rfl hC
abbrev rm_Li_fold : Room := { frames := 3, cells := 0, slots := 0, locals := 81 }
set_option maxHeartbeats 4000000 in
set_option maxRecDepth 100000 in
theorem c_Li_fold (l : Launch) (dC : Nat → ClassId) (dI : Nat → Nat → Nat) (h : Nat → Nat) (cI cL : ClassId) (σ : gs_St) (a0 : Int32) (K : Int32 → gs_St → Prop) (hC : C_Li_fold a0 σ K) : gj_MI l y_Li_fold (gj_ws y_Li_fold b_Li_fold 6 (some .boolean)) rm_Li_fold (dC, dI) gs_C (gs_T cI cL) ((wG h cI cL) σ) (wG h cI cL) [.ref (h 29), .int a0] (fun r u => K r u ∧ (r = 0 ∨ r = 1)) := by
  refine gj_enterZ (by decide) (Nat.le_of_ble_eq_true rfl) (fun p e s m args below meth c A X hr hlk hA hnm => ?_)
  change gj_J p l e rm_Li_fold s m args below meth c 0 0 (MQ below (va_Qi (fun r u => K r u ∧ (r = 0 ∨ r = 1)) (gj_at (dC, dI) gs_C (gs_T cI cL) (wG h cI cL) A) A) args s 0 0 A) (dC, dI) gs_C A 6 0 [(0, .ref (h 29)), (1, .int a0)] [] ((wG h cI cL) σ)
  have hC := hC
    (fun (v_1 : Int32) (v_2 : Int32) (v_3 : Int32) (v_4 : Int32) (σ : gs_St) => gj_J p l e rm_Li_fold s m args below meth c 0 0 (MQ below (va_Qi (fun r u => K r u ∧ (r = 0 ∨ r = 1)) (gj_at (dC, dI) gs_C (gs_T cI cL) (wG h cI cL) A) A) args s 0 0 A) (dC, dI) gs_C A 6 13 [(0, .ref (h 29)), (1, .int v_1), (2, .int v_2), (3, .int v_3), (4, .int v_4)] [] ((wG h cI cL) σ))
    (by
      intro v_1 v_2 v_3 v_4 σ hC
      refine gj_iload X d_Li_fold_13 4 rfl ?_
      refine gj_aload_n X d_Li_fold_15 rfl 0 rfl ?_
      refine gj_get X inX5 29 rfl rfl 0 (by decide) tw_191 rfl rfl d_Li_fold_16 ?_
      refine gj_iload_n X d_Li_fold_19 rfl 1 rfl ?_
      refine gj_callVI (As := [.int v_1]) (st := [.int v_4]) X (c_Gr_sizeOf l dC dI h cI cL σ v_1 _ hC) ⟨gj_cwB X tw_280 tw_2 tw_519 hd_Gr_sizeOf rfl rfl ⟨Nat.le_of_ble_eq_true rfl, Nat.le_of_ble_eq_true rfl⟩, X.2.2.2.2.1 _ tw_278, X.2.2.2.2.1 _ tw_279⟩ 2 rfl rfl hA rfl (Nat.le_of_ble_eq_true rfl) ⟨Nat.zero_le _, Nat.zero_le _⟩ d_Li_fold_20 rfl (fun r3 σ2 hC => ?_)
      refine gj_icmp_ge (tgt := 93) X d_Li_fold_23 (by decide) (fun c0 => ?_) (fun c0 => ?_)
      · have hC := hC.1 c0
        refine gj_aload_n X d_Li_fold_93 rfl 0 rfl ?_
        refine gj_iload_n X d_Li_fold_94 rfl 1 rfl ?_
        refine gj_iload_n X d_Li_fold_95 rfl 2 rfl ?_
        refine gj_callVL (As := [.int v_1, .int v_2]) (st := []) X (c_Li_treesBefore l dC dI h cI cL σ2 v_1 v_2 _ hC) ⟨gj_cwB X tw_533 tw_9 tw_530 hd_Li_treesBefore rfl rfl ⟨Nat.le_of_ble_eq_true rfl, Nat.le_of_ble_eq_true rfl⟩, X.2.2.2.2.1 _ tw_532, X.2.2.2.2.1 _ ts_14⟩ 29 rfl rfl hA rfl (Nat.le_of_ble_eq_true rfl) ⟨Nat.zero_le _, Nat.zero_le _⟩ d_Li_fold_96 rfl (fun r5 σ4 hC => ?_)
        refine gj_aload_n X d_Li_fold_99 rfl 0 rfl ?_
        refine gj_iload_n X d_Li_fold_100 rfl 1 rfl ?_
        refine gj_iload_n X d_Li_fold_101 rfl 2 rfl ?_
        refine gj_callVL (As := [.int v_1, .int v_2]) (st := [.long r5]) X (c_Li_numberInRule l dC dI h cI cL σ4 v_1 v_2 _ hC) ⟨gj_cwB X tw_539 tw_9 tw_536 hd_Li_numberInRule rfl rfl ⟨Nat.le_of_ble_eq_true rfl, Nat.le_of_ble_eq_true rfl⟩, X.2.2.2.2.1 _ tw_538, X.2.2.2.2.1 _ ts_15⟩ 29 rfl rfl hA rfl (Nat.le_of_ble_eq_true rfl) ⟨Nat.zero_le _, Nat.zero_le _⟩ d_Li_fold_102 rfl (fun r7 σ6 hC => ?_)
        refine gj_ladd X d_Li_fold_105 ?_
        refine gj_topl (fun v8 ev8 => ?_)
        have hC := hC v8 ev8
        refine gj_lstore (L' := [(4, .long v8), (0, .ref (h 29)), (1, .int v_1), (2, .int v_2), (3, .int v_3)]) X d_Li_fold_106 (by decide) rfl ?_
        refine gj_aload_n X d_Li_fold_108 rfl 1 rfl ?_
        refine gj_get X inX5 29 rfl rfl 2 (by decide) tw_193 rfl rfl d_Li_fold_109 ?_
        refine gj_iload_n X d_Li_fold_112 rfl 4 rfl ?_
        refine gj_aload_n X d_Li_fold_113 rfl 1 rfl ?_
        refine gj_get X inX5 29 rfl rfl 0 (by decide) tw_191 rfl rfl d_Li_fold_114 ?_
        refine gj_iload_n X d_Li_fold_117 rfl 2 rfl ?_
        refine gj_callVI (As := [.int v_1]) (st := [.int v_3, .ref (h 18)]) X (c_Gr_leftOf l dC dI h cI cL σ6 v_1 _ hC) ⟨gj_cwB X tw_284 tw_2 tw_534 hd_Gr_leftOf rfl rfl ⟨Nat.le_of_ble_eq_true rfl, Nat.le_of_ble_eq_true rfl⟩, X.2.2.2.2.1 _ tw_282, X.2.2.2.2.1 _ tw_283⟩ 2 rfl rfl hA rfl (Nat.le_of_ble_eq_true rfl) ⟨Nat.zero_le _, Nat.zero_le _⟩ d_Li_fold_118 rfl (fun r10 σ9 hC => ?_)
        refine gj_iload_n X d_Li_fold_121 rfl 3 rfl ?_
        refine gj_lload X d_Li_fold_122 0 rfl ?_
        refine gj_callVV (As := [.int v_3, .int r10, .int v_2, .long v8]) (st := []) X (c_Pi_put l dC dI h cI cL σ9 v_3 r10 v_2 v8 _ hC) ⟨gj_cwB X tw_446 tw_6 tw_541 hd_Pi_put rfl rfl ⟨Nat.le_of_ble_eq_true rfl, Nat.le_of_ble_eq_true rfl⟩, X.2.2.2.2.1 _ tw_444, X.2.2.2.2.1 _ tw_445⟩ 18 rfl rfl hA rfl (Nat.le_of_ble_eq_true rfl) ⟨Nat.zero_le _, Nat.zero_le _⟩ d_Li_fold_124 rfl (fun σ11 hC => ?_)
        refine gj_aload_n X d_Li_fold_127 rfl 1 rfl ?_
        refine gj_get X inX5 29 rfl rfl 2 (by decide) tw_193 rfl rfl d_Li_fold_128 ?_
        refine gj_iload_n X d_Li_fold_131 rfl 4 rfl ?_
        refine gj_iconst (v := 1) X d_Li_fold_132 (by decide) ?_
        refine gj_iadd X d_Li_fold_133 ?_
        refine gj_putN (w' := (wG h cI cL) (gs_I σ11 8 (v_3 + (1 : Int32)))) X inX6 tyX6 tyX6_ok nmX6 18 rfl rfl 3 (by decide) tn_126 rfl rfl (tyX6_ok 3 (by decide)) rfl rfl (Nat.le_of_ble_eq_true rfl) (set_wG_I8 h cI cL σ11 _) d_Li_fold_134 ?_
        refine gj_topw (wof := (wG h cI cL)) (fun σ12 eσ12 => ?_)
        have hC := hC σ12 eσ12
        refine gj_iconst (v := 1) X d_Li_fold_137 (by decide) ?_
        exact gj_zret X hr hlk (by decide) ⟨hC, Or.inr rfl⟩ d_Li_fold_138
      · have hC := hC.2 c0
        refine gj_aload_n X d_Li_fold_26 rfl 0 rfl ?_
        refine gj_get X inX5 29 rfl rfl 0 (by decide) tw_191 rfl rfl d_Li_fold_27 ?_
        refine gj_iload_n X d_Li_fold_30 rfl 1 rfl ?_
        refine gj_iload X d_Li_fold_31 4 rfl ?_
        refine gj_callVI (As := [.int v_1, .int v_4]) (st := []) X (c_Gr_symbolAt l dC dI h cI cL σ2 v_1 v_4 _ hC) ⟨gj_cwB X tw_288 tw_2 tw_528 hd_Gr_symbolAt rfl rfl ⟨Nat.le_of_ble_eq_true rfl, Nat.le_of_ble_eq_true rfl⟩, X.2.2.2.2.1 _ tw_286, X.2.2.2.2.1 _ tw_287⟩ 2 rfl rfl hA rfl (Nat.le_of_ble_eq_true rfl) ⟨Nat.zero_le _, Nat.zero_le _⟩ d_Li_fold_33 rfl (fun r14 σ13 hC => ?_)
        refine gj_istore (L' := [(5, .int r14), (0, .ref (h 29)), (1, .int v_1), (2, .int v_2), (3, .int v_3), (4, .int v_4)]) X d_Li_fold_36 (by decide) rfl ?_
        refine gj_iload X d_Li_fold_38 0 rfl ?_
        refine gj_callSNI (As := [.int r14]) (st := []) X (c_Gl_isNonterminal l dC dI h cI cL σ13 r14 _ hC) ⟨gj_cwN X tw_249 tw_1 tn_529 hd_Gl_isNonterminal rfl rfl ⟨Nat.le_of_ble_eq_true rfl, Nat.le_of_ble_eq_true rfl⟩, X.2.2.2.2.1 _ tw_248, trivial⟩ hA rfl (Nat.le_of_ble_eq_true rfl) ⟨Nat.zero_le _, Nat.zero_le _⟩ d_Li_fold_40 rfl (fun r16 σ15 hC => ?_)
        obtain ⟨hC, hb⟩ := hC
        refine gj_if_ne (tgt := 52) X d_Li_fold_43 (by decide) (fun c0 => ?_) (fun c0 => ?_)
        · have hC := hC.1 c0
          obtain ⟨v17, ev17⟩ : ∃ y : Int32, y = v_3 + (-1) := ⟨_, rfl⟩
          have hC := hC v17 ev17
          refine gj_iinc (v := v17) (L' := [(3, .int v17), (5, .int r14), (0, .ref (h 29)), (1, .int v_1), (2, .int v_2), (4, .int v_4)]) X d_Li_fold_52 4 rfl (by rw [ev17]; rfl) (by decide) rfl ?_
          refine gj_iload_n X d_Li_fold_55 rfl 0 rfl ?_
          refine gj_if_lt (tgt := 73) X d_Li_fold_56 (by decide) (fun c0 => ?_) (fun c0 => ?_)
          · have hC := hC.1 c0
            refine gj_iconst (v := 0) X d_Li_fold_73 (by decide) ?_
            exact gj_zret X hr hlk (by decide) ⟨hC, Or.inl rfl⟩ d_Li_fold_74
          · have hC := hC.2 c0
            refine gj_aload_n X d_Li_fold_59 rfl 2 rfl ?_
            refine gj_get X inX5 29 rfl rfl 2 (by decide) tw_193 rfl rfl d_Li_fold_60 ?_
            refine gj_getN X inX6 18 rfl rfl 0 (by decide) tn_118 rfl rfl d_Li_fold_63 ?_
            refine gj_iload_n X d_Li_fold_66 rfl 0 rfl ?_
            refine gj_iald X 19 0 rfl rfl hC.1 d_Li_fold_67 ?_
            have hC := hC.2
            refine gj_iload X d_Li_fold_68 1 rfl ?_
            refine gj_icmp_eq (tgt := 75) X d_Li_fold_70 (by decide) (fun c0 => ?_) (fun c0 => ?_)
            · have hC := hC.1 c0
              refine gj_iload_n X d_Li_fold_75 rfl 4 rfl ?_
              refine gj_aload_n X d_Li_fold_76 rfl 2 rfl ?_
              refine gj_get X inX5 29 rfl rfl 2 (by decide) tw_193 rfl rfl d_Li_fold_77 ?_
              refine gj_getN X inX6 18 rfl rfl 1 (by decide) tn_122 rfl rfl d_Li_fold_80 ?_
              refine gj_iload_n X d_Li_fold_83 rfl 0 rfl ?_
              refine gj_iald X 20 0 rfl rfl hC.1 d_Li_fold_84 ?_
              have hC := hC.2
              refine gj_iadd X d_Li_fold_85 ?_
              refine gj_topi (fun v18 ev18 => ?_)
              have hC := hC v18 ev18
              refine gj_istore_n (L' := [(2, .int v18), (3, .int v17), (5, .int r14), (0, .ref (h 29)), (1, .int v_1), (4, .int v_4)]) X d_Li_fold_86 rfl (by decide) rfl ?_
              obtain ⟨v19, ev19⟩ : ∃ y : Int32, y = v_4 + 1 := ⟨_, rfl⟩
              have hC := hC v19 ev19
              refine gj_iinc (v := v19) (L' := [(4, .int v19), (2, .int v18), (3, .int v17), (5, .int r14), (0, .ref (h 29)), (1, .int v_1)]) X d_Li_fold_87 5 rfl (by rw [ev19]; rfl) (by decide) rfl ?_
              refine gj_goto (tgt := 13) X d_Li_fold_90 (by decide) ?_
              exact gj_loc [4, 5, 1, 2, 0] rfl hC
            · have hC := hC.2 c0
              refine gj_iconst (v := 0) X d_Li_fold_73 (by decide) ?_
              exact gj_zret X hr hlk (by decide) ⟨hC, Or.inl rfl⟩ d_Li_fold_74
        · have hC := hC.2 c0
          obtain ⟨v20, ev20⟩ : ∃ y : Int32, y = v_2 + 1 := ⟨_, rfl⟩
          have hC := hC v20 ev20
          refine gj_iinc (v := v20) (L' := [(2, .int v20), (5, .int r14), (0, .ref (h 29)), (1, .int v_1), (3, .int v_3), (4, .int v_4)]) X d_Li_fold_46 3 rfl (by rw [ev20]; rfl) (by decide) rfl ?_
          refine gj_goto (tgt := 87) X d_Li_fold_49 (by decide) ?_
          obtain ⟨v21, ev21⟩ : ∃ y : Int32, y = v_4 + 1 := ⟨_, rfl⟩
          have hC := hC v21 ev21
          refine gj_iinc (v := v21) (L' := [(4, .int v21), (2, .int v20), (5, .int r14), (0, .ref (h 29)), (1, .int v_1), (3, .int v_3)]) X d_Li_fold_87 5 rfl (by rw [ev21]; rfl) (by decide) rfl ?_
          refine gj_goto (tgt := 13) X d_Li_fold_90 (by decide) ?_
          exact gj_loc [3, 4, 1, 5, 0] rfl hC)
  refine gj_iconst (v := 0) X d_Li_fold_0 (by decide) ?_
  refine gj_istore_n (L' := [(2, .int (0 : Int32)), (0, .ref (h 29)), (1, .int a0)]) X d_Li_fold_1 rfl (by decide) rfl ?_
  refine gj_aload_n X d_Li_fold_2 rfl 1 rfl ?_
  refine gj_get X inX5 29 rfl rfl 2 (by decide) tw_193 rfl rfl d_Li_fold_3 ?_
  refine gj_getN X inX6 18 rfl rfl 3 (by decide) tn_126 rfl rfl d_Li_fold_6 ?_
  refine gj_topi (fun v1 ev1 => ?_)
  have hC := hC v1 ev1
  refine gj_istore_n (L' := [(3, .int v1), (2, .int (0 : Int32)), (0, .ref (h 29)), (1, .int a0)]) X d_Li_fold_9 rfl (by decide) rfl ?_
  refine gj_iconst (v := 0) X d_Li_fold_10 (by decide) ?_
  refine gj_istore (L' := [(4, .int (0 : Int32)), (3, .int v1), (2, .int (0 : Int32)), (0, .ref (h 29)), (1, .int a0)]) X d_Li_fold_11 (by decide) rfl ?_
  exact gj_loc [3, 4, 2, 1, 0] rfl hC
abbrev rm_Li_numberOf : Room := { frames := 6, cells := 0, slots := 0, locals := 141 }
set_option maxHeartbeats 4000000 in
set_option maxRecDepth 100000 in
theorem c_Li_numberOf (l : Launch) (dC : Nat → ClassId) (dI : Nat → Nat → Nat) (h : Nat → Nat) (cI cL : ClassId) (σ : gs_St) (a0 : Int32) (K : Int64 → gs_St → Prop) (hC : C_Li_numberOf a0 σ K) : gj_ML l y_Li_numberOf (gj_ws y_Li_numberOf b_Li_numberOf 4 (some .long)) rm_Li_numberOf (dC, dI) gs_C (gs_T cI cL) ((wG h cI cL) σ) (wG h cI cL) [.ref (h 29), .int a0] K := by
  refine gj_enterL (by decide) (Nat.le_of_ble_eq_true rfl) (fun p e s m args below meth c A X hr hlk hA hnm => ?_)
  change gj_J p l e rm_Li_numberOf s m args below meth c 0 0 (MQ below (va_Ql K (gj_at (dC, dI) gs_C (gs_T cI cL) (wG h cI cL) A) A) args s 0 0 A) (dC, dI) gs_C A 4 0 [(0, .ref (h 29)), (1, .int a0)] [] ((wG h cI cL) σ)
  have hC := hC
    (fun (v_1 : Int32) (v_3 : Int32) (σ : gs_St) => gj_J p l e rm_Li_numberOf s m args below meth c 0 0 (MQ below (va_Ql K (gj_at (dC, dI) gs_C (gs_T cI cL) (wG h cI cL) A) A) args s 0 0 A) (dC, dI) gs_C A 4 51 [(0, .ref (h 29)), (1, .int v_1), (3, .int v_3)] [] ((wG h cI cL) σ))
    (by
      intro v_1 v_3 σ hC
      refine gj_iload_n X d_Li_numberOf_51 rfl 2 rfl ?_
      refine gj_if_lt (tgt := 78) X d_Li_numberOf_52 (by decide) (fun c0 => ?_) (fun c0 => ?_)
      · have hC := hC.1 c0
        refine gj_aload_n X d_Li_numberOf_78 rfl 0 rfl ?_
        refine gj_get X inX5 29 rfl rfl 2 (by decide) tw_193 rfl rfl d_Li_numberOf_79 ?_
        refine gj_getN X inX6 18 rfl rfl 3 (by decide) tn_126 rfl rfl d_Li_numberOf_82 ?_
        refine gj_iconst (v := 1) X d_Li_numberOf_85 (by decide) ?_
        refine gj_icmp_ne (tgt := 114) X d_Li_numberOf_86 (by decide) (fun c0 => ?_) (fun c0 => ?_)
        · have hC := hC.1 c0
          refine gj_ldc2 (v := -1) X tw_523 d_Li_numberOf_114 ?_
          exact gj_lret X hr hlk hC d_Li_numberOf_117
        · have hC := hC.2 c0
          refine gj_aload_n X d_Li_numberOf_89 rfl 0 rfl ?_
          refine gj_get X inX5 29 rfl rfl 2 (by decide) tw_193 rfl rfl d_Li_numberOf_90 ?_
          refine gj_getN X inX6 18 rfl rfl 0 (by decide) tn_118 rfl rfl d_Li_numberOf_93 ?_
          refine gj_iconst (v := 0) X d_Li_numberOf_96 (by decide) ?_
          refine gj_iald X 19 0 rfl rfl hC.1 d_Li_numberOf_97 ?_
          have hC := hC.2
          refine gj_iload_n X d_Li_numberOf_98 rfl 1 rfl ?_
          refine gj_icmp_ne (tgt := 114) X d_Li_numberOf_99 (by decide) (fun c0 => ?_) (fun c0 => ?_)
          · have hC := hC.1 c0
            refine gj_ldc2 (v := -1) X tw_523 d_Li_numberOf_114 ?_
            exact gj_lret X hr hlk hC d_Li_numberOf_117
          · have hC := hC.2 c0
            refine gj_aload_n X d_Li_numberOf_102 rfl 0 rfl ?_
            refine gj_get X inX5 29 rfl rfl 2 (by decide) tw_193 rfl rfl d_Li_numberOf_103 ?_
            refine gj_getN X inX6 18 rfl rfl 2 (by decide) tn_124 rfl rfl d_Li_numberOf_106 ?_
            refine gj_iconst (v := 0) X d_Li_numberOf_109 (by decide) ?_
            refine gj_lald X 21 1 rfl rfl hC.1 d_Li_numberOf_110 ?_
            have hC := hC.2
            refine gj_goto (tgt := 117) X d_Li_numberOf_111 (by decide) ?_
            exact gj_lret X hr hlk hC d_Li_numberOf_117
      · have hC := hC.2 c0
        refine gj_aload_n X d_Li_numberOf_55 rfl 0 rfl ?_
        refine gj_aload_n X d_Li_numberOf_56 rfl 0 rfl ?_
        refine gj_get X inX5 29 rfl rfl 3 (by decide) tw_194 rfl rfl d_Li_numberOf_57 ?_
        refine gj_iload_n X d_Li_numberOf_60 rfl 2 rfl ?_
        refine gj_iald X 30 0 rfl rfl hC.1 d_Li_numberOf_61 ?_
        have hC := hC.2
        refine gj_callVI (As := [.int (σ.2.1 14 v_3.toNatClampNeg)]) (st := []) X (c_Li_fold l dC dI h cI cL σ (σ.2.1 14 v_3.toNatClampNeg) _ hC) ⟨gj_cwB X tw_527 tw_9 tw_524 hd_Li_fold rfl rfl ⟨Nat.le_of_ble_eq_true rfl, Nat.le_of_ble_eq_true rfl⟩, X.2.2.2.2.1 _ tw_526, X.2.2.2.2.1 _ ts_13⟩ 29 rfl rfl hA rfl (Nat.le_of_ble_eq_true rfl) ⟨Nat.zero_le _, Nat.zero_le _⟩ d_Li_numberOf_62 rfl (fun r8 σ7 hC => ?_)
        obtain ⟨hC, hb⟩ := hC
        refine gj_if_ne (tgt := 72) X d_Li_numberOf_65 (by decide) (fun c0 => ?_) (fun c0 => ?_)
        · have hC := hC.1 c0
          obtain ⟨v9, ev9⟩ : ∃ y : Int32, y = v_3 + (-1) := ⟨_, rfl⟩
          have hC := hC v9 ev9
          refine gj_iinc (v := v9) (L' := [(3, .int v9), (0, .ref (h 29)), (1, .int v_1)]) X d_Li_numberOf_72 2 rfl (by rw [ev9]; rfl) (by decide) rfl ?_
          refine gj_goto (tgt := 51) X d_Li_numberOf_75 (by decide) ?_
          exact gj_loc [1, 2, 0] rfl hC
        · have hC := hC.2 c0
          refine gj_ldc2 (v := -1) X tw_523 d_Li_numberOf_68 ?_
          exact gj_lret X hr hlk hC d_Li_numberOf_71)
  refine gj_aload_n X d_Li_numberOf_0 rfl 0 rfl ?_
  refine gj_callVI (As := []) (st := []) X (c_Li_terminals l dC dI h cI cL σ _ hC) ⟨gj_cwB X tw_517 tw_9 tw_514 hd_Li_terminals rfl rfl ⟨Nat.le_of_ble_eq_true rfl, Nat.le_of_ble_eq_true rfl⟩, X.2.2.2.2.1 _ tw_516, X.2.2.2.2.1 _ ts_12⟩ 29 rfl rfl hA rfl (Nat.le_of_ble_eq_true rfl) ⟨Nat.zero_le _, Nat.zero_le _⟩ d_Li_numberOf_1 rfl (fun r2 σ1 hC => ?_)
  refine gj_istore_n (L' := [(2, .int r2), (0, .ref (h 29)), (1, .int a0)]) X d_Li_numberOf_4 rfl (by decide) rfl ?_
  refine gj_iload_n X d_Li_numberOf_5 rfl 0 rfl ?_
  refine gj_iconst (v := -1) X d_Li_numberOf_6 (by decide) ?_
  refine gj_icmp_eq (tgt := 32) X d_Li_numberOf_7 (by decide) (fun c0 => ?_) (fun c0 => ?_)
  · have hC := hC.1 c0
    refine gj_ldc2 (v := -1) X tw_523 d_Li_numberOf_32 ?_
    exact gj_lret X hr hlk hC d_Li_numberOf_35
  · have hC := hC.2 c0
    refine gj_iload_n X d_Li_numberOf_10 rfl 0 rfl ?_
    refine gj_bipush (v := 16) X d_Li_numberOf_11 (by decide) ?_
    refine gj_icmp_gt (tgt := 32) X d_Li_numberOf_13 (by decide) (fun c0 => ?_) (fun c0 => ?_)
    · have hC := hC.1 c0
      refine gj_ldc2 (v := -1) X tw_523 d_Li_numberOf_32 ?_
      exact gj_lret X hr hlk hC d_Li_numberOf_35
    · have hC := hC.2 c0
      refine gj_aload_n X d_Li_numberOf_16 rfl 1 rfl ?_
      refine gj_get X inX5 29 rfl rfl 1 (by decide) tw_192 rfl rfl d_Li_numberOf_17 ?_
      refine gj_iload_n X d_Li_numberOf_20 rfl 2 rfl ?_
      refine gj_iload_n X d_Li_numberOf_21 rfl 0 rfl ?_
      refine gj_callVL (As := [.int a0, .int r2]) (st := []) X (c_Co_treesOf l dC dI h cI cL σ1 a0 r2 _ hC) ⟨gj_cwB X tw_376 tw_5 tw_521 hd_Co_treesOf rfl rfl ⟨Nat.le_of_ble_eq_true rfl, Nat.le_of_ble_eq_true rfl⟩, X.2.2.2.2.1 _ tw_374, X.2.2.2.2.1 _ tw_375⟩ 12 rfl rfl hA rfl (Nat.le_of_ble_eq_true rfl) ⟨Nat.zero_le _, Nat.zero_le _⟩ d_Li_numberOf_22 rfl (fun r4 σ3 hC => ?_)
      refine gj_ldc2 (v := 1000000000000000000) X tw_522 d_Li_numberOf_25 ?_
      refine gj_lcmp_le (tgt := 36) X d_Li_numberOf_28 d_Li_numberOf_29 (by decide) (fun c0 => ?_) (fun c0 => ?_)
      · have hC := hC.1 c0
        refine gj_aload_n X d_Li_numberOf_36 rfl 1 rfl ?_
        refine gj_get X inX5 29 rfl rfl 2 (by decide) tw_193 rfl rfl d_Li_numberOf_37 ?_
        refine gj_iconst (v := 0) X d_Li_numberOf_40 (by decide) ?_
        refine gj_putN (w' := (wG h cI cL) (gs_I σ3 8 (0 : Int32))) X inX6 tyX6 tyX6_ok nmX6 18 rfl rfl 3 (by decide) tn_126 rfl rfl (tyX6_ok 3 (by decide)) rfl rfl (Nat.le_of_ble_eq_true rfl) (set_wG_I8 h cI cL σ3 _) d_Li_numberOf_41 ?_
        refine gj_topw (wof := (wG h cI cL)) (fun σ5 eσ5 => ?_)
        have hC := hC σ5 eσ5
        refine gj_aload_n X d_Li_numberOf_44 rfl 1 rfl ?_
        refine gj_get X inX5 29 rfl rfl 4 (by decide) tw_195 rfl rfl d_Li_numberOf_45 ?_
        refine gj_iconst (v := 1) X d_Li_numberOf_48 (by decide) ?_
        refine gj_isub X d_Li_numberOf_49 ?_
        refine gj_topi (fun v6 ev6 => ?_)
        have hC := hC v6 ev6
        refine gj_istore_n (L' := [(3, .int v6), (2, .int r2), (0, .ref (h 29)), (1, .int a0)]) X d_Li_numberOf_50 rfl (by decide) rfl ?_
        exact gj_loc [2, 3, 0] rfl hC
      · have hC := hC.2 c0
        refine gj_ldc2 (v := -1) X tw_523 d_Li_numberOf_32 ?_
        exact gj_lret X hr hlk hC d_Li_numberOf_35
abbrev rm_Gl_number : Room := { frames := 7, cells := 0, slots := 0, locals := 164 }
set_option maxHeartbeats 4000000 in
set_option maxRecDepth 100000 in
theorem c_Gl_number (l : Launch) (dC : Nat → ClassId) (dI : Nat → Nat → Nat) (h : Nat → Nat) (cI cL : ClassId) (σ : gs_St) (a0 : Int32) (K : Int64 → gs_St → Prop) (hC : C_Gl_number a0 σ K) : gj_ML l y_Gl_number (gj_ws y_Gl_number b_Gl_number 4 (some .long)) rm_Gl_number (dC, dI) gs_C (gs_T cI cL) ((wG h cI cL) σ) (wG h cI cL) [.ref (h 0), .int a0] K := by
  refine gj_enterL (by decide) (Nat.le_of_ble_eq_true rfl) (fun p e s m args below meth c A X hr hlk hA hnm => ?_)
  change gj_J p l e rm_Gl_number s m args below meth c 0 0 (MQ below (va_Ql K (gj_at (dC, dI) gs_C (gs_T cI cL) (wG h cI cL) A) A) args s 0 0 A) (dC, dI) gs_C A 4 0 [(0, .ref (h 0)), (1, .int a0)] [] ((wG h cI cL) σ)
  refine gj_ldc2 (v := -1) X tw_372 d_Gl_number_0 ?_
  refine gj_lstore_n (L' := [(2, .long (-1 : Int64)), (0, .ref (h 0)), (1, .int a0)]) X d_Gl_number_3 rfl (by decide) rfl ?_
  refine gj_iload_n X d_Gl_number_4 rfl 2 rfl ?_
  refine gj_callSI (As := [.int a0]) (st := []) X (c_Gl_isNonterminal l dC dI h cI cL σ a0 _ hC) ⟨gj_cwB X tw_249 tw_1 tw_247 hd_Gl_isNonterminal rfl rfl ⟨Nat.le_of_ble_eq_true rfl, Nat.le_of_ble_eq_true rfl⟩, X.2.2.2.2.1 _ tw_248⟩ hA rfl (Nat.le_of_ble_eq_true rfl) ⟨Nat.zero_le _, Nat.zero_le _⟩ d_Gl_number_5 rfl (fun r2 σ1 hC => ?_)
  obtain ⟨hC, hb⟩ := hC
  refine gj_if_eq (tgt := 27) X d_Gl_number_8 (by decide) (fun c0 => ?_) (fun c0 => ?_)
  · have hC := hC.1 c0
    refine gj_aload_n X d_Gl_number_27 rfl 1 rfl ?_
    refine gj_get X inX8 0 rfl rfl 8 (by decide) tw_216 rfl rfl d_Gl_number_28 ?_
    refine gj_iconst (v := 0) X d_Gl_number_31 (by decide) ?_
    refine gj_putN (w' := (wG h cI cL) (gs_I σ1 14 (0 : Int32))) X inX5 tyX5 tyX5_ok nmX5 29 rfl rfl 4 (by decide) tn_196 rfl rfl (tyX5_ok 4 (by decide)) rfl rfl (Nat.le_of_ble_eq_true rfl) (set_wG_I14 h cI cL σ1 _) d_Gl_number_32 ?_
    refine gj_topw (wof := (wG h cI cL)) (fun σ3 eσ3 => ?_)
    have hC := hC σ3 eσ3
    refine gj_lload_n X d_Gl_number_35 rfl 0 rfl ?_
    exact gj_lret X hr hlk hC d_Gl_number_36
  · have hC := hC.2 c0
    refine gj_aload_n X d_Gl_number_11 rfl 1 rfl ?_
    refine gj_callVI (As := []) (st := []) X (c_Gl_circle l dC dI h cI cL σ1 _ hC) ⟨gj_cwB X tw_359 tw_1 tw_509 hd_Gl_circle rfl rfl ⟨Nat.le_of_ble_eq_true rfl, Nat.le_of_ble_eq_true rfl⟩, X.2.2.2.2.1 _ tw_357, X.2.2.2.2.1 _ tw_358⟩ 0 rfl rfl hA rfl (Nat.le_of_ble_eq_true rfl) ⟨Nat.zero_le _, Nat.zero_le _⟩ d_Gl_number_12 rfl (fun r5 σ4 hC => ?_)
    obtain ⟨hC, hb⟩ := hC
    refine gj_if_ne (tgt := 27) X d_Gl_number_15 (by decide) (fun c0 => ?_) (fun c0 => ?_)
    · have hC := hC.1 c0
      refine gj_aload_n X d_Gl_number_27 rfl 1 rfl ?_
      refine gj_get X inX8 0 rfl rfl 8 (by decide) tw_216 rfl rfl d_Gl_number_28 ?_
      refine gj_iconst (v := 0) X d_Gl_number_31 (by decide) ?_
      refine gj_putN (w' := (wG h cI cL) (gs_I σ4 14 (0 : Int32))) X inX5 tyX5 tyX5_ok nmX5 29 rfl rfl 4 (by decide) tn_196 rfl rfl (tyX5_ok 4 (by decide)) rfl rfl (Nat.le_of_ble_eq_true rfl) (set_wG_I14 h cI cL σ4 _) d_Gl_number_32 ?_
      refine gj_topw (wof := (wG h cI cL)) (fun σ6 eσ6 => ?_)
      have hC := hC σ6 eσ6
      refine gj_lload_n X d_Gl_number_35 rfl 0 rfl ?_
      exact gj_lret X hr hlk hC d_Gl_number_36
    · have hC := hC.2 c0
      refine gj_aload_n X d_Gl_number_18 rfl 1 rfl ?_
      refine gj_get X inX8 0 rfl rfl 8 (by decide) tw_216 rfl rfl d_Gl_number_19 ?_
      refine gj_iload_n X d_Gl_number_22 rfl 2 rfl ?_
      refine gj_callVL (As := [.int a0]) (st := []) X (c_Li_numberOf l dC dI h cI cL σ4 a0 _ hC) ⟨gj_cwB X tw_513 tw_9 tw_510 hd_Li_numberOf rfl rfl ⟨Nat.le_of_ble_eq_true rfl, Nat.le_of_ble_eq_true rfl⟩, X.2.2.2.2.1 _ tw_511, X.2.2.2.2.1 _ tw_512⟩ 29 rfl rfl hA rfl (Nat.le_of_ble_eq_true rfl) ⟨Nat.zero_le _, Nat.zero_le _⟩ d_Gl_number_23 rfl (fun r8 σ7 hC => ?_)
      refine gj_lstore_n (L' := [(2, .long r8), (0, .ref (h 0)), (1, .int a0)]) X d_Gl_number_26 rfl (by decide) rfl ?_
      refine gj_aload_n X d_Gl_number_27 rfl 1 rfl ?_
      refine gj_get X inX8 0 rfl rfl 8 (by decide) tw_216 rfl rfl d_Gl_number_28 ?_
      refine gj_iconst (v := 0) X d_Gl_number_31 (by decide) ?_
      refine gj_putN (w' := (wG h cI cL) (gs_I σ7 14 (0 : Int32))) X inX5 tyX5 tyX5_ok nmX5 29 rfl rfl 4 (by decide) tn_196 rfl rfl (tyX5_ok 4 (by decide)) rfl rfl (Nat.le_of_ble_eq_true rfl) (set_wG_I14 h cI cL σ7 _) d_Gl_number_32 ?_
      refine gj_topw (wof := (wG h cI cL)) (fun σ9 eσ9 => ?_)
      have hC := hC σ9 eσ9
      refine gj_lload_n X d_Gl_number_35 rfl 0 rfl ?_
      exact gj_lret X hr hlk hC d_Gl_number_36
end
section
abbrev rm_Gr_init : Room := { frames := 1, cells := 3, slots := 192, locals := 12 }
set_option maxHeartbeats 4000000 in
set_option maxRecDepth 100000 in
theorem c_Gr_init (l : Launch) (dC : Nat → ClassId) (dI : Nat → Nat → Nat) (cI cL : ClassId) (t : Nat) : gj_MV 3 192 l y_Gr_init (gj_ws y_Gr_init b_Gr_init 1 none) rm_Gr_init (dC, dI) gs_C (gs_T cI cL) [(t, .inr (2, [.null, .null, .null, .int 0]))] (fun u : Nat × Nat × Nat => [(t, .inr (2, [.ref (u.1), .ref (u.2.1), .ref (u.2.2), .int 0])), ((u.1), .inl (cI, 24, .inl (fun _ => 0))), ((u.2.1), .inl (cI, 24, .inl (fun _ => 0))), ((u.2.2), .inl (cI, 144, .inl (fun _ => 0)))]) [.ref t] (fun _ => True) := by
  refine gj_enterV (by decide) (Nat.le_of_ble_eq_true rfl) (fun p e s m args below meth c A X hr hlk hA hnm => ?_)
  change gj_J p l e rm_Gr_init s m args below meth c 0 0 (MQ below (va_Qv (fun _ => True) (gj_at (dC, dI) gs_C (gs_T cI cL) (fun u : Nat × Nat × Nat => [(t, .inr (2, [.ref (u.1), .ref (u.2.1), .ref (u.2.2), .int 0])), ((u.1), .inl (cI, 24, .inl (fun _ => 0))), ((u.2.1), .inl (cI, 24, .inl (fun _ => 0))), ((u.2.2), .inl (cI, 144, .inl (fun _ => 0)))]) A) A) args s 3 192 A) (dC, dI) gs_C A 1 0 [(0, .ref t)] [] [(t, .inr (2, [.null, .null, .null, .int 0]))]
  refine gj_aload_n X d_Gr_init_0 rfl 0 rfl ?_
  refine gj_objInit X tw_27 tw_20 tw_21 d_Gr_init_1 (Nat.le_of_ble_eq_true rfl) (Nat.le_of_ble_eq_true rfl) ?_
  refine gj_aload_n X d_Gr_init_4 rfl 0 rfl ?_
  refine gj_bipush (v := 24) X d_Gr_init_5 (by decide) ?_
  refine gj_newaI (atype := .int) (N' := 24) X tw_46 rfl 0 rfl hA (by decide) (by decide) (by decide) (Nat.le_of_ble_eq_true rfl) (Nat.le_of_ble_eq_true rfl) d_Gr_init_7 (fun q1 => ?_)
  refine gj_putF (w' := [(t, .inr (2, [.ref q1, .null, .null, .int 0])), (q1, .inl (cI, 24, .inl (fun _ => 0)))]) X inX2 tyX2 tyX2_ok nmX2 0 rfl (ci := 2) rfl 0 (by decide) tw_28 rfl rfl hnm rfl (tyX2_ok 0 (by decide)) rfl rfl (Nat.le_of_ble_eq_true rfl) rfl d_Gr_init_9 ?_
  refine gj_aload_n X d_Gr_init_12 rfl 0 rfl ?_
  refine gj_bipush (v := 24) X d_Gr_init_13 (by decide) ?_
  refine gj_newaI (atype := .int) (N' := 24) X tw_46 rfl 0 rfl hA (by decide) (by decide) (by decide) (Nat.le_of_ble_eq_true rfl) (Nat.le_of_ble_eq_true rfl) d_Gr_init_15 (fun q2 => ?_)
  refine gj_putF (w' := [(t, .inr (2, [.ref q1, .ref q2, .null, .int 0])), (q1, .inl (cI, 24, .inl (fun _ => 0))), (q2, .inl (cI, 24, .inl (fun _ => 0)))]) X inX2 tyX2 tyX2_ok nmX2 0 rfl (ci := 2) rfl 1 (by decide) tw_29 rfl rfl hnm rfl (tyX2_ok 1 (by decide)) rfl rfl (Nat.le_of_ble_eq_true rfl) rfl d_Gr_init_17 ?_
  refine gj_aload_n X d_Gr_init_20 rfl 0 rfl ?_
  refine gj_sipush (v := 144) X d_Gr_init_21 (by decide) ?_
  refine gj_newaI (atype := .int) (N' := 144) X tw_46 rfl 0 rfl hA (by decide) (by decide) (by decide) (Nat.le_of_ble_eq_true rfl) (Nat.le_of_ble_eq_true rfl) d_Gr_init_24 (fun q3 => ?_)
  refine gj_putF (w' := [(t, .inr (2, [.ref q1, .ref q2, .ref q3, .int 0])), (q1, .inl (cI, 24, .inl (fun _ => 0))), (q2, .inl (cI, 24, .inl (fun _ => 0))), (q3, .inl (cI, 144, .inl (fun _ => 0)))]) X inX2 tyX2 tyX2_ok nmX2 0 rfl (ci := 2) rfl 2 (by decide) tw_30 rfl rfl hnm rfl (tyX2_ok 2 (by decide)) rfl rfl (Nat.le_of_ble_eq_true rfl) rfl d_Gr_init_26 ?_
  exact gj_vret (wof := fun u : Nat × Nat × Nat => [(t, .inr (2, [.ref (u.1), .ref (u.2.1), .ref (u.2.2), .int 0])), ((u.1), .inl (cI, 24, .inl (fun _ => 0))), ((u.2.1), .inl (cI, 24, .inl (fun _ => 0))), ((u.2.2), .inl (cI, 144, .inl (fun _ => 0)))]) (u := ((q1, q2, q3) : Nat × Nat × Nat)) X hr hlk trivial d_Gr_init_29
abbrev rm_Le_init : Room := { frames := 1, cells := 2, slots := 16, locals := 12 }
set_option maxHeartbeats 4000000 in
set_option maxRecDepth 100000 in
theorem c_Le_init (l : Launch) (dC : Nat → ClassId) (dI : Nat → Nat → Nat) (cI cL : ClassId) (t a0 : Nat) : gj_MV 2 16 l y_Le_init (gj_ws y_Le_init b_Le_init 2 none) rm_Le_init (dC, dI) gs_C (gs_T cI cL) [(t, .inr (4, [.null, .null, .null]))] (fun u : Nat × Nat => [(t, .inr (4, [.ref a0, .ref (u.1), .ref (u.2)])), ((u.1), .inl (cI, 8, .inl (fun _ => 0))), ((u.2), .inl (cI, 8, .inl (fun _ => 0)))]) [.ref t, .ref a0] (fun _ => True) := by
  refine gj_enterV (by decide) (Nat.le_of_ble_eq_true rfl) (fun p e s m args below meth c A X hr hlk hA hnm => ?_)
  change gj_J p l e rm_Le_init s m args below meth c 0 0 (MQ below (va_Qv (fun _ => True) (gj_at (dC, dI) gs_C (gs_T cI cL) (fun u : Nat × Nat => [(t, .inr (4, [.ref a0, .ref (u.1), .ref (u.2)])), ((u.1), .inl (cI, 8, .inl (fun _ => 0))), ((u.2), .inl (cI, 8, .inl (fun _ => 0)))]) A) A) args s 2 16 A) (dC, dI) gs_C A 2 0 [(0, .ref t), (1, .ref a0)] [] [(t, .inr (4, [.null, .null, .null]))]
  refine gj_aload_n X d_Le_init_0 rfl 0 rfl ?_
  refine gj_objInit X tw_52 tw_20 tw_21 d_Le_init_1 (Nat.le_of_ble_eq_true rfl) (Nat.le_of_ble_eq_true rfl) ?_
  refine gj_aload_n X d_Le_init_4 rfl 0 rfl ?_
  refine gj_bipush (v := 8) X d_Le_init_5 (by decide) ?_
  refine gj_newaI (atype := .int) (N' := 8) X tw_46 rfl 0 rfl hA (by decide) (by decide) (by decide) (Nat.le_of_ble_eq_true rfl) (Nat.le_of_ble_eq_true rfl) d_Le_init_7 (fun q1 => ?_)
  refine gj_putF (w' := [(t, .inr (4, [.null, .ref q1, .null])), (q1, .inl (cI, 8, .inl (fun _ => 0)))]) X inX4 tyX4 tyX4_ok nmX4 0 rfl (ci := 4) rfl 1 (by decide) tw_54 rfl rfl hnm rfl (tyX4_ok 1 (by decide)) rfl rfl (Nat.le_of_ble_eq_true rfl) rfl d_Le_init_9 ?_
  refine gj_aload_n X d_Le_init_12 rfl 0 rfl ?_
  refine gj_bipush (v := 8) X d_Le_init_13 (by decide) ?_
  refine gj_newaI (atype := .int) (N' := 8) X tw_46 rfl 0 rfl hA (by decide) (by decide) (by decide) (Nat.le_of_ble_eq_true rfl) (Nat.le_of_ble_eq_true rfl) d_Le_init_15 (fun q2 => ?_)
  refine gj_putF (w' := [(t, .inr (4, [.null, .ref q1, .ref q2])), (q1, .inl (cI, 8, .inl (fun _ => 0))), (q2, .inl (cI, 8, .inl (fun _ => 0)))]) X inX4 tyX4 tyX4_ok nmX4 0 rfl (ci := 4) rfl 2 (by decide) tw_55 rfl rfl hnm rfl (tyX4_ok 2 (by decide)) rfl rfl (Nat.le_of_ble_eq_true rfl) rfl d_Le_init_17 ?_
  refine gj_aload_n X d_Le_init_20 rfl 0 rfl ?_
  refine gj_aload_n X d_Le_init_21 rfl 1 rfl ?_
  refine gj_putF (w' := [(t, .inr (4, [.ref a0, .ref q1, .ref q2])), (q1, .inl (cI, 8, .inl (fun _ => 0))), (q2, .inl (cI, 8, .inl (fun _ => 0)))]) X inX4 tyX4 tyX4_ok nmX4 0 rfl (ci := 4) rfl 0 (by decide) tw_53 rfl rfl hnm rfl (tyX4_ok 0 (by decide)) rfl rfl (Nat.le_of_ble_eq_true rfl) rfl d_Le_init_22 ?_
  exact gj_vret (wof := fun u : Nat × Nat => [(t, .inr (4, [.ref a0, .ref (u.1), .ref (u.2)])), ((u.1), .inl (cI, 8, .inl (fun _ => 0))), ((u.2), .inl (cI, 8, .inl (fun _ => 0)))]) (u := ((q1, q2) : Nat × Nat)) X hr hlk trivial d_Le_init_25
abbrev rm_Ld_init : Room := { frames := 1, cells := 2, slots := 16, locals := 12 }
set_option maxHeartbeats 4000000 in
set_option maxRecDepth 100000 in
theorem c_Ld_init (l : Launch) (dC : Nat → ClassId) (dI : Nat → Nat → Nat) (cI cL : ClassId) (t a0 a1 : Nat) : gj_MV 2 16 l y_Ld_init (gj_ws y_Ld_init b_Ld_init 3 none) rm_Ld_init (dC, dI) gs_C (gs_T cI cL) [(t, .inr (3, [.null, .null, .null, .null, .int 0]))] (fun u : Nat × Nat => [(t, .inr (3, [.ref a0, .ref a1, .ref (u.1), .ref (u.2), .int 0])), ((u.1), .inl (cI, 8, .inl (fun _ => 0))), ((u.2), .inl (cI, 8, .inl (fun _ => 0)))]) [.ref t, .ref a0, .ref a1] (fun _ => True) := by
  refine gj_enterV (by decide) (Nat.le_of_ble_eq_true rfl) (fun p e s m args below meth c A X hr hlk hA hnm => ?_)
  change gj_J p l e rm_Ld_init s m args below meth c 0 0 (MQ below (va_Qv (fun _ => True) (gj_at (dC, dI) gs_C (gs_T cI cL) (fun u : Nat × Nat => [(t, .inr (3, [.ref a0, .ref a1, .ref (u.1), .ref (u.2), .int 0])), ((u.1), .inl (cI, 8, .inl (fun _ => 0))), ((u.2), .inl (cI, 8, .inl (fun _ => 0)))]) A) A) args s 2 16 A) (dC, dI) gs_C A 3 0 [(0, .ref t), (1, .ref a0), (2, .ref a1)] [] [(t, .inr (3, [.null, .null, .null, .null, .int 0]))]
  refine gj_aload_n X d_Ld_init_0 rfl 0 rfl ?_
  refine gj_objInit X tw_68 tw_20 tw_21 d_Ld_init_1 (Nat.le_of_ble_eq_true rfl) (Nat.le_of_ble_eq_true rfl) ?_
  refine gj_aload_n X d_Ld_init_4 rfl 0 rfl ?_
  refine gj_bipush (v := 8) X d_Ld_init_5 (by decide) ?_
  refine gj_newaI (atype := .int) (N' := 8) X tw_46 rfl 0 rfl hA (by decide) (by decide) (by decide) (Nat.le_of_ble_eq_true rfl) (Nat.le_of_ble_eq_true rfl) d_Ld_init_7 (fun q1 => ?_)
  refine gj_putF (w' := [(t, .inr (3, [.null, .null, .ref q1, .null, .int 0])), (q1, .inl (cI, 8, .inl (fun _ => 0)))]) X inX3 tyX3 tyX3_ok nmX3 0 rfl (ci := 3) rfl 2 (by decide) tw_71 rfl rfl hnm rfl (tyX3_ok 2 (by decide)) rfl rfl (Nat.le_of_ble_eq_true rfl) rfl d_Ld_init_9 ?_
  refine gj_aload_n X d_Ld_init_12 rfl 0 rfl ?_
  refine gj_bipush (v := 8) X d_Ld_init_13 (by decide) ?_
  refine gj_newaI (atype := .int) (N' := 8) X tw_46 rfl 0 rfl hA (by decide) (by decide) (by decide) (Nat.le_of_ble_eq_true rfl) (Nat.le_of_ble_eq_true rfl) d_Ld_init_15 (fun q2 => ?_)
  refine gj_putF (w' := [(t, .inr (3, [.null, .null, .ref q1, .ref q2, .int 0])), (q1, .inl (cI, 8, .inl (fun _ => 0))), (q2, .inl (cI, 8, .inl (fun _ => 0)))]) X inX3 tyX3 tyX3_ok nmX3 0 rfl (ci := 3) rfl 3 (by decide) tw_72 rfl rfl hnm rfl (tyX3_ok 3 (by decide)) rfl rfl (Nat.le_of_ble_eq_true rfl) rfl d_Ld_init_17 ?_
  refine gj_aload_n X d_Ld_init_20 rfl 0 rfl ?_
  refine gj_aload_n X d_Ld_init_21 rfl 1 rfl ?_
  refine gj_putF (w' := [(t, .inr (3, [.ref a0, .null, .ref q1, .ref q2, .int 0])), (q1, .inl (cI, 8, .inl (fun _ => 0))), (q2, .inl (cI, 8, .inl (fun _ => 0)))]) X inX3 tyX3 tyX3_ok nmX3 0 rfl (ci := 3) rfl 0 (by decide) tw_69 rfl rfl hnm rfl (tyX3_ok 0 (by decide)) rfl rfl (Nat.le_of_ble_eq_true rfl) rfl d_Ld_init_22 ?_
  refine gj_aload_n X d_Ld_init_25 rfl 0 rfl ?_
  refine gj_aload_n X d_Ld_init_26 rfl 2 rfl ?_
  refine gj_putF (w' := [(t, .inr (3, [.ref a0, .ref a1, .ref q1, .ref q2, .int 0])), (q1, .inl (cI, 8, .inl (fun _ => 0))), (q2, .inl (cI, 8, .inl (fun _ => 0)))]) X inX3 tyX3 tyX3_ok nmX3 0 rfl (ci := 3) rfl 1 (by decide) tw_70 rfl rfl hnm rfl (tyX3_ok 1 (by decide)) rfl rfl (Nat.le_of_ble_eq_true rfl) rfl d_Ld_init_27 ?_
  exact gj_vret (wof := fun u : Nat × Nat => [(t, .inr (3, [.ref a0, .ref a1, .ref (u.1), .ref (u.2), .int 0])), ((u.1), .inl (cI, 8, .inl (fun _ => 0))), ((u.2), .inl (cI, 8, .inl (fun _ => 0)))]) (u := ((q1, q2) : Nat × Nat)) X hr hlk trivial d_Ld_init_30
abbrev rm_Co_init : Room := { frames := 1, cells := 2, slots := 2992, locals := 12 }
set_option maxHeartbeats 4000000 in
set_option maxRecDepth 100000 in
theorem c_Co_init (l : Launch) (dC : Nat → ClassId) (dI : Nat → Nat → Nat) (cI cL : ClassId) (t a0 a1 : Nat) : gj_MV 2 2992 l y_Co_init (gj_ws y_Co_init b_Co_init 3 none) rm_Co_init (dC, dI) gs_C (gs_T cI cL) [(t, .inr (0, [.null, .null, .null, .null, .int 0, .int 0]))] (fun u : Nat × Nat => [(t, .inr (0, [.ref a0, .ref a1, .ref (u.1), .ref (u.2), .int (-1), .int 0])), ((u.1), .inl (cL, 136, .inr (.inl (fun _ => 0)))), ((u.2), .inl (cL, 2856, .inr (.inl (fun _ => 0))))]) [.ref t, .ref a0, .ref a1] (fun _ => True) := by
  refine gj_enterV (by decide) (Nat.le_of_ble_eq_true rfl) (fun p e s m args below meth c A X hr hlk hA hnm => ?_)
  change gj_J p l e rm_Co_init s m args below meth c 0 0 (MQ below (va_Qv (fun _ => True) (gj_at (dC, dI) gs_C (gs_T cI cL) (fun u : Nat × Nat => [(t, .inr (0, [.ref a0, .ref a1, .ref (u.1), .ref (u.2), .int (-1), .int 0])), ((u.1), .inl (cL, 136, .inr (.inl (fun _ => 0)))), ((u.2), .inl (cL, 2856, .inr (.inl (fun _ => 0))))]) A) A) args s 2 2992 A) (dC, dI) gs_C A 3 0 [(0, .ref t), (1, .ref a0), (2, .ref a1)] [] [(t, .inr (0, [.null, .null, .null, .null, .int 0, .int 0]))]
  refine gj_aload_n X d_Co_init_0 rfl 0 rfl ?_
  refine gj_objInit X tw_90 tw_20 tw_21 d_Co_init_1 (Nat.le_of_ble_eq_true rfl) (Nat.le_of_ble_eq_true rfl) ?_
  refine gj_aload_n X d_Co_init_4 rfl 0 rfl ?_
  refine gj_sipush (v := 136) X d_Co_init_5 (by decide) ?_
  refine gj_newaL (atype := .long) (N' := 136) X tw_110 rfl 1 rfl hA (by decide) (by decide) (by decide) (Nat.le_of_ble_eq_true rfl) (Nat.le_of_ble_eq_true rfl) d_Co_init_8 (fun q1 => ?_)
  refine gj_putF (w' := [(t, .inr (0, [.null, .null, .ref q1, .null, .int 0, .int 0])), (q1, .inl (cL, 136, .inr (.inl (fun _ => 0))))]) X inX0 tyX0 tyX0_ok nmX0 0 rfl (ci := 0) rfl 2 (by decide) tw_93 rfl rfl hnm rfl (tyX0_ok 2 (by decide)) rfl rfl (Nat.le_of_ble_eq_true rfl) rfl d_Co_init_10 ?_
  refine gj_aload_n X d_Co_init_13 rfl 0 rfl ?_
  refine gj_sipush (v := 2856) X d_Co_init_14 (by decide) ?_
  refine gj_newaL (atype := .long) (N' := 2856) X tw_110 rfl 1 rfl hA (by decide) (by decide) (by decide) (Nat.le_of_ble_eq_true rfl) (Nat.le_of_ble_eq_true rfl) d_Co_init_17 (fun q2 => ?_)
  refine gj_putF (w' := [(t, .inr (0, [.null, .null, .ref q1, .ref q2, .int 0, .int 0])), (q1, .inl (cL, 136, .inr (.inl (fun _ => 0)))), (q2, .inl (cL, 2856, .inr (.inl (fun _ => 0))))]) X inX0 tyX0 tyX0_ok nmX0 0 rfl (ci := 0) rfl 3 (by decide) tw_94 rfl rfl hnm rfl (tyX0_ok 3 (by decide)) rfl rfl (Nat.le_of_ble_eq_true rfl) rfl d_Co_init_19 ?_
  refine gj_aload_n X d_Co_init_22 rfl 0 rfl ?_
  refine gj_iconst (v := -1) X d_Co_init_23 (by decide) ?_
  refine gj_put (w' := [(t, .inr (0, [.null, .null, .ref q1, .ref q2, .int (-1), .int 0])), (q1, .inl (cL, 136, .inr (.inl (fun _ => 0)))), (q2, .inl (cL, 2856, .inr (.inl (fun _ => 0))))]) X inX0 tyX0 tyX0_ok nmX0 0 rfl (ci := 0) rfl 4 (by decide) tw_95 rfl rfl (tyX0_ok 4 (by decide)) rfl rfl (Nat.le_of_ble_eq_true rfl) rfl d_Co_init_24 ?_
  refine gj_aload_n X d_Co_init_27 rfl 0 rfl ?_
  refine gj_aload_n X d_Co_init_28 rfl 1 rfl ?_
  refine gj_putF (w' := [(t, .inr (0, [.ref a0, .null, .ref q1, .ref q2, .int (-1), .int 0])), (q1, .inl (cL, 136, .inr (.inl (fun _ => 0)))), (q2, .inl (cL, 2856, .inr (.inl (fun _ => 0))))]) X inX0 tyX0 tyX0_ok nmX0 0 rfl (ci := 0) rfl 0 (by decide) tw_91 rfl rfl hnm rfl (tyX0_ok 0 (by decide)) rfl rfl (Nat.le_of_ble_eq_true rfl) rfl d_Co_init_29 ?_
  refine gj_aload_n X d_Co_init_32 rfl 0 rfl ?_
  refine gj_aload_n X d_Co_init_33 rfl 2 rfl ?_
  refine gj_putF (w' := [(t, .inr (0, [.ref a0, .ref a1, .ref q1, .ref q2, .int (-1), .int 0])), (q1, .inl (cL, 136, .inr (.inl (fun _ => 0)))), (q2, .inl (cL, 2856, .inr (.inl (fun _ => 0))))]) X inX0 tyX0 tyX0_ok nmX0 0 rfl (ci := 0) rfl 1 (by decide) tw_92 rfl rfl hnm rfl (tyX0_ok 1 (by decide)) rfl rfl (Nat.le_of_ble_eq_true rfl) rfl d_Co_init_34 ?_
  exact gj_vret (wof := fun u : Nat × Nat => [(t, .inr (0, [.ref a0, .ref a1, .ref (u.1), .ref (u.2), .int (-1), .int 0])), ((u.1), .inl (cL, 136, .inr (.inl (fun _ => 0)))), ((u.2), .inl (cL, 2856, .inr (.inl (fun _ => 0))))]) (u := ((q1, q2) : Nat × Nat)) X hr hlk trivial d_Co_init_37
abbrev rm_Pi_init : Room := { frames := 1, cells := 3, slots := 648, locals := 12 }
set_option maxHeartbeats 4000000 in
set_option maxRecDepth 100000 in
theorem c_Pi_init (l : Launch) (dC : Nat → ClassId) (dI : Nat → Nat → Nat) (cI cL : ClassId) (t : Nat) : gj_MV 3 648 l y_Pi_init (gj_ws y_Pi_init b_Pi_init 1 none) rm_Pi_init (dC, dI) gs_C (gs_T cI cL) [(t, .inr (6, [.null, .null, .null, .int 0]))] (fun u : Nat × Nat × Nat => [(t, .inr (6, [.ref (u.1), .ref (u.2.1), .ref (u.2.2), .int 0])), ((u.1), .inl (cI, 216, .inl (fun _ => 0))), ((u.2.1), .inl (cI, 216, .inl (fun _ => 0))), ((u.2.2), .inl (cL, 216, .inr (.inl (fun _ => 0))))]) [.ref t] (fun _ => True) := by
  refine gj_enterV (by decide) (Nat.le_of_ble_eq_true rfl) (fun p e s m args below meth c A X hr hlk hA hnm => ?_)
  change gj_J p l e rm_Pi_init s m args below meth c 0 0 (MQ below (va_Qv (fun _ => True) (gj_at (dC, dI) gs_C (gs_T cI cL) (fun u : Nat × Nat × Nat => [(t, .inr (6, [.ref (u.1), .ref (u.2.1), .ref (u.2.2), .int 0])), ((u.1), .inl (cI, 216, .inl (fun _ => 0))), ((u.2.1), .inl (cI, 216, .inl (fun _ => 0))), ((u.2.2), .inl (cL, 216, .inr (.inl (fun _ => 0))))]) A) A) args s 3 648 A) (dC, dI) gs_C A 1 0 [(0, .ref t)] [] [(t, .inr (6, [.null, .null, .null, .int 0]))]
  refine gj_aload_n X d_Pi_init_0 rfl 0 rfl ?_
  refine gj_objInit X tw_116 tw_20 tw_21 d_Pi_init_1 (Nat.le_of_ble_eq_true rfl) (Nat.le_of_ble_eq_true rfl) ?_
  refine gj_aload_n X d_Pi_init_4 rfl 0 rfl ?_
  refine gj_sipush (v := 216) X d_Pi_init_5 (by decide) ?_
  refine gj_newaI (atype := .int) (N' := 216) X tw_46 rfl 0 rfl hA (by decide) (by decide) (by decide) (Nat.le_of_ble_eq_true rfl) (Nat.le_of_ble_eq_true rfl) d_Pi_init_8 (fun q1 => ?_)
  refine gj_putF (w' := [(t, .inr (6, [.ref q1, .null, .null, .int 0])), (q1, .inl (cI, 216, .inl (fun _ => 0)))]) X inX6 tyX6 tyX6_ok nmX6 0 rfl (ci := 6) rfl 0 (by decide) tw_117 rfl rfl hnm rfl (tyX6_ok 0 (by decide)) rfl rfl (Nat.le_of_ble_eq_true rfl) rfl d_Pi_init_10 ?_
  refine gj_aload_n X d_Pi_init_13 rfl 0 rfl ?_
  refine gj_sipush (v := 216) X d_Pi_init_14 (by decide) ?_
  refine gj_newaI (atype := .int) (N' := 216) X tw_46 rfl 0 rfl hA (by decide) (by decide) (by decide) (Nat.le_of_ble_eq_true rfl) (Nat.le_of_ble_eq_true rfl) d_Pi_init_17 (fun q2 => ?_)
  refine gj_putF (w' := [(t, .inr (6, [.ref q1, .ref q2, .null, .int 0])), (q1, .inl (cI, 216, .inl (fun _ => 0))), (q2, .inl (cI, 216, .inl (fun _ => 0)))]) X inX6 tyX6 tyX6_ok nmX6 0 rfl (ci := 6) rfl 1 (by decide) tw_120 rfl rfl hnm rfl (tyX6_ok 1 (by decide)) rfl rfl (Nat.le_of_ble_eq_true rfl) rfl d_Pi_init_19 ?_
  refine gj_aload_n X d_Pi_init_22 rfl 0 rfl ?_
  refine gj_sipush (v := 216) X d_Pi_init_23 (by decide) ?_
  refine gj_newaL (atype := .long) (N' := 216) X tw_110 rfl 1 rfl hA (by decide) (by decide) (by decide) (Nat.le_of_ble_eq_true rfl) (Nat.le_of_ble_eq_true rfl) d_Pi_init_26 (fun q3 => ?_)
  refine gj_putF (w' := [(t, .inr (6, [.ref q1, .ref q2, .ref q3, .int 0])), (q1, .inl (cI, 216, .inl (fun _ => 0))), (q2, .inl (cI, 216, .inl (fun _ => 0))), (q3, .inl (cL, 216, .inr (.inl (fun _ => 0))))]) X inX6 tyX6 tyX6_ok nmX6 0 rfl (ci := 6) rfl 2 (by decide) tw_123 rfl rfl hnm rfl (tyX6_ok 2 (by decide)) rfl rfl (Nat.le_of_ble_eq_true rfl) rfl d_Pi_init_28 ?_
  exact gj_vret (wof := fun u : Nat × Nat × Nat => [(t, .inr (6, [.ref (u.1), .ref (u.2.1), .ref (u.2.2), .int 0])), ((u.1), .inl (cI, 216, .inl (fun _ => 0))), ((u.2.1), .inl (cI, 216, .inl (fun _ => 0))), ((u.2.2), .inl (cL, 216, .inr (.inl (fun _ => 0))))]) (u := ((q1, q2, q3) : Nat × Nat × Nat)) X hr hlk trivial d_Pi_init_31
abbrev rm_Dr_init : Room := { frames := 1, cells := 2, slots := 216, locals := 12 }
set_option maxHeartbeats 4000000 in
set_option maxRecDepth 100000 in
theorem c_Dr_init (l : Launch) (dC : Nat → ClassId) (dI : Nat → Nat → Nat) (cI cL : ClassId) (t : Nat) : gj_MV 2 216 l y_Dr_init (gj_ws y_Dr_init b_Dr_init 1 none) rm_Dr_init (dC, dI) gs_C (gs_T cI cL) [(t, .inr (1, [.null, .null, .int 0, .int 0]))] (fun u : Nat × Nat => [(t, .inr (1, [.ref (u.1), .ref (u.2), .int 0, .int 0])), ((u.1), .inl (cI, 200, .inl (fun _ => 0))), ((u.2), .inl (cI, 16, .inl (fun _ => 0)))]) [.ref t] (fun _ => True) := by
  refine gj_enterV (by decide) (Nat.le_of_ble_eq_true rfl) (fun p e s m args below meth c A X hr hlk hA hnm => ?_)
  change gj_J p l e rm_Dr_init s m args below meth c 0 0 (MQ below (va_Qv (fun _ => True) (gj_at (dC, dI) gs_C (gs_T cI cL) (fun u : Nat × Nat => [(t, .inr (1, [.ref (u.1), .ref (u.2), .int 0, .int 0])), ((u.1), .inl (cI, 200, .inl (fun _ => 0))), ((u.2), .inl (cI, 16, .inl (fun _ => 0)))]) A) A) args s 2 216 A) (dC, dI) gs_C A 1 0 [(0, .ref t)] [] [(t, .inr (1, [.null, .null, .int 0, .int 0]))]
  refine gj_aload_n X d_Dr_init_0 rfl 0 rfl ?_
  refine gj_objInit X tw_148 tw_20 tw_21 d_Dr_init_1 (Nat.le_of_ble_eq_true rfl) (Nat.le_of_ble_eq_true rfl) ?_
  refine gj_aload_n X d_Dr_init_4 rfl 0 rfl ?_
  refine gj_sipush (v := 200) X d_Dr_init_5 (by decide) ?_
  refine gj_newaI (atype := .int) (N' := 200) X tw_46 rfl 0 rfl hA (by decide) (by decide) (by decide) (Nat.le_of_ble_eq_true rfl) (Nat.le_of_ble_eq_true rfl) d_Dr_init_8 (fun q1 => ?_)
  refine gj_putF (w' := [(t, .inr (1, [.ref q1, .null, .int 0, .int 0])), (q1, .inl (cI, 200, .inl (fun _ => 0)))]) X inX1 tyX1 tyX1_ok nmX1 0 rfl (ci := 1) rfl 0 (by decide) tw_149 rfl rfl hnm rfl (tyX1_ok 0 (by decide)) rfl rfl (Nat.le_of_ble_eq_true rfl) rfl d_Dr_init_10 ?_
  refine gj_aload_n X d_Dr_init_13 rfl 0 rfl ?_
  refine gj_bipush (v := 16) X d_Dr_init_14 (by decide) ?_
  refine gj_newaI (atype := .int) (N' := 16) X tw_46 rfl 0 rfl hA (by decide) (by decide) (by decide) (Nat.le_of_ble_eq_true rfl) (Nat.le_of_ble_eq_true rfl) d_Dr_init_16 (fun q2 => ?_)
  refine gj_putF (w' := [(t, .inr (1, [.ref q1, .ref q2, .int 0, .int 0])), (q1, .inl (cI, 200, .inl (fun _ => 0))), (q2, .inl (cI, 16, .inl (fun _ => 0)))]) X inX1 tyX1 tyX1_ok nmX1 0 rfl (ci := 1) rfl 1 (by decide) tw_151 rfl rfl hnm rfl (tyX1_ok 1 (by decide)) rfl rfl (Nat.le_of_ble_eq_true rfl) rfl d_Dr_init_18 ?_
  exact gj_vret (wof := fun u : Nat × Nat => [(t, .inr (1, [.ref (u.1), .ref (u.2), .int 0, .int 0])), ((u.1), .inl (cI, 200, .inl (fun _ => 0))), ((u.2), .inl (cI, 16, .inl (fun _ => 0)))]) (u := ((q1, q2) : Nat × Nat)) X hr hlk trivial d_Dr_init_21
abbrev rm_We_init : Room := { frames := 2, cells := 6, slots := 440, locals := 32 }
set_option maxHeartbeats 4000000 in
set_option maxRecDepth 100000 in
theorem c_We_init (l : Launch) (dC : Nat → ClassId) (dI : Nat → Nat → Nat) (cI cL : ClassId) (t a0 a1 a2 : Nat) : gj_MV 6 440 l y_We_init (gj_ws y_We_init b_We_init 4 none) rm_We_init (dC, dI) gs_C (gs_T cI cL) [(t, .inr (7, [.null, .null, .null, .null, .null, .int 0]))] (fun u : Nat × Nat × Nat × Nat × Nat × Nat => [(t, .inr (7, [.ref a0, .ref a1, .ref a2, .ref (u.1), .ref (u.2.2.2.1), .int 0])), ((u.1), .inr (1, [.ref (u.2.1), .ref (u.2.2.1), .int 0, .int 0])), ((u.2.1), .inl (cI, 200, .inl (fun _ => 0))), ((u.2.2.1), .inl (cI, 16, .inl (fun _ => 0))), ((u.2.2.2.1), .inr (1, [.ref (u.2.2.2.2.1), .ref (u.2.2.2.2.2), .int 0, .int 0])), ((u.2.2.2.2.1), .inl (cI, 200, .inl (fun _ => 0))), ((u.2.2.2.2.2), .inl (cI, 16, .inl (fun _ => 0)))]) [.ref t, .ref a0, .ref a1, .ref a2] (fun _ => True) := by
  refine gj_enterV (by decide) (Nat.le_of_ble_eq_true rfl) (fun p e s m args below meth c A X hr hlk hA hnm => ?_)
  change gj_J p l e rm_We_init s m args below meth c 0 0 (MQ below (va_Qv (fun _ => True) (gj_at (dC, dI) gs_C (gs_T cI cL) (fun u : Nat × Nat × Nat × Nat × Nat × Nat => [(t, .inr (7, [.ref a0, .ref a1, .ref a2, .ref (u.1), .ref (u.2.2.2.1), .int 0])), ((u.1), .inr (1, [.ref (u.2.1), .ref (u.2.2.1), .int 0, .int 0])), ((u.2.1), .inl (cI, 200, .inl (fun _ => 0))), ((u.2.2.1), .inl (cI, 16, .inl (fun _ => 0))), ((u.2.2.2.1), .inr (1, [.ref (u.2.2.2.2.1), .ref (u.2.2.2.2.2), .int 0, .int 0])), ((u.2.2.2.2.1), .inl (cI, 200, .inl (fun _ => 0))), ((u.2.2.2.2.2), .inl (cI, 16, .inl (fun _ => 0)))]) A) A) args s 6 440 A) (dC, dI) gs_C A 4 0 [(0, .ref t), (1, .ref a0), (2, .ref a1), (3, .ref a2)] [] [(t, .inr (7, [.null, .null, .null, .null, .null, .int 0]))]
  refine gj_aload_n X d_We_init_0 rfl 0 rfl ?_
  refine gj_objInit X tw_142 tw_20 tw_21 d_We_init_1 (Nat.le_of_ble_eq_true rfl) (Nat.le_of_ble_eq_true rfl) ?_
  refine gj_aload_n X d_We_init_4 rfl 0 rfl ?_
  refine gj_new (fs := [.null, .null, .int 0, .int 0]) X inX1 tyX1 tyX1_ok tw_143 tw_144 tw_8 hA (ci := 1) rfl (by decide) (Nat.le_of_ble_eq_true rfl) (Nat.le_of_ble_eq_true rfl) d_We_init_5 (fun q1 => ?_)
  refine gj_dup X d_We_init_8 rfl ?_
  refine gj_cutINV (As := []) (st := [.ref q1, .ref t]) X (c_Dr_init l dC dI cI cL q1 ) ⟨gj_cwN X tw_147 tw_8 tn_145 hd_Dr_init rfl rfl ⟨Nat.le_of_ble_eq_true rfl, Nat.le_of_ble_eq_true rfl⟩, rfl, X.2.2.2.2.1 _ tw_146⟩ [1] [0] rfl (wr := [(t, .inr (7, [.null, .null, .null, .null, .null, .int 0]))]) rfl (by decide) (by decide) (by decide) hA rfl (Nat.le_of_ble_eq_true rfl) ⟨Nat.le_of_ble_eq_true rfl, Nat.le_of_ble_eq_true rfl⟩ d_We_init_9 rfl (fun u2 _ => ?_)
  refine gj_put (w' := [(t, .inr (7, [.null, .null, .null, .ref q1, .null, .int 0])), (q1, .inr (1, [.ref u2.1, .ref u2.2, .int 0, .int 0])), (u2.1, .inl (cI, 200, .inl (fun _ => 0))), (u2.2, .inl (cI, 16, .inl (fun _ => 0)))]) X inX7 tyX7 tyX7_ok nmX7 0 rfl (ci := 7) rfl 3 (by decide) tw_169 rfl rfl (tyX7_ok 3 (by decide)) rfl rfl (Nat.le_of_ble_eq_true rfl) rfl d_We_init_12 ?_
  refine gj_aload_n X d_We_init_15 rfl 0 rfl ?_
  refine gj_new (fs := [.null, .null, .int 0, .int 0]) X inX1 tyX1 tyX1_ok tw_143 tw_144 tw_8 hA (ci := 1) rfl (by decide) (Nat.le_of_ble_eq_true rfl) (Nat.le_of_ble_eq_true rfl) d_We_init_16 (fun q3 => ?_)
  refine gj_dup X d_We_init_19 rfl ?_
  refine gj_cutINV (As := []) (st := [.ref q3, .ref t]) X (c_Dr_init l dC dI cI cL q3 ) ⟨gj_cwN X tw_147 tw_8 tn_145 hd_Dr_init rfl rfl ⟨Nat.le_of_ble_eq_true rfl, Nat.le_of_ble_eq_true rfl⟩, rfl, X.2.2.2.2.1 _ tw_146⟩ [4] [0, 1, 2, 3] rfl (wr := [(t, .inr (7, [.null, .null, .null, .ref q1, .null, .int 0])), (q1, .inr (1, [.ref u2.1, .ref u2.2, .int 0, .int 0])), (u2.1, .inl (cI, 200, .inl (fun _ => 0))), (u2.2, .inl (cI, 16, .inl (fun _ => 0)))]) rfl (by decide) (by decide) (by decide) hA rfl (Nat.le_of_ble_eq_true rfl) ⟨Nat.le_of_ble_eq_true rfl, Nat.le_of_ble_eq_true rfl⟩ d_We_init_20 rfl (fun u4 _ => ?_)
  refine gj_put (w' := [(t, .inr (7, [.null, .null, .null, .ref q1, .ref q3, .int 0])), (q1, .inr (1, [.ref u2.1, .ref u2.2, .int 0, .int 0])), (u2.1, .inl (cI, 200, .inl (fun _ => 0))), (u2.2, .inl (cI, 16, .inl (fun _ => 0))), (q3, .inr (1, [.ref u4.1, .ref u4.2, .int 0, .int 0])), (u4.1, .inl (cI, 200, .inl (fun _ => 0))), (u4.2, .inl (cI, 16, .inl (fun _ => 0)))]) X inX7 tyX7 tyX7_ok nmX7 0 rfl (ci := 7) rfl 4 (by decide) tw_170 rfl rfl (tyX7_ok 4 (by decide)) rfl rfl (Nat.le_of_ble_eq_true rfl) rfl d_We_init_23 ?_
  refine gj_aload_n X d_We_init_26 rfl 0 rfl ?_
  refine gj_aload_n X d_We_init_27 rfl 1 rfl ?_
  refine gj_putF (w' := [(t, .inr (7, [.ref a0, .null, .null, .ref q1, .ref q3, .int 0])), (q1, .inr (1, [.ref u2.1, .ref u2.2, .int 0, .int 0])), (u2.1, .inl (cI, 200, .inl (fun _ => 0))), (u2.2, .inl (cI, 16, .inl (fun _ => 0))), (q3, .inr (1, [.ref u4.1, .ref u4.2, .int 0, .int 0])), (u4.1, .inl (cI, 200, .inl (fun _ => 0))), (u4.2, .inl (cI, 16, .inl (fun _ => 0)))]) X inX7 tyX7 tyX7_ok nmX7 0 rfl (ci := 7) rfl 0 (by decide) tw_166 rfl rfl hnm rfl (tyX7_ok 0 (by decide)) rfl rfl (Nat.le_of_ble_eq_true rfl) rfl d_We_init_28 ?_
  refine gj_aload_n X d_We_init_31 rfl 0 rfl ?_
  refine gj_aload_n X d_We_init_32 rfl 2 rfl ?_
  refine gj_putF (w' := [(t, .inr (7, [.ref a0, .ref a1, .null, .ref q1, .ref q3, .int 0])), (q1, .inr (1, [.ref u2.1, .ref u2.2, .int 0, .int 0])), (u2.1, .inl (cI, 200, .inl (fun _ => 0))), (u2.2, .inl (cI, 16, .inl (fun _ => 0))), (q3, .inr (1, [.ref u4.1, .ref u4.2, .int 0, .int 0])), (u4.1, .inl (cI, 200, .inl (fun _ => 0))), (u4.2, .inl (cI, 16, .inl (fun _ => 0)))]) X inX7 tyX7 tyX7_ok nmX7 0 rfl (ci := 7) rfl 1 (by decide) tw_167 rfl rfl hnm rfl (tyX7_ok 1 (by decide)) rfl rfl (Nat.le_of_ble_eq_true rfl) rfl d_We_init_33 ?_
  refine gj_aload_n X d_We_init_36 rfl 0 rfl ?_
  refine gj_aload_n X d_We_init_37 rfl 3 rfl ?_
  refine gj_putF (w' := [(t, .inr (7, [.ref a0, .ref a1, .ref a2, .ref q1, .ref q3, .int 0])), (q1, .inr (1, [.ref u2.1, .ref u2.2, .int 0, .int 0])), (u2.1, .inl (cI, 200, .inl (fun _ => 0))), (u2.2, .inl (cI, 16, .inl (fun _ => 0))), (q3, .inr (1, [.ref u4.1, .ref u4.2, .int 0, .int 0])), (u4.1, .inl (cI, 200, .inl (fun _ => 0))), (u4.2, .inl (cI, 16, .inl (fun _ => 0)))]) X inX7 tyX7 tyX7_ok nmX7 0 rfl (ci := 7) rfl 2 (by decide) tw_168 rfl rfl hnm rfl (tyX7_ok 2 (by decide)) rfl rfl (Nat.le_of_ble_eq_true rfl) rfl d_We_init_38 ?_
  exact gj_vret (wof := fun u : Nat × Nat × Nat × Nat × Nat × Nat => [(t, .inr (7, [.ref a0, .ref a1, .ref a2, .ref (u.1), .ref (u.2.2.2.1), .int 0])), ((u.1), .inr (1, [.ref (u.2.1), .ref (u.2.2.1), .int 0, .int 0])), ((u.2.1), .inl (cI, 200, .inl (fun _ => 0))), ((u.2.2.1), .inl (cI, 16, .inl (fun _ => 0))), ((u.2.2.2.1), .inr (1, [.ref (u.2.2.2.2.1), .ref (u.2.2.2.2.2), .int 0, .int 0])), ((u.2.2.2.2.1), .inl (cI, 200, .inl (fun _ => 0))), ((u.2.2.2.2.2), .inl (cI, 16, .inl (fun _ => 0)))]) (u := ((q1, u2.1, u2.2, q3, u4.1, u4.2) : Nat × Nat × Nat × Nat × Nat × Nat)) X hr hlk trivial d_We_init_41
abbrev rm_Li_init : Room := { frames := 1, cells := 1, slots := 200, locals := 12 }
set_option maxHeartbeats 4000000 in
set_option maxRecDepth 100000 in
theorem c_Li_init (l : Launch) (dC : Nat → ClassId) (dI : Nat → Nat → Nat) (cI cL : ClassId) (t a0 a1 a2 : Nat) : gj_MV 1 200 l y_Li_init (gj_ws y_Li_init b_Li_init 4 none) rm_Li_init (dC, dI) gs_C (gs_T cI cL) [(t, .inr (5, [.null, .null, .null, .null, .int 0]))] (fun u : Nat => [(t, .inr (5, [.ref a0, .ref a1, .ref a2, .ref u, .int 0])), (u, .inl (cI, 200, .inl (fun _ => 0)))]) [.ref t, .ref a0, .ref a1, .ref a2] (fun _ => True) := by
  refine gj_enterV (by decide) (Nat.le_of_ble_eq_true rfl) (fun p e s m args below meth c A X hr hlk hA hnm => ?_)
  change gj_J p l e rm_Li_init s m args below meth c 0 0 (MQ below (va_Qv (fun _ => True) (gj_at (dC, dI) gs_C (gs_T cI cL) (fun u : Nat => [(t, .inr (5, [.ref a0, .ref a1, .ref a2, .ref u, .int 0])), (u, .inl (cI, 200, .inl (fun _ => 0)))]) A) A) args s 1 200 A) (dC, dI) gs_C A 4 0 [(0, .ref t), (1, .ref a0), (2, .ref a1), (3, .ref a2)] [] [(t, .inr (5, [.null, .null, .null, .null, .int 0]))]
  refine gj_aload_n X d_Li_init_0 rfl 0 rfl ?_
  refine gj_objInit X tw_190 tw_20 tw_21 d_Li_init_1 (Nat.le_of_ble_eq_true rfl) (Nat.le_of_ble_eq_true rfl) ?_
  refine gj_aload_n X d_Li_init_4 rfl 0 rfl ?_
  refine gj_sipush (v := 200) X d_Li_init_5 (by decide) ?_
  refine gj_newaI (atype := .int) (N' := 200) X tw_46 rfl 0 rfl hA (by decide) (by decide) (by decide) (Nat.le_of_ble_eq_true rfl) (Nat.le_of_ble_eq_true rfl) d_Li_init_8 (fun q1 => ?_)
  refine gj_putF (w' := [(t, .inr (5, [.null, .null, .null, .ref q1, .int 0])), (q1, .inl (cI, 200, .inl (fun _ => 0)))]) X inX5 tyX5 tyX5_ok nmX5 0 rfl (ci := 5) rfl 3 (by decide) tw_194 rfl rfl hnm rfl (tyX5_ok 3 (by decide)) rfl rfl (Nat.le_of_ble_eq_true rfl) rfl d_Li_init_10 ?_
  refine gj_aload_n X d_Li_init_13 rfl 0 rfl ?_
  refine gj_aload_n X d_Li_init_14 rfl 1 rfl ?_
  refine gj_putF (w' := [(t, .inr (5, [.ref a0, .null, .null, .ref q1, .int 0])), (q1, .inl (cI, 200, .inl (fun _ => 0)))]) X inX5 tyX5 tyX5_ok nmX5 0 rfl (ci := 5) rfl 0 (by decide) tw_191 rfl rfl hnm rfl (tyX5_ok 0 (by decide)) rfl rfl (Nat.le_of_ble_eq_true rfl) rfl d_Li_init_15 ?_
  refine gj_aload_n X d_Li_init_18 rfl 0 rfl ?_
  refine gj_aload_n X d_Li_init_19 rfl 2 rfl ?_
  refine gj_putF (w' := [(t, .inr (5, [.ref a0, .ref a1, .null, .ref q1, .int 0])), (q1, .inl (cI, 200, .inl (fun _ => 0)))]) X inX5 tyX5 tyX5_ok nmX5 0 rfl (ci := 5) rfl 1 (by decide) tw_192 rfl rfl hnm rfl (tyX5_ok 1 (by decide)) rfl rfl (Nat.le_of_ble_eq_true rfl) rfl d_Li_init_20 ?_
  refine gj_aload_n X d_Li_init_23 rfl 0 rfl ?_
  refine gj_aload_n X d_Li_init_24 rfl 3 rfl ?_
  refine gj_putF (w' := [(t, .inr (5, [.ref a0, .ref a1, .ref a2, .ref q1, .int 0])), (q1, .inl (cI, 200, .inl (fun _ => 0)))]) X inX5 tyX5 tyX5_ok nmX5 0 rfl (ci := 5) rfl 2 (by decide) tw_193 rfl rfl hnm rfl (tyX5_ok 2 (by decide)) rfl rfl (Nat.le_of_ble_eq_true rfl) rfl d_Li_init_25 ?_
  exact gj_vret (wof := fun u : Nat => [(t, .inr (5, [.ref a0, .ref a1, .ref a2, .ref u, .int 0])), (u, .inl (cI, 200, .inl (fun _ => 0)))]) (u := (q1 : Nat)) X hr hlk trivial d_Li_init_28
abbrev rm_Gl_init : Room := { frames := 3, cells := 30, slots := 7541, locals := 55 }
set_option maxHeartbeats 4000000 in
set_option maxRecDepth 100000 in
theorem c_Gl_init (l : Launch) (dC : Nat → ClassId) (dI : Nat → Nat → Nat) (cI cL : ClassId) (t : Nat) : gj_MV 30 7541 l y_Gl_init (gj_ws y_Gl_init b_Gl_init 2 none) rm_Gl_init (dC, dI) gs_C (gs_T cI cL) [(t, .inr (8, [.null, .int 0, .null, .null, .null, .null, .null, .null, .null, .int 0]))] (fun h : Nat → Nat => wG h cI cL gs_0) [.ref t] (fun _ => True) := by
  refine gj_enterV (by decide) (Nat.le_of_ble_eq_true rfl) (fun p e s m args below meth c A X hr hlk hA hnm => ?_)
  change gj_J p l e rm_Gl_init s m args below meth c 0 0 (MQ below (va_Qv (fun _ => True) (gj_at (dC, dI) gs_C (gs_T cI cL) (fun h : Nat → Nat => wG h cI cL gs_0) A) A) args s 30 7541 A) (dC, dI) gs_C A 2 0 [(0, .ref t)] [] [(t, .inr (8, [.null, .int 0, .null, .null, .null, .null, .null, .null, .null, .int 0]))]
  refine gj_aload_n X d_Gl_init_0 rfl 0 rfl ?_
  refine gj_objInit X tw_19 tw_20 tw_21 d_Gl_init_1 (Nat.le_of_ble_eq_true rfl) (Nat.le_of_ble_eq_true rfl) ?_
  refine gj_aload_n X d_Gl_init_4 rfl 0 rfl ?_
  refine gj_bipush (v := 6) X d_Gl_init_5 (by decide) ?_
  refine gj_newaI (atype := .int) (N' := 6) X tw_46 rfl 0 rfl hA (by decide) (by decide) (by decide) (Nat.le_of_ble_eq_true rfl) (Nat.le_of_ble_eq_true rfl) d_Gl_init_7 (fun q1 => ?_)
  refine gj_putF (w' := [(t, .inr (8, [.ref q1, .int 0, .null, .null, .null, .null, .null, .null, .null, .int 0])), (q1, .inl (cI, 6, .inl (fun _ => 0)))]) X inX8 tyX8 tyX8_ok nmX8 0 rfl (ci := 8) rfl 0 (by decide) tw_208 rfl rfl hnm rfl (tyX8_ok 0 (by decide)) rfl rfl (Nat.le_of_ble_eq_true rfl) rfl d_Gl_init_9 ?_
  refine gj_aload_n X d_Gl_init_12 rfl 0 rfl ?_
  refine gj_new (fs := [.null, .null, .null, .int 0]) X inX2 tyX2 tyX2_ok tw_22 tw_23 tw_2 hA (ci := 2) rfl (by decide) (Nat.le_of_ble_eq_true rfl) (Nat.le_of_ble_eq_true rfl) d_Gl_init_13 (fun q2 => ?_)
  refine gj_dup X d_Gl_init_16 rfl ?_
  refine gj_cutINV (As := []) (st := [.ref q2, .ref t]) X (c_Gr_init l dC dI cI cL q2 ) ⟨gj_cwN X tw_26 tw_2 tn_24 hd_Gr_init rfl rfl ⟨Nat.le_of_ble_eq_true rfl, Nat.le_of_ble_eq_true rfl⟩, rfl, X.2.2.2.2.1 _ tw_25⟩ [2] [0, 1] rfl (wr := [(t, .inr (8, [.ref q1, .int 0, .null, .null, .null, .null, .null, .null, .null, .int 0])), (q1, .inl (cI, 6, .inl (fun _ => 0)))]) rfl (by decide) (by decide) (by decide) hA rfl (Nat.le_of_ble_eq_true rfl) ⟨Nat.le_of_ble_eq_true rfl, Nat.le_of_ble_eq_true rfl⟩ d_Gl_init_17 rfl (fun u3 _ => ?_)
  refine gj_putF (w' := [(t, .inr (8, [.ref q1, .int 0, .ref q2, .null, .null, .null, .null, .null, .null, .int 0])), (q1, .inl (cI, 6, .inl (fun _ => 0))), (q2, .inr (2, [.ref u3.1, .ref u3.2.1, .ref u3.2.2, .int 0])), (u3.1, .inl (cI, 24, .inl (fun _ => 0))), (u3.2.1, .inl (cI, 24, .inl (fun _ => 0))), (u3.2.2, .inl (cI, 144, .inl (fun _ => 0)))]) X inX8 tyX8 tyX8_ok nmX8 0 rfl (ci := 8) rfl 2 (by decide) tw_210 rfl rfl hnm rfl (tyX8_ok 2 (by decide)) rfl rfl (Nat.le_of_ble_eq_true rfl) rfl d_Gl_init_20 ?_
  refine gj_aload_n X d_Gl_init_23 rfl 0 rfl ?_
  refine gj_new (fs := [.null, .null, .null]) X inX4 tyX4 tyX4_ok tw_47 tw_48 tw_3 hA (ci := 4) rfl (by decide) (Nat.le_of_ble_eq_true rfl) (Nat.le_of_ble_eq_true rfl) d_Gl_init_24 (fun q4 => ?_)
  refine gj_dup X d_Gl_init_27 rfl ?_
  refine gj_aload_n X d_Gl_init_28 rfl 0 rfl ?_
  refine gj_get X inX8 0 rfl (ci := 8) rfl 2 (by decide) tw_210 rfl rfl d_Gl_init_29 ?_
  refine gj_cutIV (As := [.ref q2]) (st := [.ref q4, .ref t]) X (c_Le_init l dC dI cI cL q4 q2) ⟨gj_cwB X tw_51 tw_3 tw_49 hd_Le_init rfl rfl ⟨Nat.le_of_ble_eq_true rfl, Nat.le_of_ble_eq_true rfl⟩, rfl, X.2.2.2.2.1 _ tw_50⟩ [6] [0, 1, 2, 3, 4, 5] rfl (wr := [(t, .inr (8, [.ref q1, .int 0, .ref q2, .null, .null, .null, .null, .null, .null, .int 0])), (q1, .inl (cI, 6, .inl (fun _ => 0))), (q2, .inr (2, [.ref u3.1, .ref u3.2.1, .ref u3.2.2, .int 0])), (u3.1, .inl (cI, 24, .inl (fun _ => 0))), (u3.2.1, .inl (cI, 24, .inl (fun _ => 0))), (u3.2.2, .inl (cI, 144, .inl (fun _ => 0)))]) rfl (by decide) (by decide) (by decide) hA rfl (Nat.le_of_ble_eq_true rfl) ⟨Nat.le_of_ble_eq_true rfl, Nat.le_of_ble_eq_true rfl⟩ d_Gl_init_32 rfl (fun u5 _ => ?_)
  refine gj_putF (w' := [(t, .inr (8, [.ref q1, .int 0, .ref q2, .ref q4, .null, .null, .null, .null, .null, .int 0])), (q1, .inl (cI, 6, .inl (fun _ => 0))), (q2, .inr (2, [.ref u3.1, .ref u3.2.1, .ref u3.2.2, .int 0])), (u3.1, .inl (cI, 24, .inl (fun _ => 0))), (u3.2.1, .inl (cI, 24, .inl (fun _ => 0))), (u3.2.2, .inl (cI, 144, .inl (fun _ => 0))), (q4, .inr (4, [.ref q2, .ref u5.1, .ref u5.2])), (u5.1, .inl (cI, 8, .inl (fun _ => 0))), (u5.2, .inl (cI, 8, .inl (fun _ => 0)))]) X inX8 tyX8 tyX8_ok nmX8 0 rfl (ci := 8) rfl 3 (by decide) tw_211 rfl rfl hnm rfl (tyX8_ok 3 (by decide)) rfl rfl (Nat.le_of_ble_eq_true rfl) rfl d_Gl_init_35 ?_
  refine gj_aload_n X d_Gl_init_38 rfl 0 rfl ?_
  refine gj_new (fs := [.null, .null, .null, .null, .int 0]) X inX3 tyX3 tyX3_ok tw_63 tw_64 tw_4 hA (ci := 3) rfl (by decide) (Nat.le_of_ble_eq_true rfl) (Nat.le_of_ble_eq_true rfl) d_Gl_init_39 (fun q6 => ?_)
  refine gj_dup X d_Gl_init_42 rfl ?_
  refine gj_aload_n X d_Gl_init_43 rfl 0 rfl ?_
  refine gj_get X inX8 0 rfl (ci := 8) rfl 2 (by decide) tw_210 rfl rfl d_Gl_init_44 ?_
  refine gj_aload_n X d_Gl_init_47 rfl 0 rfl ?_
  refine gj_get X inX8 0 rfl (ci := 8) rfl 3 (by decide) tw_211 rfl rfl d_Gl_init_48 ?_
  refine gj_cutIV (As := [.ref q2, .ref q4]) (st := [.ref q6, .ref t]) X (c_Ld_init l dC dI cI cL q6 q2 q4) ⟨gj_cwB X tw_67 tw_4 tw_65 hd_Ld_init rfl rfl ⟨Nat.le_of_ble_eq_true rfl, Nat.le_of_ble_eq_true rfl⟩, rfl, X.2.2.2.2.1 _ tw_66⟩ [9] [0, 1, 2, 3, 4, 5, 6, 7, 8] rfl (wr := [(t, .inr (8, [.ref q1, .int 0, .ref q2, .ref q4, .null, .null, .null, .null, .null, .int 0])), (q1, .inl (cI, 6, .inl (fun _ => 0))), (q2, .inr (2, [.ref u3.1, .ref u3.2.1, .ref u3.2.2, .int 0])), (u3.1, .inl (cI, 24, .inl (fun _ => 0))), (u3.2.1, .inl (cI, 24, .inl (fun _ => 0))), (u3.2.2, .inl (cI, 144, .inl (fun _ => 0))), (q4, .inr (4, [.ref q2, .ref u5.1, .ref u5.2])), (u5.1, .inl (cI, 8, .inl (fun _ => 0))), (u5.2, .inl (cI, 8, .inl (fun _ => 0)))]) rfl (by decide) (by decide) (by decide) hA rfl (Nat.le_of_ble_eq_true rfl) ⟨Nat.le_of_ble_eq_true rfl, Nat.le_of_ble_eq_true rfl⟩ d_Gl_init_51 rfl (fun u7 _ => ?_)
  refine gj_putF (w' := [(t, .inr (8, [.ref q1, .int 0, .ref q2, .ref q4, .ref q6, .null, .null, .null, .null, .int 0])), (q1, .inl (cI, 6, .inl (fun _ => 0))), (q2, .inr (2, [.ref u3.1, .ref u3.2.1, .ref u3.2.2, .int 0])), (u3.1, .inl (cI, 24, .inl (fun _ => 0))), (u3.2.1, .inl (cI, 24, .inl (fun _ => 0))), (u3.2.2, .inl (cI, 144, .inl (fun _ => 0))), (q4, .inr (4, [.ref q2, .ref u5.1, .ref u5.2])), (u5.1, .inl (cI, 8, .inl (fun _ => 0))), (u5.2, .inl (cI, 8, .inl (fun _ => 0))), (q6, .inr (3, [.ref q2, .ref q4, .ref u7.1, .ref u7.2, .int 0])), (u7.1, .inl (cI, 8, .inl (fun _ => 0))), (u7.2, .inl (cI, 8, .inl (fun _ => 0)))]) X inX8 tyX8 tyX8_ok nmX8 0 rfl (ci := 8) rfl 4 (by decide) tw_212 rfl rfl hnm rfl (tyX8_ok 4 (by decide)) rfl rfl (Nat.le_of_ble_eq_true rfl) rfl d_Gl_init_54 ?_
  refine gj_aload_n X d_Gl_init_57 rfl 0 rfl ?_
  refine gj_new (fs := [.null, .null, .null, .null, .int 0, .int 0]) X inX0 tyX0 tyX0_ok tw_85 tw_86 tw_5 hA (ci := 0) rfl (by decide) (Nat.le_of_ble_eq_true rfl) (Nat.le_of_ble_eq_true rfl) d_Gl_init_58 (fun q8 => ?_)
  refine gj_dup X d_Gl_init_61 rfl ?_
  refine gj_aload_n X d_Gl_init_62 rfl 0 rfl ?_
  refine gj_get X inX8 0 rfl (ci := 8) rfl 2 (by decide) tw_210 rfl rfl d_Gl_init_63 ?_
  refine gj_aload_n X d_Gl_init_66 rfl 0 rfl ?_
  refine gj_get X inX8 0 rfl (ci := 8) rfl 4 (by decide) tw_212 rfl rfl d_Gl_init_67 ?_
  refine gj_cutIV (As := [.ref q2, .ref q6]) (st := [.ref q8, .ref t]) X (c_Co_init l dC dI cI cL q8 q2 q6) ⟨gj_cwB X tw_89 tw_5 tw_87 hd_Co_init rfl rfl ⟨Nat.le_of_ble_eq_true rfl, Nat.le_of_ble_eq_true rfl⟩, rfl, X.2.2.2.2.1 _ tw_88⟩ [12] [0, 1, 2, 3, 4, 5, 6, 7, 8, 9, 10, 11] rfl (wr := [(t, .inr (8, [.ref q1, .int 0, .ref q2, .ref q4, .ref q6, .null, .null, .null, .null, .int 0])), (q1, .inl (cI, 6, .inl (fun _ => 0))), (q2, .inr (2, [.ref u3.1, .ref u3.2.1, .ref u3.2.2, .int 0])), (u3.1, .inl (cI, 24, .inl (fun _ => 0))), (u3.2.1, .inl (cI, 24, .inl (fun _ => 0))), (u3.2.2, .inl (cI, 144, .inl (fun _ => 0))), (q4, .inr (4, [.ref q2, .ref u5.1, .ref u5.2])), (u5.1, .inl (cI, 8, .inl (fun _ => 0))), (u5.2, .inl (cI, 8, .inl (fun _ => 0))), (q6, .inr (3, [.ref q2, .ref q4, .ref u7.1, .ref u7.2, .int 0])), (u7.1, .inl (cI, 8, .inl (fun _ => 0))), (u7.2, .inl (cI, 8, .inl (fun _ => 0)))]) rfl (by decide) (by decide) (by decide) hA rfl (Nat.le_of_ble_eq_true rfl) ⟨Nat.le_of_ble_eq_true rfl, Nat.le_of_ble_eq_true rfl⟩ d_Gl_init_70 rfl (fun u9 _ => ?_)
  refine gj_putF (w' := [(t, .inr (8, [.ref q1, .int 0, .ref q2, .ref q4, .ref q6, .ref q8, .null, .null, .null, .int 0])), (q1, .inl (cI, 6, .inl (fun _ => 0))), (q2, .inr (2, [.ref u3.1, .ref u3.2.1, .ref u3.2.2, .int 0])), (u3.1, .inl (cI, 24, .inl (fun _ => 0))), (u3.2.1, .inl (cI, 24, .inl (fun _ => 0))), (u3.2.2, .inl (cI, 144, .inl (fun _ => 0))), (q4, .inr (4, [.ref q2, .ref u5.1, .ref u5.2])), (u5.1, .inl (cI, 8, .inl (fun _ => 0))), (u5.2, .inl (cI, 8, .inl (fun _ => 0))), (q6, .inr (3, [.ref q2, .ref q4, .ref u7.1, .ref u7.2, .int 0])), (u7.1, .inl (cI, 8, .inl (fun _ => 0))), (u7.2, .inl (cI, 8, .inl (fun _ => 0))), (q8, .inr (0, [.ref q2, .ref q6, .ref u9.1, .ref u9.2, .int (-1), .int 0])), (u9.1, .inl (cL, 136, .inr (.inl (fun _ => 0)))), (u9.2, .inl (cL, 2856, .inr (.inl (fun _ => 0))))]) X inX8 tyX8 tyX8_ok nmX8 0 rfl (ci := 8) rfl 5 (by decide) tw_213 rfl rfl hnm rfl (tyX8_ok 5 (by decide)) rfl rfl (Nat.le_of_ble_eq_true rfl) rfl d_Gl_init_73 ?_
  refine gj_aload_n X d_Gl_init_76 rfl 0 rfl ?_
  refine gj_new (fs := [.null, .null, .null, .null, .int 0, .int 0]) X inX0 tyX0 tyX0_ok tw_85 tw_86 tw_5 hA (ci := 0) rfl (by decide) (Nat.le_of_ble_eq_true rfl) (Nat.le_of_ble_eq_true rfl) d_Gl_init_77 (fun q10 => ?_)
  refine gj_dup X d_Gl_init_80 rfl ?_
  refine gj_aload_n X d_Gl_init_81 rfl 0 rfl ?_
  refine gj_get X inX8 0 rfl (ci := 8) rfl 2 (by decide) tw_210 rfl rfl d_Gl_init_82 ?_
  refine gj_aload_n X d_Gl_init_85 rfl 0 rfl ?_
  refine gj_get X inX8 0 rfl (ci := 8) rfl 4 (by decide) tw_212 rfl rfl d_Gl_init_86 ?_
  refine gj_cutIV (As := [.ref q2, .ref q6]) (st := [.ref q10, .ref t]) X (c_Co_init l dC dI cI cL q10 q2 q6) ⟨gj_cwB X tw_89 tw_5 tw_87 hd_Co_init rfl rfl ⟨Nat.le_of_ble_eq_true rfl, Nat.le_of_ble_eq_true rfl⟩, rfl, X.2.2.2.2.1 _ tw_88⟩ [15] [0, 1, 2, 3, 4, 5, 6, 7, 8, 9, 10, 11, 12, 13, 14] rfl (wr := [(t, .inr (8, [.ref q1, .int 0, .ref q2, .ref q4, .ref q6, .ref q8, .null, .null, .null, .int 0])), (q1, .inl (cI, 6, .inl (fun _ => 0))), (q2, .inr (2, [.ref u3.1, .ref u3.2.1, .ref u3.2.2, .int 0])), (u3.1, .inl (cI, 24, .inl (fun _ => 0))), (u3.2.1, .inl (cI, 24, .inl (fun _ => 0))), (u3.2.2, .inl (cI, 144, .inl (fun _ => 0))), (q4, .inr (4, [.ref q2, .ref u5.1, .ref u5.2])), (u5.1, .inl (cI, 8, .inl (fun _ => 0))), (u5.2, .inl (cI, 8, .inl (fun _ => 0))), (q6, .inr (3, [.ref q2, .ref q4, .ref u7.1, .ref u7.2, .int 0])), (u7.1, .inl (cI, 8, .inl (fun _ => 0))), (u7.2, .inl (cI, 8, .inl (fun _ => 0))), (q8, .inr (0, [.ref q2, .ref q6, .ref u9.1, .ref u9.2, .int (-1), .int 0])), (u9.1, .inl (cL, 136, .inr (.inl (fun _ => 0)))), (u9.2, .inl (cL, 2856, .inr (.inl (fun _ => 0))))]) rfl (by decide) (by decide) (by decide) hA rfl (Nat.le_of_ble_eq_true rfl) ⟨Nat.le_of_ble_eq_true rfl, Nat.le_of_ble_eq_true rfl⟩ d_Gl_init_89 rfl (fun u11 _ => ?_)
  refine gj_putF (w' := [(t, .inr (8, [.ref q1, .int 0, .ref q2, .ref q4, .ref q6, .ref q8, .ref q10, .null, .null, .int 0])), (q1, .inl (cI, 6, .inl (fun _ => 0))), (q2, .inr (2, [.ref u3.1, .ref u3.2.1, .ref u3.2.2, .int 0])), (u3.1, .inl (cI, 24, .inl (fun _ => 0))), (u3.2.1, .inl (cI, 24, .inl (fun _ => 0))), (u3.2.2, .inl (cI, 144, .inl (fun _ => 0))), (q4, .inr (4, [.ref q2, .ref u5.1, .ref u5.2])), (u5.1, .inl (cI, 8, .inl (fun _ => 0))), (u5.2, .inl (cI, 8, .inl (fun _ => 0))), (q6, .inr (3, [.ref q2, .ref q4, .ref u7.1, .ref u7.2, .int 0])), (u7.1, .inl (cI, 8, .inl (fun _ => 0))), (u7.2, .inl (cI, 8, .inl (fun _ => 0))), (q8, .inr (0, [.ref q2, .ref q6, .ref u9.1, .ref u9.2, .int (-1), .int 0])), (u9.1, .inl (cL, 136, .inr (.inl (fun _ => 0)))), (u9.2, .inl (cL, 2856, .inr (.inl (fun _ => 0)))), (q10, .inr (0, [.ref q2, .ref q6, .ref u11.1, .ref u11.2, .int (-1), .int 0])), (u11.1, .inl (cL, 136, .inr (.inl (fun _ => 0)))), (u11.2, .inl (cL, 2856, .inr (.inl (fun _ => 0))))]) X inX8 tyX8 tyX8_ok nmX8 0 rfl (ci := 8) rfl 6 (by decide) tw_214 rfl rfl hnm rfl (tyX8_ok 6 (by decide)) rfl rfl (Nat.le_of_ble_eq_true rfl) rfl d_Gl_init_92 ?_
  refine gj_new (fs := [.null, .null, .null, .int 0]) X inX6 tyX6 tyX6_ok tw_111 tw_112 tw_6 hA (ci := 6) rfl (by decide) (Nat.le_of_ble_eq_true rfl) (Nat.le_of_ble_eq_true rfl) d_Gl_init_95 (fun q12 => ?_)
  refine gj_dup X d_Gl_init_98 rfl ?_
  refine gj_cutINV (As := []) (st := [.ref q12]) X (c_Pi_init l dC dI cI cL q12 ) ⟨gj_cwN X tw_115 tw_6 tn_113 hd_Pi_init rfl rfl ⟨Nat.le_of_ble_eq_true rfl, Nat.le_of_ble_eq_true rfl⟩, rfl, X.2.2.2.2.1 _ tw_114⟩ [18] [0, 1, 2, 3, 4, 5, 6, 7, 8, 9, 10, 11, 12, 13, 14, 15, 16, 17] rfl (wr := [(t, .inr (8, [.ref q1, .int 0, .ref q2, .ref q4, .ref q6, .ref q8, .ref q10, .null, .null, .int 0])), (q1, .inl (cI, 6, .inl (fun _ => 0))), (q2, .inr (2, [.ref u3.1, .ref u3.2.1, .ref u3.2.2, .int 0])), (u3.1, .inl (cI, 24, .inl (fun _ => 0))), (u3.2.1, .inl (cI, 24, .inl (fun _ => 0))), (u3.2.2, .inl (cI, 144, .inl (fun _ => 0))), (q4, .inr (4, [.ref q2, .ref u5.1, .ref u5.2])), (u5.1, .inl (cI, 8, .inl (fun _ => 0))), (u5.2, .inl (cI, 8, .inl (fun _ => 0))), (q6, .inr (3, [.ref q2, .ref q4, .ref u7.1, .ref u7.2, .int 0])), (u7.1, .inl (cI, 8, .inl (fun _ => 0))), (u7.2, .inl (cI, 8, .inl (fun _ => 0))), (q8, .inr (0, [.ref q2, .ref q6, .ref u9.1, .ref u9.2, .int (-1), .int 0])), (u9.1, .inl (cL, 136, .inr (.inl (fun _ => 0)))), (u9.2, .inl (cL, 2856, .inr (.inl (fun _ => 0)))), (q10, .inr (0, [.ref q2, .ref q6, .ref u11.1, .ref u11.2, .int (-1), .int 0])), (u11.1, .inl (cL, 136, .inr (.inl (fun _ => 0)))), (u11.2, .inl (cL, 2856, .inr (.inl (fun _ => 0))))]) rfl (by decide) (by decide) (by decide) hA rfl (Nat.le_of_ble_eq_true rfl) ⟨Nat.le_of_ble_eq_true rfl, Nat.le_of_ble_eq_true rfl⟩ d_Gl_init_99 rfl (fun u13 _ => ?_)
  refine gj_astore_n (L' := [(1, .ref q12), (0, .ref t)]) X d_Gl_init_102 rfl (by decide) rfl ?_
  refine gj_aload_n X d_Gl_init_103 rfl 1 rfl ?_
  refine gj_new (fs := [.null, .null, .null, .null, .null, .int 0]) X inX7 tyX7 tyX7_ok tw_137 tw_138 tw_7 hA (ci := 7) rfl (by decide) (Nat.le_of_ble_eq_true rfl) (Nat.le_of_ble_eq_true rfl) d_Gl_init_104 (fun q14 => ?_)
  refine gj_dup X d_Gl_init_107 rfl ?_
  refine gj_aload_n X d_Gl_init_108 rfl 1 rfl ?_
  refine gj_get X inX8 0 rfl (ci := 8) rfl 2 (by decide) tw_210 rfl rfl d_Gl_init_109 ?_
  refine gj_aload_n X d_Gl_init_112 rfl 1 rfl ?_
  refine gj_get X inX8 0 rfl (ci := 8) rfl 5 (by decide) tw_213 rfl rfl d_Gl_init_113 ?_
  refine gj_aload_n X d_Gl_init_116 rfl 0 rfl ?_
  refine gj_cutIV (As := [.ref q2, .ref q8, .ref q12]) (st := [.ref q14, .ref t]) X (c_We_init l dC dI cI cL q14 q2 q8 q12) ⟨gj_cwB X tw_141 tw_7 tw_139 hd_We_init rfl rfl ⟨Nat.le_of_ble_eq_true rfl, Nat.le_of_ble_eq_true rfl⟩, rfl, X.2.2.2.2.1 _ tw_140⟩ [22] [0, 1, 2, 3, 4, 5, 6, 7, 8, 9, 10, 11, 12, 13, 14, 15, 16, 17, 18, 19, 20, 21] rfl (wr := [(t, .inr (8, [.ref q1, .int 0, .ref q2, .ref q4, .ref q6, .ref q8, .ref q10, .null, .null, .int 0])), (q1, .inl (cI, 6, .inl (fun _ => 0))), (q2, .inr (2, [.ref u3.1, .ref u3.2.1, .ref u3.2.2, .int 0])), (u3.1, .inl (cI, 24, .inl (fun _ => 0))), (u3.2.1, .inl (cI, 24, .inl (fun _ => 0))), (u3.2.2, .inl (cI, 144, .inl (fun _ => 0))), (q4, .inr (4, [.ref q2, .ref u5.1, .ref u5.2])), (u5.1, .inl (cI, 8, .inl (fun _ => 0))), (u5.2, .inl (cI, 8, .inl (fun _ => 0))), (q6, .inr (3, [.ref q2, .ref q4, .ref u7.1, .ref u7.2, .int 0])), (u7.1, .inl (cI, 8, .inl (fun _ => 0))), (u7.2, .inl (cI, 8, .inl (fun _ => 0))), (q8, .inr (0, [.ref q2, .ref q6, .ref u9.1, .ref u9.2, .int (-1), .int 0])), (u9.1, .inl (cL, 136, .inr (.inl (fun _ => 0)))), (u9.2, .inl (cL, 2856, .inr (.inl (fun _ => 0)))), (q10, .inr (0, [.ref q2, .ref q6, .ref u11.1, .ref u11.2, .int (-1), .int 0])), (u11.1, .inl (cL, 136, .inr (.inl (fun _ => 0)))), (u11.2, .inl (cL, 2856, .inr (.inl (fun _ => 0)))), (q12, .inr (6, [.ref u13.1, .ref u13.2.1, .ref u13.2.2, .int 0])), (u13.1, .inl (cI, 216, .inl (fun _ => 0))), (u13.2.1, .inl (cI, 216, .inl (fun _ => 0))), (u13.2.2, .inl (cL, 216, .inr (.inl (fun _ => 0))))]) rfl (by decide) (by decide) (by decide) hA rfl (Nat.le_of_ble_eq_true rfl) ⟨Nat.le_of_ble_eq_true rfl, Nat.le_of_ble_eq_true rfl⟩ d_Gl_init_117 rfl (fun u15 _ => ?_)
  refine gj_putF (w' := [(t, .inr (8, [.ref q1, .int 0, .ref q2, .ref q4, .ref q6, .ref q8, .ref q10, .ref q14, .null, .int 0])), (q1, .inl (cI, 6, .inl (fun _ => 0))), (q2, .inr (2, [.ref u3.1, .ref u3.2.1, .ref u3.2.2, .int 0])), (u3.1, .inl (cI, 24, .inl (fun _ => 0))), (u3.2.1, .inl (cI, 24, .inl (fun _ => 0))), (u3.2.2, .inl (cI, 144, .inl (fun _ => 0))), (q4, .inr (4, [.ref q2, .ref u5.1, .ref u5.2])), (u5.1, .inl (cI, 8, .inl (fun _ => 0))), (u5.2, .inl (cI, 8, .inl (fun _ => 0))), (q6, .inr (3, [.ref q2, .ref q4, .ref u7.1, .ref u7.2, .int 0])), (u7.1, .inl (cI, 8, .inl (fun _ => 0))), (u7.2, .inl (cI, 8, .inl (fun _ => 0))), (q8, .inr (0, [.ref q2, .ref q6, .ref u9.1, .ref u9.2, .int (-1), .int 0])), (u9.1, .inl (cL, 136, .inr (.inl (fun _ => 0)))), (u9.2, .inl (cL, 2856, .inr (.inl (fun _ => 0)))), (q10, .inr (0, [.ref q2, .ref q6, .ref u11.1, .ref u11.2, .int (-1), .int 0])), (u11.1, .inl (cL, 136, .inr (.inl (fun _ => 0)))), (u11.2, .inl (cL, 2856, .inr (.inl (fun _ => 0)))), (q12, .inr (6, [.ref u13.1, .ref u13.2.1, .ref u13.2.2, .int 0])), (u13.1, .inl (cI, 216, .inl (fun _ => 0))), (u13.2.1, .inl (cI, 216, .inl (fun _ => 0))), (u13.2.2, .inl (cL, 216, .inr (.inl (fun _ => 0)))), (q14, .inr (7, [.ref q2, .ref q8, .ref q12, .ref u15.1, .ref u15.2.2.2.1, .int 0])), (u15.1, .inr (1, [.ref u15.2.1, .ref u15.2.2.1, .int 0, .int 0])), (u15.2.1, .inl (cI, 200, .inl (fun _ => 0))), (u15.2.2.1, .inl (cI, 16, .inl (fun _ => 0))), (u15.2.2.2.1, .inr (1, [.ref u15.2.2.2.2.1, .ref u15.2.2.2.2.2, .int 0, .int 0])), (u15.2.2.2.2.1, .inl (cI, 200, .inl (fun _ => 0))), (u15.2.2.2.2.2, .inl (cI, 16, .inl (fun _ => 0)))]) X inX8 tyX8 tyX8_ok nmX8 0 rfl (ci := 8) rfl 7 (by decide) tw_215 rfl rfl hnm rfl (tyX8_ok 7 (by decide)) rfl rfl (Nat.le_of_ble_eq_true rfl) rfl d_Gl_init_120 ?_
  refine gj_aload_n X d_Gl_init_123 rfl 1 rfl ?_
  refine gj_new (fs := [.null, .null, .null, .null, .int 0]) X inX5 tyX5 tyX5_ok tw_185 tw_186 tw_9 hA (ci := 5) rfl (by decide) (Nat.le_of_ble_eq_true rfl) (Nat.le_of_ble_eq_true rfl) d_Gl_init_124 (fun q16 => ?_)
  refine gj_dup X d_Gl_init_127 rfl ?_
  refine gj_aload_n X d_Gl_init_128 rfl 1 rfl ?_
  refine gj_get X inX8 0 rfl (ci := 8) rfl 2 (by decide) tw_210 rfl rfl d_Gl_init_129 ?_
  refine gj_aload_n X d_Gl_init_132 rfl 1 rfl ?_
  refine gj_get X inX8 0 rfl (ci := 8) rfl 5 (by decide) tw_213 rfl rfl d_Gl_init_133 ?_
  refine gj_aload_n X d_Gl_init_136 rfl 0 rfl ?_
  refine gj_cutIV (As := [.ref q2, .ref q8, .ref q12]) (st := [.ref q16, .ref t]) X (c_Li_init l dC dI cI cL q16 q2 q8 q12) ⟨gj_cwB X tw_189 tw_9 tw_187 hd_Li_init rfl rfl ⟨Nat.le_of_ble_eq_true rfl, Nat.le_of_ble_eq_true rfl⟩, rfl, X.2.2.2.2.1 _ tw_188⟩ [29] [0, 1, 2, 3, 4, 5, 6, 7, 8, 9, 10, 11, 12, 13, 14, 15, 16, 17, 18, 19, 20, 21, 22, 23, 24, 25, 26, 27, 28] rfl (wr := [(t, .inr (8, [.ref q1, .int 0, .ref q2, .ref q4, .ref q6, .ref q8, .ref q10, .ref q14, .null, .int 0])), (q1, .inl (cI, 6, .inl (fun _ => 0))), (q2, .inr (2, [.ref u3.1, .ref u3.2.1, .ref u3.2.2, .int 0])), (u3.1, .inl (cI, 24, .inl (fun _ => 0))), (u3.2.1, .inl (cI, 24, .inl (fun _ => 0))), (u3.2.2, .inl (cI, 144, .inl (fun _ => 0))), (q4, .inr (4, [.ref q2, .ref u5.1, .ref u5.2])), (u5.1, .inl (cI, 8, .inl (fun _ => 0))), (u5.2, .inl (cI, 8, .inl (fun _ => 0))), (q6, .inr (3, [.ref q2, .ref q4, .ref u7.1, .ref u7.2, .int 0])), (u7.1, .inl (cI, 8, .inl (fun _ => 0))), (u7.2, .inl (cI, 8, .inl (fun _ => 0))), (q8, .inr (0, [.ref q2, .ref q6, .ref u9.1, .ref u9.2, .int (-1), .int 0])), (u9.1, .inl (cL, 136, .inr (.inl (fun _ => 0)))), (u9.2, .inl (cL, 2856, .inr (.inl (fun _ => 0)))), (q10, .inr (0, [.ref q2, .ref q6, .ref u11.1, .ref u11.2, .int (-1), .int 0])), (u11.1, .inl (cL, 136, .inr (.inl (fun _ => 0)))), (u11.2, .inl (cL, 2856, .inr (.inl (fun _ => 0)))), (q12, .inr (6, [.ref u13.1, .ref u13.2.1, .ref u13.2.2, .int 0])), (u13.1, .inl (cI, 216, .inl (fun _ => 0))), (u13.2.1, .inl (cI, 216, .inl (fun _ => 0))), (u13.2.2, .inl (cL, 216, .inr (.inl (fun _ => 0)))), (q14, .inr (7, [.ref q2, .ref q8, .ref q12, .ref u15.1, .ref u15.2.2.2.1, .int 0])), (u15.1, .inr (1, [.ref u15.2.1, .ref u15.2.2.1, .int 0, .int 0])), (u15.2.1, .inl (cI, 200, .inl (fun _ => 0))), (u15.2.2.1, .inl (cI, 16, .inl (fun _ => 0))), (u15.2.2.2.1, .inr (1, [.ref u15.2.2.2.2.1, .ref u15.2.2.2.2.2, .int 0, .int 0])), (u15.2.2.2.2.1, .inl (cI, 200, .inl (fun _ => 0))), (u15.2.2.2.2.2, .inl (cI, 16, .inl (fun _ => 0)))]) rfl (by decide) (by decide) (by decide) hA rfl (Nat.le_of_ble_eq_true rfl) ⟨Nat.le_of_ble_eq_true rfl, Nat.le_of_ble_eq_true rfl⟩ d_Gl_init_137 rfl (fun u17 _ => ?_)
  refine gj_putF (w' := [(t, .inr (8, [.ref q1, .int 0, .ref q2, .ref q4, .ref q6, .ref q8, .ref q10, .ref q14, .ref q16, .int 0])), (q1, .inl (cI, 6, .inl (fun _ => 0))), (q2, .inr (2, [.ref u3.1, .ref u3.2.1, .ref u3.2.2, .int 0])), (u3.1, .inl (cI, 24, .inl (fun _ => 0))), (u3.2.1, .inl (cI, 24, .inl (fun _ => 0))), (u3.2.2, .inl (cI, 144, .inl (fun _ => 0))), (q4, .inr (4, [.ref q2, .ref u5.1, .ref u5.2])), (u5.1, .inl (cI, 8, .inl (fun _ => 0))), (u5.2, .inl (cI, 8, .inl (fun _ => 0))), (q6, .inr (3, [.ref q2, .ref q4, .ref u7.1, .ref u7.2, .int 0])), (u7.1, .inl (cI, 8, .inl (fun _ => 0))), (u7.2, .inl (cI, 8, .inl (fun _ => 0))), (q8, .inr (0, [.ref q2, .ref q6, .ref u9.1, .ref u9.2, .int (-1), .int 0])), (u9.1, .inl (cL, 136, .inr (.inl (fun _ => 0)))), (u9.2, .inl (cL, 2856, .inr (.inl (fun _ => 0)))), (q10, .inr (0, [.ref q2, .ref q6, .ref u11.1, .ref u11.2, .int (-1), .int 0])), (u11.1, .inl (cL, 136, .inr (.inl (fun _ => 0)))), (u11.2, .inl (cL, 2856, .inr (.inl (fun _ => 0)))), (q12, .inr (6, [.ref u13.1, .ref u13.2.1, .ref u13.2.2, .int 0])), (u13.1, .inl (cI, 216, .inl (fun _ => 0))), (u13.2.1, .inl (cI, 216, .inl (fun _ => 0))), (u13.2.2, .inl (cL, 216, .inr (.inl (fun _ => 0)))), (q14, .inr (7, [.ref q2, .ref q8, .ref q12, .ref u15.1, .ref u15.2.2.2.1, .int 0])), (u15.1, .inr (1, [.ref u15.2.1, .ref u15.2.2.1, .int 0, .int 0])), (u15.2.1, .inl (cI, 200, .inl (fun _ => 0))), (u15.2.2.1, .inl (cI, 16, .inl (fun _ => 0))), (u15.2.2.2.1, .inr (1, [.ref u15.2.2.2.2.1, .ref u15.2.2.2.2.2, .int 0, .int 0])), (u15.2.2.2.2.1, .inl (cI, 200, .inl (fun _ => 0))), (u15.2.2.2.2.2, .inl (cI, 16, .inl (fun _ => 0))), (q16, .inr (5, [.ref q2, .ref q8, .ref q12, .ref u17, .int 0])), (u17, .inl (cI, 200, .inl (fun _ => 0)))]) X inX8 tyX8 tyX8_ok nmX8 0 rfl (ci := 8) rfl 8 (by decide) tw_216 rfl rfl hnm rfl (tyX8_ok 8 (by decide)) rfl rfl (Nat.le_of_ble_eq_true rfl) rfl d_Gl_init_140 ?_
  refine gj_sub (w' := wG (fun k => match k with | 0 => t | 1 => q1 | 2 => q2 | 3 => u3.1 | 4 => u3.2.1 | 5 => u3.2.2 | 6 => q4 | 7 => u5.1 | 8 => u5.2 | 9 => q6 | 10 => u7.1 | 11 => u7.2 | 12 => q8 | 13 => u9.1 | 14 => u9.2 | 15 => q10 | 16 => u11.1 | 17 => u11.2 | 18 => q12 | 19 => u13.1 | 20 => u13.2.1 | 21 => u13.2.2 | 22 => q14 | 23 => u15.1 | 24 => u15.2.1 | 25 => u15.2.2.1 | 26 => u15.2.2.2.1 | 27 => u15.2.2.2.2.1 | 28 => u15.2.2.2.2.2 | 29 => q16 | _ => u17) cI cL gs_0) [0, 1, 2, 3, 4, 5, 6, 7, 8, 9, 10, 11, 12, 13, 14, 15, 16, 17, 18, 19, 20, 21, 22, 23, 24, 25, 26, 27, 28, 29, 30] (by decide) rfl ?_
  exact gj_vret (wof := fun h : Nat → Nat => wG h cI cL gs_0) (u := (fun k => match k with | 0 => t | 1 => q1 | 2 => q2 | 3 => u3.1 | 4 => u3.2.1 | 5 => u3.2.2 | 6 => q4 | 7 => u5.1 | 8 => u5.2 | 9 => q6 | 10 => u7.1 | 11 => u7.2 | 12 => q8 | 13 => u9.1 | 14 => u9.2 | 15 => q10 | 16 => u11.1 | 17 => u11.2 | 18 => q12 | 19 => u13.1 | 20 => u13.2.1 | 21 => u13.2.2 | 22 => q14 | 23 => u15.1 | 24 => u15.2.1 | 25 => u15.2.2.1 | 26 => u15.2.2.2.1 | 27 => u15.2.2.2.2.1 | 28 => u15.2.2.2.2.2 | 29 => q16 | _ => u17)) X hr hlk trivial d_Gl_init_143
end
