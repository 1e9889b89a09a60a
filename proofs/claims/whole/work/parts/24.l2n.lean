/-! Layer 2, part n: the class draws a tree as the function does. -/
/-- what drawing leaves as it was -/
def fr_w (σ τ : gs_St) : Prop := (∀ k, k ≠ 8 → k ≠ 9 → k ≠ 12 → k ≠ 13 → τ.1 k = σ.1 k) ∧ (∀ k, k ≠ 8 → k ≠ 9 → k ≠ 12 → k ≠ 13 → τ.2.1 k = σ.2.1 k) ∧ ∀ k, k ≠ 4 → τ.2.2 k = σ.2.2 k
theorem fr_w.rf {σ : gs_St} : fr_w σ σ := ⟨fun _ _ _ _ _ => rfl, fun _ _ _ _ _ => rfl, fun _ _ => rfl⟩
theorem fr_w.tr {σ τ ρ : gs_St} (h : fr_w σ τ) (h' : fr_w τ ρ) : fr_w σ ρ := ⟨fun k a b c d => (h'.1 k a b c d).trans (h.1 k a b c d), fun k a b c d => (h'.2.1 k a b c d).trans (h.2.1 k a b c d), fun k a => (h'.2.2 k a).trans (h.2.2 k a)⟩
theorem fr_w.I {σ : gs_St} {k : Nat} {v : Int32} (hk : k = 8 ∨ k = 9 ∨ k = 12 ∨ k = 13) : fr_w σ (gs_I σ k v) := ⟨fun j a b c d => if_neg (by omega), fun _ _ _ _ _ => rfl, fun _ _ => rfl⟩
theorem fr_w.A {σ : gs_St} {k : Nat} {f : Nat → Int32} (hk : k = 8 ∨ k = 9 ∨ k = 12 ∨ k = 13) : fr_w σ (gs_A σ k f) := ⟨fun _ _ _ _ _ => rfl, fun j a b c d => if_neg (by omega), fun _ _ => rfl⟩
theorem fr_w.L {σ : gs_St} {f : Nat → Int64} : fr_w σ (gs_L σ 4 f) := ⟨fun _ _ _ _ _ => rfl, fun _ _ _ _ _ => rfl, fun j a => if_neg a⟩
theorem fr_w.gr {G : gg_R} {σ τ : gs_St} (h : fr_w σ τ) (hg : gr_at G σ) : gr_at G τ := hg.of (h.1 2 (by decide) (by decide) (by decide) (by decide)) (h.2.1 1 (by decide) (by decide) (by decide) (by decide)) (h.2.1 2 (by decide) (by decide) (by decide) (by decide)) (h.2.1 3 (by decide) (by decide) (by decide) (by decide))
theorem fr_w.gt {T : Nat → Nat → Nat} {N : Nat} {σ τ : gs_St} (h : fr_w σ τ) (ht : gt_at T N σ) : gt_at T N τ := fun A hA p hp => by
  rw [h.2.2 0 (by decide)]
  exact ht A hA p hp
theorem fr_w.gE {T : Nat → Nat → Nat} {r N : Nat} {ys : List Nat} {σ τ : gs_St} (h : fr_w σ τ) (hE : gE_at T r N ys σ) : gE_at T r N ys τ := fun i hi p hp => by
  rw [h.2.2 1 (by decide)]
  exact hE i hi p hp
/-- an entry of the pile -/
def pc_at (τ : gs_St) (j : Nat) (e : Nat × Nat × Nat) : Prop := τ.2.1 8 j = nI e.1 ∧ τ.2.1 9 j = nI e.2.1 ∧ τ.2.2 4 j = lN e.2.2
/-- the pile, its top first -/
def pi_at (p : List (Nat × Nat × Nat)) (τ : gs_St) : Prop := ∀ k e, p[k]? = some e → pc_at τ (p.length - 1 - k) e
section L2N
variable {G : gg_R} {σ : gs_St} {T : Nat → Nat → Nat} {N : Nat}
theorem s_endingsWith {r i p n : Nat} {K : Int64 → gs_St → Prop} (h : gr_at G σ) (hr : r < G.length) (hi : i < (gg_y G r).length) (hp : p ≤ n) (hn : n < N) (hN : N ≤ 17) (hT : gt_at T N σ) (hTb : ∀ A p, T A p ≤ 1000000000000000001) (hE : gE_at T r N (gg_y G r) σ)
    (k : K (lN (gd_w T ((gg_y G r).getD i 0) ((gg_y G r).drop (i + 1)) n p)) σ) : C_Co_endingsWith (nI r) (nI i) (nI p) (nI n) σ K := by
  intro X21 h21
  have hG := h.1.1
  obtain ⟨hl8, hz, h24⟩ := h.1.2 r hr
  have h24i := h24 i hi
  have e1 : nI ((r * 7 + (i + 1)) * 17) + nI n - nI p = nI (ge_at r (i + 1) (n - p)) := by
    rw [nI_add, pk_sub (by omega)]
    congr 1
    unfold ge_at
    omega
  have hlt : ge_at r (i + 1) (n - p) < 2856 := by unfold ge_at; omega
  have hEv := hE (i + 1) (by omega) (n - p) (by omega)
  have key : ∀ v : Nat, (8 ≤ (gg_y G r).getD i 0 → v = gd_F T ((gg_y G r).getD i 0) p) → v ≤ 1 → X21 (nI r) (nI i) (nI p) (nI n) (nI ((gg_y G r).getD i 0)) (lN v) σ := by
    intro v hv hv1
    apply h21
    refine s_isNtN (by omega) (fun q => br_f (by decide) ?_) (fun q => br_t rfl ?_)
    · rw [gt_at_e]
      refine ⟨vp_in_nI (by omega) (by decide), ?_⟩
      rw [nI_clamp (by omega), hT _ q p (by omega)]
      refine nm_e ?_
      show vp_in ((nI r * (7 : Int32) + (nI i + 1)) * (17 : Int32) + nI n - nI p) 2856 ∧ _
      rw [nI_1, ge_at_e, e1]
      refine ⟨vp_in_nI hlt (by decide), ?_⟩
      rw [nI_clamp (by omega), hEv]
      refine s_times (hTb _ _) (gc_E_le _ _ _) ?_
      have hF : gd_F T ((gg_y G r).getD i 0) p = T ((gg_y G r).getD i 0) p := by unfold gd_F; rw [if_pos q]
      rw [← hF]
      exact k
    · show vp_in ((nI r * (7 : Int32) + (nI i + 1)) * (17 : Int32) + nI n - nI p) 2856 ∧ _
      rw [nI_1, ge_at_e, e1]
      refine ⟨vp_in_nI hlt (by decide), ?_⟩
      rw [nI_clamp (by omega), hEv]
      refine s_times (by omega) (gc_E_le _ _ _) ?_
      rw [hv q]
      exact k
  refine s_symbolAt h hr hi ?_
  refine ek_if (not_congr (nI_eq (a := p) (b := 1) (by omega) (by decide))) (fun q => ?_) (fun q => ?_)
  · exact key 0 (fun z => by unfold gd_F; rw [if_neg (by omega), if_neg q]) (by decide)
  · have q : p = 1 := Classical.byContradiction q
    exact key 1 (fun z => by unfold gd_F; rw [if_neg (by omega), if_pos q]) (by decide)
theorem s_put {j s n m : Nat} {K : gs_St → Prop} (hj : j < 216) (kk : ∀ τ : gs_St, fr_w σ τ → τ.1 = σ.1 → τ.2.1 12 = σ.2.1 12 → τ.2.1 13 = σ.2.1 13 → pc_at τ j (s, n, m) → (∀ i e, i ≠ j → pc_at σ i e → pc_at τ i e) → K τ) : C_Pi_put (nI j) (nI s) (nI n) (lN m) σ K := by
  have hv : vp_in (nI j) 216 := vp_in_nI hj (by decide)
  refine br_f (nI_pos (by omega)) (br_f (nI_ge hj (by decide)) ⟨hv, ?_⟩)
  rw [nI_clamp (by omega)]
  intro σ1 e1
  refine ⟨hv, ?_⟩
  intro σ2 e2
  refine ⟨hv, ?_⟩
  intro σ3 e3
  have f8 : σ3.2.1 8 = upd (σ.2.1 8) j (nI s) := by rw [e3, e2, e1]; rfl
  have f9 : σ3.2.1 9 = upd (σ.2.1 9) j (nI n) := by rw [e3, e2, e1]; rfl
  have f4 : σ3.2.2 4 = vp_updL (σ.2.2 4) j (lN m) := by rw [e3, e2, e1]; rfl
  refine kk σ3 ?_ (by rw [e3, e2, e1]; rfl) (by rw [e3, e2, e1]; rfl) (by rw [e3, e2, e1]; rfl) ⟨?_, ?_, ?_⟩ (fun i e hi he => ⟨?_, ?_, ?_⟩)
  · rw [e3, e2, e1]
    exact ((fr_w.A (Or.inl rfl)).tr (fr_w.A (Or.inr (Or.inl rfl)))).tr fr_w.L
  · rw [f8]; exact pk_us
  · rw [f9]; exact pk_us
  · rw [f4]; exact pk_uLs
  · rw [f8, pk_un hi]; exact he.1
  · rw [f9, pk_un hi]; exact he.2.1
  · rw [f4, pk_uLn hi]; exact he.2.2
theorem gi_dec (a b : Nat) : nI (a + 1) + (nI b - 1) = nI (a + b) := by
  cases b with
  | zero => exact pk_m1 a
  | succ c =>
    rw [nI_pred, nI_add]
    congr 1
    omega
theorem s_unfoldRule {r n m : Nat} {p : List (Nat × Nat × Nat)} {R : Nat} {K : Int32 → gs_St → Prop} (h : gr_at G σ) (hr : r < G.length) (hn : n < N) (hN : N ≤ 17) (hT : gt_at T N σ) (hTb : ∀ A p, T A p ≤ 1000000000000000001) (hE : gE_at T r N (gg_y G r) σ)
    (hm : m < gc_E T (gg_y G r) n) (hmb : gc_E T (gg_y G r) n ≤ 1000000000000000000) (h8 : σ.1 8 = nI p.length) (h9 : σ.1 9 = nI (gd_nt p + 1)) (h12 : σ.1 12 = nI R) (hR : R ≤ 200) (hp : p.length < 1000) (hp2 : pi_at p σ)
    (hfit : R + 1 + (gd_nt p + gg_ntn (gg_y G r)) ≤ 200 → p.length + (gg_y G r).length ≤ 216)
    (k0 : 200 < R + 1 + (gd_nt p + gg_ntn (gg_y G r)) → ∀ τ, fr_w σ τ → K 0 τ)
    (k1 : R + 1 + (gd_nt p + gg_ntn (gg_y G r)) ≤ 200 → ∀ τ, fr_w σ τ → τ.1 8 = nI (gd_sp T (gg_y G r) n m ++ p).length → τ.1 9 = nI (gd_nt p + gg_ntn (gg_y G r)) → τ.1 12 = nI (R + 1) → τ.1 13 = σ.1 13 → (∀ j, j ≠ R → τ.2.1 12 j = σ.2.1 12 j) → τ.2.1 12 R = nI r → τ.2.1 13 = σ.2.1 13 → pi_at (gd_sp T (gg_y G r) n m ++ p) τ → K 1 τ) : C_We_unfoldRule (nI r) (nI n) (lN m) σ K := by
  intro X68 X94 X138 h68 h94 h138
  have hG := h.1.1
  obtain ⟨hl8, hz, h24⟩ := h.1.2 r hr
  have hnty := gg_ntn_le (gg_y G r)
  have hlen : ∀ (ys : List Nat) (n m : Nat), (gd_sp T ys n m).length = ys.length := by
    intro ys
    induction ys with
    | nil => exact fun _ _ => rfl
    | cons s ys ih => exact fun n m => congrArg (· + 1) (ih _ _)
  refine s_ntIn h hr ?_
  intro σ3 e3
  have v9 : σ3.1 9 = nI (gd_nt p + gg_ntn (gg_y G r)) := by
    rw [e3]
    show σ.1 9 + (nI (gg_ntn (gg_y G r)) - 1) = _
    rw [h9, gi_dec]
  have v12 : σ3.1 12 = nI R := by rw [e3]; exact h12
  have fr3 : fr_w σ σ3 := by rw [e3]; exact fr_w.I (Or.inr (Or.inl rfl))
  have hntp : gd_nt p ≤ p.length := by
    unfold gd_nt
    have := gg_ntn_le (p.map (fun e => e.1))
    rw [List.length_map] at this
    exact this
  have esum : σ3.1 12 + 1 + σ3.1 9 = nI (R + 1 + (gd_nt p + gg_ntn (gg_y G r))) := by rw [v9, v12, nI_1, nI_add]
  rw [esum]
  refine pk_le (R + 1 + (gd_nt p + gg_ntn (gg_y G r))) 200 (fun q => ?_) (fun q => k0 q σ3 fr3)
  have hsz := hfit q
  -- the rule into the row
  refine br_f (by rw [v12]; exact nI_ge (b := 200) (by omega) (by decide)) ?_
  rw [v12]
  refine ⟨vp_in_nI (by omega) (by decide), ?_⟩
  rw [nI_clamp (by omega)]
  intro σ4 e4 σ5 e5
  have fr5 : fr_w σ σ5 := by
    rw [e5, e4]
    exact (fr3.tr (fr_w.A (Or.inr (Or.inr (Or.inl rfl))))).tr (fr_w.I (Or.inr (Or.inr (Or.inl rfl))))
  have w8 : σ5.1 8 = nI p.length := by rw [e5, e4, e3]; exact h8
  have w9 : σ5.1 9 = nI (gd_nt p + gg_ntn (gg_y G r)) := by rw [e5, e4]; exact v9
  have w12 : σ5.1 12 = nI (R + 1) := by
    rw [e5]
    show σ4.1 12 + 1 = _
    rw [e4]
    show σ3.1 12 + 1 = _
    rw [v12, nI_1]
  have w13 : σ5.1 13 = σ.1 13 := by rw [e5, e4, e3]; rfl
  have wA : σ5.2.1 12 = upd (σ.2.1 12) R (nI r) := by rw [e5, e4, e3]; rfl
  have wB : σ5.2.1 13 = σ.2.1 13 := by rw [e5, e4, e3]; rfl
  have wp : ∀ j e, pc_at σ j e → pc_at σ5 j e := fun j e he => by rw [e5, e4, e3]; exact he
  refine s_sizeOf (fr5.gr h) hr ?_
  -- the symbols
  have key : ∀ (zs : List Nat) (i nl ml : Nat) (c : List (Nat × Nat × Nat)) (τ : gs_St), (gg_y G r).drop i = zs → i + zs.length = (gg_y G r).length → c.length = i → c ++ gd_sp T zs nl ml = gd_sp T (gg_y G r) n m → nl ≤ n → ml < 2 ^ 62 → fr_w σ τ → τ.1 = σ5.1 → τ.2.1 12 = σ5.2.1 12 → τ.2.1 13 = σ5.2.1 13 → (∀ j e, j < p.length → pc_at σ j e → pc_at τ j e) → (∀ j e, c[j]? = some e → pc_at τ (p.length + (gg_y G r).length - 1 - j) e) → X68 (nI r) (nI (gg_y G r).length) (nI nl) (lN ml) (nI i) τ := by
    intro zs
    induction zs with
    | nil =>
      intro i nl ml c τ hd hi hc hsp hnl hml hfr hI hA hB hold hnew
      have hi : i = (gg_y G r).length := hi
      have hsp : c ++ [] = gd_sp T (gg_y G r) n m := hsp
      rw [List.append_nil] at hsp
      apply h68
      refine pk_le (gg_y G r).length i (fun _ => ?_) (fun q => absurd q (by omega))
      intro σ7 e7
      have i8 : τ.1 8 = nI p.length := by rw [hI]; exact w8
      refine k1 q σ7 (by rw [e7]; exact hfr.tr (fr_w.I (Or.inl rfl))) ?_ ?_ ?_ ?_ (fun j hj => ?_) ?_ ?_ (fun k e hk => ?_)
      · rw [e7, List.length_append, hlen]
        show τ.1 8 + nI (gg_y G r).length = _
        rw [i8, nI_add, Nat.add_comm]
      · rw [e7]
        show τ.1 9 = _
        rw [hI]
        exact w9
      · rw [e7]
        show τ.1 12 = _
        rw [hI]
        exact w12
      · rw [e7]
        show τ.1 13 = _
        rw [hI]
        exact w13
      · rw [e7]
        show τ.2.1 12 j = _
        rw [hA, wA, pk_un hj]
      · rw [e7]
        show τ.2.1 12 R = _
        rw [hA, wA, pk_us]
      · rw [e7]
        show τ.2.1 13 = _
        rw [hB, wB]
      · rw [← hsp] at hk ⊢
        have hcl : c.length = (gg_y G r).length := by omega
        have he : ∀ j, pc_at τ j e → pc_at σ7 j e := fun j z => by rw [e7]; exact z
        rw [List.length_append]
        rcases Nat.lt_or_ge k c.length with z | z
        · rw [List.getElem?_append_left z] at hk
          have := he _ (hnew k e hk)
          rw [show c.length + p.length - 1 - k = p.length + (gg_y G r).length - 1 - k by omega]
          exact this
        · rw [List.getElem?_append_right z] at hk
          have hkp : k - c.length < p.length := (List.getElem?_eq_some_iff.mp hk).1
          have := he _ (hold _ e (by omega) (hp2 (k - c.length) e hk))
          rw [show c.length + p.length - 1 - k = p.length - 1 - (k - c.length) by omega]
          exact this
    | cons s zs ih =>
      intro i nl ml c τ hd hi hc hsp hnl hml hfr hI hA hB hold hnew
      obtain ⟨h1, h2, h3⟩ := gg_cons hd
      have hi : i + (zs.length + 1) = (gg_y G r).length := hi
      have hgr := hfr.gr h
      have hgt := hfr.gt hT
      have hgE := hfr.gE hE
      apply h68
      refine pk_le (gg_y G r).length i (fun q => absurd q (by omega)) (fun _ => ?_)
      have hsub : gd_w T ((gg_y G r).getD i 0) ((gg_y G r).drop (i + 1)) = gd_w T s zs := by rw [h2, h3]
      have wle : ∀ q, gd_w T s zs nl q ≤ 1000000000000000001 := fun q => gc_cap_le _
      -- behind the search of the part
      have fin : ∀ (q x : Nat), q ≤ nl → x ≤ ml → gd_pt T s zs nl nl 0 ml = (q, x) → X138 (nI r) (nI (gg_y G r).length) (nI nl) (lN x) (nI i) (nI q) τ := by
        intro q x hq hx hpt
        apply h138
        refine nm_r (pk_sub hq) ?_
        rw [nI_1]
        refine s_endingsOf (by omega) (by omega) (by omega) ?_
        rw [hgE (i + 1) (by omega) (nl - q) (by omega), h3]
        have hEb := gc_E_le T zs (nl - q)
        have emx : (if lN (gc_E T zs (nl - q)) < (1 : Int64) then (1 : Int64) else lN (gc_E T zs (nl - q))) = lN (max 1 (gc_E T zs (nl - q))) := by
          have hlt : lN (gc_E T zs (nl - q)) < (1 : Int64) ↔ gc_E T zs (nl - q) < 1 := pk_lLT (a := gc_E T zs (nl - q)) (b := 1) (by omega) (by decide)
          by_cases z : gc_E T zs (nl - q) < 1
          · rw [if_pos (hlt.mpr z), Nat.max_eq_left (by omega)]
            rfl
          · rw [if_neg (fun w => z (hlt.mp w)), Nat.max_eq_right (by omega)]
        refine nm_r emx ?_
        have hmx : 1 ≤ max 1 (gc_E T zs (nl - q)) := Nat.le_max_left _ _
        have hmx2 : max 1 (gc_E T zs (nl - q)) ≤ 1000000000000000001 := Nat.max_le.mpr ⟨by decide, hEb⟩
        have hne : ¬ lN (max 1 (gc_E T zs (nl - q))) = 0 := fun z => by
          have := (pk_lEQ (a := max 1 (gc_E T zs (nl - q))) (b := 0) (by omega) (by decide)).mp z
          omega
        refine s_symbolAt hgr hr h1 ?_
        rw [h2]
        have i8 : τ.1 8 = nI p.length := by rw [hI]; exact w8
        have epl : τ.1 8 + nI (gg_y G r).length - 1 - nI i = nI (p.length + (gg_y G r).length - 1 - i) := by
          rw [i8, nI_add, show p.length + (gg_y G r).length = (p.length + (gg_y G r).length - 1) + 1 by omega, nI_pred, pk_sub (by omega)]
          congr 1
        rw [epl, pk_lDiv (by omega) (by omega) (by omega)]
        refine ⟨hne, ?_⟩
        refine s_put (by omega) (fun τ2 f2 g2 ga2 gb2 hp2' ho2 => ⟨hne, ?_⟩)
        rw [← pk_lDiv (by omega) (by omega) (by omega), pk_lRem (by omega) (by omega) (by omega)]
        have hmod : x % max 1 (gc_E T zs (nl - q)) ≤ x := Nat.mod_le _ _
        refine nm_e (nm_e (ih (i + 1) (nl - q) (x % max 1 (gc_E T zs (nl - q))) (c ++ [(s, q, x / max 1 (gc_E T zs (nl - q)))]) τ2 h3 (by omega) (by rw [List.length_append]; show c.length + 1 = i + 1; omega) ?_ (by omega) (by omega) (hfr.tr f2) (g2.trans hI) (ga2.trans hA) (gb2.trans hB) (fun j e hj he => ho2 j e (by omega) (hold j e hj he)) (fun j e hj => ?_)))
        · rw [← hsp, List.append_assoc]
          congr 1
          show (s, q, x / max 1 (gc_E T zs (nl - q))) :: gd_sp T zs (nl - q) (x % max 1 (gc_E T zs (nl - q))) = (s, (gd_pt T s zs nl nl 0 ml).1, (gd_pt T s zs nl nl 0 ml).2 / max 1 (gc_E T zs (nl - (gd_pt T s zs nl nl 0 ml).1))) :: gd_sp T zs (nl - (gd_pt T s zs nl nl 0 ml).1) ((gd_pt T s zs nl nl 0 ml).2 % max 1 (gc_E T zs (nl - (gd_pt T s zs nl nl 0 ml).1)))
          rw [hpt]
        · rcases Nat.lt_or_ge j c.length with z | z
          · rw [List.getElem?_append_left z] at hj
            exact ho2 _ e (by omega) (hnew j e hj)
          · have hj1 : j < (c ++ [(s, q, x / max 1 (gc_E T zs (nl - q)))]).length := (List.getElem?_eq_some_iff.mp hj).1
            rw [List.length_append] at hj1
            have hj1 : j < c.length + 1 := hj1
            have hjc : j = c.length := by omega
            subst hjc
            rw [List.getElem?_append_right (Nat.le_refl _), Nat.sub_self] at hj
            injection hj with hj
            rw [← hj, hc]
            exact hp2'
      have loop : ∀ (k q x : Nat), q + k = nl → x ≤ ml → gd_pt T s zs nl k q x = gd_pt T s zs nl nl 0 ml → X94 (nI r) (nI (gg_y G r).length) (nI nl) (lN x) (nI i) (nI q) (lN (gd_w T s zs nl q)) τ := by
        intro k
        induction k with
        | zero =>
          intro q x hq hx hpt
          have hq : q = nl := hq
          apply h94
          exact pk_le nl q (fun _ => fin q x (by omega) hx hpt.symm) (fun z => absurd z (by omega))
        | succ k ihk =>
          intro q x hq hx hpt
          have hpt : (if x < gd_w T s zs nl q then (q, x) else gd_pt T s zs nl k (q + 1) (x - gd_w T s zs nl q)) = gd_pt T s zs nl nl 0 ml := hpt
          have hw := wle q
          apply h94
          refine pk_le nl q (fun z => absurd z (by omega)) (fun _ => ?_)
          refine ek_if (pk_lLT (a := x) (b := gd_w T s zs nl q) (by omega) (by omega)) (fun z => ?_) (fun z => ?_)
          · rw [if_pos z] at hpt
            exact fin q x (by omega) hx hpt.symm
          · rw [if_neg z] at hpt
            refine nm_r (lN_sub (by omega)) (nm_r (nI_1 q) ?_)
            refine s_endingsWith (T := T) (N := N) hgr hr h1 (by omega) (by omega) hN hgt hTb hgE ?_
            rw [hsub]
            exact ihk (q + 1) (x - gd_w T s zs nl q) (by omega) (by omega) hpt
      refine s_endingsWith (T := T) (N := N) (p := 0) hgr hr h1 (by omega) (by omega) hN hgt hTb hgE ?_
      rw [hsub]
      exact loop nl 0 ml (by omega) (Nat.le_refl _) rfl
  exact key (gg_y G r) 0 n m [] σ5 rfl (by omega) rfl rfl (Nat.le_refl _) (by omega) fr5 rfl rfl rfl (fun j e _ he => wp j e he) (fun j e hj => by cases hj)
theorem s_unfold {A n m : Nat} {K : Int32 → gs_St → Prop} (h : gr_at G σ) (hA : A < 8) (hn : n < N) (hN : N ≤ 17) (hT : gt_at T N σ) (hTb : ∀ A p, T A p ≤ 1000000000000000001) (hE : ∀ r, r < G.length → gE_at T r N (gg_y G r) σ)
    (hok : T A n = gc_cap (gc_pt T G (fun _ => true) A n G.length)) (hmT : m < T A n) (hTA : T A n ≤ 1000000000000000000)
    (kk : ∀ r m', gd_pk T G A n G.length 0 m = some (r, m') → r < G.length → m' < gc_E T (gg_y G r) n → gc_E T (gg_y G r) n ≤ 1000000000000000000 → C_We_unfoldRule (nI r) (nI n) (lN m') σ K) : C_We_unfold (nI A) (nI n) (lN m) σ K := by
  intro X6 h6
  have hG := h.1.1
  rw [hok] at hmT hTA
  obtain ⟨c1, c2⟩ := gc_cap_small hTA
  rw [c1] at hmT
  have loop : ∀ (k r x : Nat), r + k = G.length → x + gc_pt T G (fun _ => true) A n r < gc_pt T G (fun _ => true) A n G.length → gd_pk T G A n k r x = gd_pk T G A n G.length 0 m → X6 (nI A) (nI n) (lN x) (nI r) σ := by
    intro k
    induction k with
    | zero =>
      intro r x hr hx _
      have hr : r = G.length := hr
      subst hr
      omega
    | succ k ih =>
      intro r x hr hx hpk
      have hr' : r < G.length := by omega
      obtain ⟨q, m', e1, e2, e3, e4, e5, e6⟩ := gd_pk_ok c2 (k + 1) r x hr hx
      have hpk : (if gg_l G r = A then (if x < gc_E T (gg_y G r) n then some (r, x) else gd_pk T G A n k (r + 1) (x - gc_E T (gg_y G r) n)) else gd_pk T G A n k (r + 1) x) = gd_pk T G A n G.length 0 m := hpk
      have hl8 := (h.1.2 r hr').1
      have hnx : gc_pt T G (fun _ => true) A n (r + 1) = gc_pt T G (fun _ => true) A n r + (if true = true ∧ gg_l G r = A then gc_E T (gg_y G r) n else 0) := rfl
      have hEb := gc_E_le T (gg_y G r) n
      apply h6
      refine pk_le G.length r (fun z => absurd z (by omega)) (fun _ => ?_) h.2.1
      refine s_leftOf h hr' ?_
      refine ek_if (not_congr (nI_eq (by omega) (by omega))) (fun z => ?_) (fun z => ?_)
      · rw [if_neg z] at hpk
        rw [if_neg (fun y => z y.2)] at hnx
        exact nm_r (nI_1 r) (ih (r + 1) x (by omega) (by omega) hpk)
      · have z : gg_l G r = A := Classical.byContradiction z
        rw [if_pos z] at hpk
        rw [if_pos ⟨rfl, z⟩] at hnx
        refine s_endingsOf (i := 0) (by omega) (by decide) (by omega) ?_
        have hv : σ.2.2 1 (ge_at r 0 n) = lN (gc_E T (gg_y G r) n) := hE r hr' 0 (Nat.zero_le _) n hn
        rw [hv]
        refine ek_if (pk_lLE (a := gc_E T (gg_y G r) n) (b := x) (by omega) (by omega)) (fun y => ?_) (fun y => ?_)
        · rw [if_neg (by omega)] at hpk
          exact nm_r (lN_sub y) (nm_r (nI_1 r) (ih (r + 1) _ (by omega) (by omega) hpk))
        · rw [if_pos (by omega)] at hpk
          have hle := gc_pt_true_mono T G A n (r + 1) G.length (by omega)
          exact kk r x hpk.symm hr' (by omega) (by omega)
  exact loop G.length 0 m (by omega) (by show m + 0 < _; omega) rfl
end L2N
