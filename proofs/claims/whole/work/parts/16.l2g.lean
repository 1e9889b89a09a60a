theorem gs_LL (σ : gs_St) (k : Nat) (f g : Nat → Int64) : gs_L (gs_L σ k f) k g = gs_L σ k g := by
  refine Prod.ext rfl (Prod.ext rfl (funext fun j => ?_))
  show (if j = k then g else (if j = k then f else σ.2.2 j)) = (if j = k then g else σ.2.2 j)
  split <;> rfl
theorem gs_Lid (σ : gs_St) (k : Nat) : gs_L σ k (σ.2.2 k) = σ := by
  refine Prod.ext rfl (Prod.ext rfl (funext fun j => ?_))
  show (if j = k then σ.2.2 k else σ.2.2 j) = σ.2.2 j
  split
  · rename_i e
    rw [e]
  · rfl
/-! Layer 2, part g: the class's Counts (instance all) -/
section L2G
variable {G : gg_R} {σ : gs_St} {D : Nat → Option Nat}
/-- the table of trees, up to the length N -/
def gt_at (T : Nat → Nat → Nat) (N : Nat) (σ : gs_St) : Prop := ∀ A, A < 8 → ∀ p, p < N → σ.2.2 0 (A * 17 + p) = lN (T A p)
/-- the table of endings, of the rules that kp keeps, up to the length N -/
def gE_at (T : Nat → Nat → Nat) (r N : Nat) (ys : List Nat) (σ : gs_St) : Prop := ∀ i, i ≤ ys.length → ∀ p, p < N → σ.2.2 1 (ge_at r i p) = lN (gc_E T (ys.drop i) p)
theorem s_pairs {T : Nat → Nat → Nat} {ys : List Nat} {s r i n : Nat} {K : Int64 → gs_St → Prop} (hs : s < 8) (hr : r < 24) (hi : i < 7) (hn : n ≤ 16) (hT : gt_at T (n + 1) σ) (hTb : ∀ A p, T A p ≤ 1000000000000000001) (hE : ∀ p, p ≤ n → σ.2.2 1 (ge_at r i p) = lN (gc_E T ys p))
    (k : K (lN (gc_cap (gc_sum (fun p => T s p * gc_E T ys (n - p)) (n + 1)))) σ) : C_Co_pairs (nI (s * 17)) (nI (ge_at r i n)) (nI n) σ K := by
  intro X6 h6
  have key : ∀ (m p : Nat), p + m = n + 1 → X6 (nI (s * 17)) (nI (ge_at r i n)) (nI n) (lN (gc_cap (gc_sum (fun p => T s p * gc_E T ys (n - p)) p))) (nI p) σ := by
    intro m
    induction m with
    | zero =>
      intro p hp
      have hp : p = n + 1 := hp
      subst hp
      apply h6
      exact pk_lt n (n + 1) (fun _ => k) (fun q => absurd q (by omega))
    | succ m ih =>
      intro p hp
      apply h6
      refine pk_lt n p (fun q => absurd q (by omega)) (fun _ => ?_)
      have e1 : nI (s * 17) + nI p = nI (s * 17 + p) := nI_add _ _
      have e2 : nI (ge_at r i n) - nI p = nI (ge_at r i (n - p)) := by
        rw [pk_sub (by unfold ge_at; omega)]
        congr 1
        unfold ge_at
        omega
      rw [e1]
      refine ⟨vp_in_nI (by omega) (by decide), ?_⟩
      rw [nI_clamp (by omega), hT s hs p (by omega)]
      have hTp := hTb s p
      have hnx : gc_cap (gc_sum (fun p => T s p * gc_E T ys (n - p)) (p + 1)) = gc_cap (gc_cap (gc_sum (fun p => T s p * gc_E T ys (n - p)) p) + gc_cap (T s p * gc_E T ys (n - p))) := (gc_cap_add2 _ _).symm
      refine nm_e (ek_if (pk_lEQ (a := T s p) (b := 0) (by omega) (by decide)) (fun q => ?_) (fun q => ?_))
      · have hz : gc_cap (gc_sum (fun p => T s p * gc_E T ys (n - p)) (p + 1)) = gc_cap (gc_sum (fun p => T s p * gc_E T ys (n - p)) p) := by
          rw [hnx, q, Nat.zero_mul, gc_cap_zero, Nat.add_zero, gc_cap_cap]
        rw [← hz]
        exact nm_r (nI_1 p) (ih (p + 1) (by omega))
      · rw [e2]
        have hlt : ge_at r i (n - p) < 2856 := by unfold ge_at; omega
        refine ⟨vp_in_nI hlt (by decide), ?_⟩
        rw [nI_clamp (by omega), hE (n - p) (by omega)]
        refine s_times hTp (gc_E_le _ _ _) ?_
        refine s_plus (gc_cap_le _) (gc_cap_le _) ?_
        rw [← hnx]
        exact nm_r (nI_1 p) (ih (p + 1) (by omega))
  exact key (n + 1) 0 (by omega)
theorem s_fillEndings {T : Nat → Nat → Nat} {r n : Nat} {K : gs_St → Prop} (h : gr_at G σ) (hr : r < G.length) (hn : n ≤ 16) (hT : gt_at T (n + 1) σ) (hTb : ∀ A p, T A p ≤ 1000000000000000001) (hE : gE_at T r n (gg_y G r) σ)
    (kk : ∀ e : Nat → Int64, (∀ i, i ≤ (gg_y G r).length → e (ge_at r i n) = lN (gc_E T ((gg_y G r).drop i) n)) → (∀ j, (∀ i, i ≤ (gg_y G r).length → j ≠ ge_at r i n) → e j = σ.2.2 1 j) → K (gs_L σ 1 e)) : C_Co_fillEndings (nI r) (nI n) σ K := by
  intro X35 h35
  have hG := h.1.1
  obtain ⟨hl8, hz, h24⟩ := h.1.2 r hr
  have gL : ∀ e, gr_at G (gs_L σ 1 e) := fun e => h.of rfl rfl rfl rfl
  have tL : ∀ e, gt_at T (n + 1) (gs_L σ 1 e) := fun e => hT
  have inj : ∀ i i' p p', p ≤ 16 → p' ≤ 16 → ge_at r i p = ge_at r i' p' → i = i' ∧ p = p' := fun i i' p p' hp hp' e => by
    unfold ge_at at e
    omega
  have key : ∀ (c : Nat) (e : Nat → Int64), c ≤ (gg_y G r).length → (∀ i, c ≤ i → i ≤ (gg_y G r).length → e (ge_at r i n) = lN (gc_E T ((gg_y G r).drop i) n)) → (∀ j, (∀ i, i ≤ (gg_y G r).length → j ≠ ge_at r i n) → e j = σ.2.2 1 j) → X35 (nI r) (nI n) (nI c - 1) (gs_L σ 1 e) := by
    intro c
    induction c with
    | zero =>
      intro e hc he1 he2
      apply h35
      exact br_t (by decide) (kk e (fun i hi => he1 i (Nat.zero_le _) hi) he2)
    | succ c ih =>
      intro e hc he1 he2
      have hc' : c < (gg_y G r).length := by omega
      have h24c := h24 c hc'
      rw [nI_pred]
      -- what is stored, and the step
      have step : ∀ v : Int64, v = lN (gc_E T ((gg_y G r).drop c) n) → ∀ τ : gs_St, τ = gs_L (gs_L σ 1 e) 1 (vp_updL e (ge_at r c n) v) → X35 (nI r) (nI n) (nI c - 1) τ := by
        intro v hv τ hτ
        have e1 : τ = gs_L σ 1 (vp_updL e (ge_at r c n) v) := by rw [hτ, gs_LL]
        rw [e1]
        refine ih _ (by omega) (fun i hi hi2 => ?_) (fun j hj => ?_)
        · show (if ge_at r i n = ge_at r c n then v else e (ge_at r i n)) = _
          by_cases q : i = c
          · rw [q, if_pos rfl, hv]
          · rw [if_neg (fun z => q (inj i c n n hn hn z).1)]
            exact he1 i (by omega) hi2
        · show (if j = ge_at r c n then v else e j) = _
          rw [if_neg (hj c (by omega))]
          exact he2 j hj
      have old : ∀ i, i ≤ (gg_y G r).length → ∀ p, p < n → e (ge_at r i p) = lN (gc_E T ((gg_y G r).drop i) p) := fun i hi p hp => by
        rw [he2 _ (fun i' hi' z => by have := (inj i i' p n (by omega) hn z).2; omega)]
        exact hE i hi p hp
      have hdrop := gg_drop hc'
      have hat : nI ((r * 7 + c) * 17) + nI n = nI (ge_at r c n) := nI_add _ _
      have hlt : ge_at r c n < 2856 := by unfold ge_at; omega
      apply h35
      refine br_f (nI_pos (by omega)) ?_
      refine s_symbolAt (gL e) hr hc' ?_
      show C_Co_endingsAt (nI r) (nI c + 1) _ _
      rw [nI_1]
      show ∀ v13 : Int32, v13 = (nI r * (7 : Int32) + nI (c + 1)) * (17 : Int32) + nI n → _
      rw [ge_at_e]
      have hat1 : nI ((r * 7 + (c + 1)) * 17) + nI n = nI (ge_at r (c + 1) n) := nI_add _ _
      refine nm_r hat1 ?_
      refine s_isNtN (by omega) (fun q => ?_) (fun q => ?_)
      · refine br_f (by decide) ?_
        have e17 : nI ((gg_y G r).getD c 0) * (17 : Int32) = nI ((gg_y G r).getD c 0 * 17) := by rw [show (17 : Int32) = nI 17 from rfl, pk_mul]
        rw [e17]
        refine s_pairs (T := T) (ys := (gg_y G r).drop (c + 1)) q (by omega) (by omega) hn (tL e) hTb (fun p hp => ?_) ?_
        · show e (ge_at r (c + 1) p) = _
          by_cases z : p = n
          · rw [z]
            exact he1 (c + 1) (by omega) (by omega)
          · exact old (c + 1) (by omega) p (by omega)
        · show vp_in ((nI r * (7 : Int32) + nI c) * (17 : Int32) + nI n) 2856 ∧ _
          rw [ge_at_e, hat]
          refine ⟨vp_in_nI hlt (by decide), ?_⟩
          rw [nI_clamp (by omega)]
          intro τ hτ
          rw [gv_m1]
          refine nm_e (step _ ?_ τ hτ)
          rw [hdrop, gc_E_nt q]
      · refine br_t rfl ?_
        refine ⟨fun hn0 => ?_, fun hn0 => ?_⟩
        · have hn0 : n = 0 := Classical.byContradiction (fun z => absurd hn0 (nI_nle (by omega) (by omega)))
          show vp_in ((nI r * (7 : Int32) + nI c) * (17 : Int32) + nI n) 2856 ∧ _
          rw [ge_at_e, hat]
          refine ⟨vp_in_nI hlt (by decide), ?_⟩
          rw [nI_clamp (by omega)]
          intro τ hτ
          rw [gv_m1]
          refine nm_e (step 0 ?_ τ hτ)
          rw [hdrop, gc_E_t (by omega), if_pos hn0]
          rfl
        · have hn0 : 0 < n := Classical.byContradiction (fun z => hn0 (by rw [show n = 0 by omega]; decide))
          have hm1 : nI (ge_at r (c + 1) n) - (1 : Int32) = nI (ge_at r (c + 1) (n - 1)) := by
            rw [show ge_at r (c + 1) n = ge_at r (c + 1) (n - 1) + 1 by unfold ge_at; omega, nI_pred]
          have hlt1 : ge_at r (c + 1) (n - 1) < 2856 := by unfold ge_at; omega
          rw [hm1]
          refine ⟨vp_in_nI hlt1 (by decide), ?_⟩
          rw [nI_clamp (by omega)]
          refine nm_e ?_
          show vp_in ((nI r * (7 : Int32) + nI c) * (17 : Int32) + nI n) 2856 ∧ _
          rw [ge_at_e, hat]
          refine ⟨vp_in_nI hlt (by decide), ?_⟩
          rw [nI_clamp (by omega)]
          intro τ hτ
          rw [gv_m1]
          refine nm_e (step _ ?_ τ hτ)
          show e (ge_at r (c + 1) (n - 1)) = _
          rw [old (c + 1) (by omega) (n - 1) (by omega), hdrop, gc_E_t (by omega), if_neg (by omega)]
  refine s_sizeOf h hr ?_
  show (¬ nI n = 0 → vp_in ((nI r * (7 : Int32) + nI (gg_y G r).length) * (17 : Int32) + nI n) 2856 ∧ _) ∧ (¬ (¬ nI n = 0) → vp_in ((nI r * (7 : Int32) + nI (gg_y G r).length) * (17 : Int32) + nI n) 2856 ∧ _)
  have hat : nI ((r * 7 + (gg_y G r).length) * 17) + nI n = nI (ge_at r (gg_y G r).length n) := nI_add _ _
  have hlt : ge_at r (gg_y G r).length n < 2856 := by unfold ge_at; omega
  have hdl : (gg_y G r).drop (gg_y G r).length = [] := List.drop_eq_nil_iff.mpr (Nat.le_refl _)
  have first : ∀ v : Int64, v = lN (if n = 0 then 1 else 0) → ∀ τ : gs_St, τ = gs_L σ 1 (vp_updL (σ.2.2 1) (ge_at r (gg_y G r).length n) v) → X35 (nI r) (nI n) (nI (gg_y G r).length - 1) τ := by
    intro v hv τ hτ
    rw [hτ]
    refine key (gg_y G r).length _ (Nat.le_refl _) (fun i hi hi2 => ?_) (fun j hj => ?_)
    · have hi : i = (gg_y G r).length := by omega
      subst hi
      show (if ge_at r (gg_y G r).length n = ge_at r (gg_y G r).length n then v else _) = _
      rw [if_pos rfl, hdl, hv]
      rfl
    · show (if j = ge_at r (gg_y G r).length n then v else σ.2.2 1 j) = _
      rw [if_neg (hj _ (Nat.le_refl _))]
  rw [ge_at_e, hat, nI_clamp (by omega)]
  refine ⟨fun hn0 => ⟨vp_in_nI hlt (by decide), fun τ hτ => nm_e (first 0 ?_ τ hτ)⟩, fun hn0 => ⟨vp_in_nI hlt (by decide), fun τ hτ => nm_e (first 1 ?_ τ hτ)⟩⟩
  · rw [if_neg (fun z => hn0 (by rw [z]; rfl))]
    rfl
  · have hn0 : n = 0 := Classical.byContradiction (fun z => hn0 (nI_ne0 (by omega) (by omega)))
    rw [if_pos hn0]
    rfl
theorem s_addTrees {A n a b : Nat} {K : gs_St → Prop} (hA : A < 8) (hn : n ≤ 16) (ha : σ.2.2 0 (A * 17 + n) = lN a) (ha1 : a ≤ 1000000000000000001) (hb1 : b ≤ 1000000000000000001) (kk : ∀ τ : gs_St, τ = gs_L σ 0 (vp_updL (σ.2.2 0) (A * 17 + n) (lN (gc_cap (a + b)))) → K τ) : C_Co_addTrees (nI A) (nI n) (lN b) σ K := by
  have hv : vp_in (nI (A * 17 + n)) 136 := vp_in_nI (by omega) (by decide)
  refine nm_r (gt_at_e A n) ⟨hv, ?_⟩
  rw [nI_clamp (by omega), ha]
  exact s_plus ha1 hb1 ⟨hv, kk⟩
theorem s_endingsOf {r i n : Nat} {K : Int64 → gs_St → Prop} (hr : r < 24) (hi : i < 7) (hn : n ≤ 16) (k : K (σ.2.2 1 (ge_at r i n)) σ) : C_Co_endingsOf (nI r) (nI i) (nI n) σ K := by
  show vp_in ((nI r * (7 : Int32) + nI i) * (17 : Int32) + nI n) 2856 ∧ K (σ.2.2 1 ((nI r * (7 : Int32) + nI i) * (17 : Int32) + nI n).toNatClampNeg) σ
  have hat : nI ((r * 7 + i) * 17) + nI n = nI (ge_at r i n) := nI_add _ _
  have hlt : ge_at r i n < 2856 := by unfold ge_at; omega
  rw [ge_at_e, hat, nI_clamp (by omega)]
  exact ⟨vp_in_nI hlt (by decide), k⟩
end L2G
