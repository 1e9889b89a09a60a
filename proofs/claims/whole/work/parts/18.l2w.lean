/-! Layer 2, part gw: the class's Counts (instance without) -/
section L2Gw
variable {G : gg_R} {σ : gs_St} {D : Nat → Option Nat}
/-- the table of trees, up to the length N -/
def gt_atw (T : Nat → Nat → Nat) (N : Nat) (σ : gs_St) : Prop := ∀ A, A < 8 → ∀ p, p < N → σ.2.2 2 (A * 17 + p) = lN (T A p)
/-- the table of endings, of the rules that kp keeps, up to the length N -/
def gE_atw (T : Nat → Nat → Nat) (r N : Nat) (ys : List Nat) (σ : gs_St) : Prop := ∀ i, i ≤ ys.length → ∀ p, p < N → σ.2.2 3 (ge_at r i p) = lN (gc_E T (ys.drop i) p)
theorem s_pairsw {T : Nat → Nat → Nat} {ys : List Nat} {s r i n : Nat} {K : Int64 → gs_St → Prop} (hs : s < 8) (hr : r < 24) (hi : i < 7) (hn : n ≤ 16) (hT : gt_atw T (n + 1) σ) (hTb : ∀ A p, T A p ≤ 1000000000000000001) (hE : ∀ p, p ≤ n → σ.2.2 3 (ge_at r i p) = lN (gc_E T ys p))
    (k : K (lN (gc_cap (gc_sum (fun p => T s p * gc_E T ys (n - p)) (n + 1)))) σ) : C_Co_pairsw (nI (s * 17)) (nI (ge_at r i n)) (nI n) σ K := by
  intro X6 h6
  have key : ∀ (m p : Nat), p + m = n + 1 → X6 (nI (s * 17)) (nI (ge_at r i n)) (nI n) (lN (gc_cap (gc_sum (fun p => T s p * gc_E T ys (n - p)) p))) (nI p) σ := by
    intro m
    induction m with
    | zero =>
      intro p hp
      have hp : p = n + 1 := hp
      subst hp
      apply h6
      exact pk_lt n (n + 1) (fun _ => k) (fun q => absurd q (by omega))
    | succ m ih =>
      intro p hp
      apply h6
      refine pk_lt n p (fun q => absurd q (by omega)) (fun _ => ?_)
      have e1 : nI (s * 17) + nI p = nI (s * 17 + p) := nI_add _ _
      have e2 : nI (ge_at r i n) - nI p = nI (ge_at r i (n - p)) := by
        rw [pk_sub (by unfold ge_at; omega)]
        congr 1
        unfold ge_at
        omega
      rw [e1]
      refine ⟨vp_in_nI (by omega) (by decide), ?_⟩
      rw [nI_clamp (by omega), hT s hs p (by omega)]
      have hTp := hTb s p
      have hnx : gc_cap (gc_sum (fun p => T s p * gc_E T ys (n - p)) (p + 1)) = gc_cap (gc_cap (gc_sum (fun p => T s p * gc_E T ys (n - p)) p) + gc_cap (T s p * gc_E T ys (n - p))) := (gc_cap_add2 _ _).symm
      refine nm_e (ek_if (pk_lEQ (a := T s p) (b := 0) (by omega) (by decide)) (fun q => ?_) (fun q => ?_))
      · have hz : gc_cap (gc_sum (fun p => T s p * gc_E T ys (n - p)) (p + 1)) = gc_cap (gc_sum (fun p => T s p * gc_E T ys (n - p)) p) := by
          rw [hnx, q, Nat.zero_mul, gc_cap_zero, Nat.add_zero, gc_cap_cap]
        rw [← hz]
        exact nm_r (nI_1 p) (ih (p + 1) (by omega))
      · rw [e2]
        have hlt : ge_at r i (n - p) < 2856 := by unfold ge_at; omega
        refine ⟨vp_in_nI hlt (by decide), ?_⟩
        rw [nI_clamp (by omega), hE (n - p) (by omega)]
        refine s_times hTp (gc_E_le _ _ _) ?_
        refine s_plus (gc_cap_le _) (gc_cap_le _) ?_
        rw [← hnx]
        exact nm_r (nI_1 p) (ih (p + 1) (by omega))
  exact key (n + 1) 0 (by omega)
theorem s_fillEndingsw {T : Nat → Nat → Nat} {r n : Nat} {K : gs_St → Prop} (h : gr_at G σ) (hr : r < G.length) (hn : n ≤ 16) (hT : gt_atw T (n + 1) σ) (hTb : ∀ A p, T A p ≤ 1000000000000000001) (hE : gE_atw T r n (gg_y G r) σ)
    (kk : ∀ e : Nat → Int64, (∀ i, i ≤ (gg_y G r).length → e (ge_at r i n) = lN (gc_E T ((gg_y G r).drop i) n)) → (∀ j, (∀ i, i ≤ (gg_y G r).length → j ≠ ge_at r i n) → e j = σ.2.2 3 j) → K (gs_L σ 3 e)) : C_Co_fillEndingsw (nI r) (nI n) σ K := by
  intro X35 h35
  have hG := h.1.1
  obtain ⟨hl8, hz, h24⟩ := h.1.2 r hr
  have gL : ∀ e, gr_at G (gs_L σ 3 e) := fun e => h.of rfl rfl rfl rfl
  have tL : ∀ e, gt_atw T (n + 1) (gs_L σ 3 e) := fun e => hT
  have inj : ∀ i i' p p', p ≤ 16 → p' ≤ 16 → ge_at r i p = ge_at r i' p' → i = i' ∧ p = p' := fun i i' p p' hp hp' e => by
    unfold ge_at at e
    omega
  have key : ∀ (c : Nat) (e : Nat → Int64), c ≤ (gg_y G r).length → (∀ i, c ≤ i → i ≤ (gg_y G r).length → e (ge_at r i n) = lN (gc_E T ((gg_y G r).drop i) n)) → (∀ j, (∀ i, i ≤ (gg_y G r).length → j ≠ ge_at r i n) → e j = σ.2.2 3 j) → X35 (nI r) (nI n) (nI c - 1) (gs_L σ 3 e) := by
    intro c
    induction c with
    | zero =>
      intro e hc he1 he2
      apply h35
      exact br_t (by decide) (kk e (fun i hi => he1 i (Nat.zero_le _) hi) he2)
    | succ c ih =>
      intro e hc he1 he2
      have hc' : c < (gg_y G r).length := by omega
      have h24c := h24 c hc'
      rw [nI_pred]
      -- what is stored, and the step
      have step : ∀ v : Int64, v = lN (gc_E T ((gg_y G r).drop c) n) → ∀ τ : gs_St, τ = gs_L (gs_L σ 3 e) 3 (vp_updL e (ge_at r c n) v) → X35 (nI r) (nI n) (nI c - 1) τ := by
        intro v hv τ hτ
        have e1 : τ = gs_L σ 3 (vp_updL e (ge_at r c n) v) := by rw [hτ, gs_LL]
        rw [e1]
        refine ih _ (by omega) (fun i hi hi2 => ?_) (fun j hj => ?_)
        · show (if ge_at r i n = ge_at r c n then v else e (ge_at r i n)) = _
          by_cases q : i = c
          · rw [q, if_pos rfl, hv]
          · rw [if_neg (fun z => q (inj i c n n hn hn z).1)]
            exact he1 i (by omega) hi2
        · show (if j = ge_at r c n then v else e j) = _
          rw [if_neg (hj c (by omega))]
          exact he2 j hj
      have old : ∀ i, i ≤ (gg_y G r).length → ∀ p, p < n → e (ge_at r i p) = lN (gc_E T ((gg_y G r).drop i) p) := fun i hi p hp => by
        rw [he2 _ (fun i' hi' z => by have := (inj i i' p n (by omega) hn z).2; omega)]
        exact hE i hi p hp
      have hdrop := gg_drop hc'
      have hat : nI ((r * 7 + c) * 17) + nI n = nI (ge_at r c n) := nI_add _ _
      have hlt : ge_at r c n < 2856 := by unfold ge_at; omega
      apply h35
      refine br_f (nI_pos (by omega)) ?_
      refine s_symbolAt (gL e) hr hc' ?_
      show C_Co_endingsAt (nI r) (nI c + 1) _ _
      rw [nI_1]
      show ∀ v13 : Int32, v13 = (nI r * (7 : Int32) + nI (c + 1)) * (17 : Int32) + nI n → _
      rw [ge_at_e]
      have hat1 : nI ((r * 7 + (c + 1)) * 17) + nI n = nI (ge_at r (c + 1) n) := nI_add _ _
      refine nm_r hat1 ?_
      refine s_isNtN (by omega) (fun q => ?_) (fun q => ?_)
      · refine br_f (by decide) ?_
        have e17 : nI ((gg_y G r).getD c 0) * (17 : Int32) = nI ((gg_y G r).getD c 0 * 17) := by rw [show (17 : Int32) = nI 17 from rfl, pk_mul]
        rw [e17]
        refine s_pairsw (T := T) (ys := (gg_y G r).drop (c + 1)) q (by omega) (by omega) hn (tL e) hTb (fun p hp => ?_) ?_
        · show e (ge_at r (c + 1) p) = _
          by_cases z : p = n
          · rw [z]
            exact he1 (c + 1) (by omega) (by omega)
          · exact old (c + 1) (by omega) p (by omega)
        · show vp_in ((nI r * (7 : Int32) + nI c) * (17 : Int32) + nI n) 2856 ∧ _
          rw [ge_at_e, hat]
          refine ⟨vp_in_nI hlt (by decide), ?_⟩
          rw [nI_clamp (by omega)]
          intro τ hτ
          rw [gv_m1]
          refine nm_e (step _ ?_ τ hτ)
          rw [hdrop, gc_E_nt q]
      · refine br_t rfl ?_
        refine ⟨fun hn0 => ?_, fun hn0 => ?_⟩
        · have hn0 : n = 0 := Classical.byContradiction (fun z => absurd hn0 (nI_nle (by omega) (by omega)))
          show vp_in ((nI r * (7 : Int32) + nI c) * (17 : Int32) + nI n) 2856 ∧ _
          rw [ge_at_e, hat]
          refine ⟨vp_in_nI hlt (by decide), ?_⟩
          rw [nI_clamp (by omega)]
          intro τ hτ
          rw [gv_m1]
          refine nm_e (step 0 ?_ τ hτ)
          rw [hdrop, gc_E_t (by omega), if_pos hn0]
          rfl
        · have hn0 : 0 < n := Classical.byContradiction (fun z => hn0 (by rw [show n = 0 by omega]; decide))
          have hm1 : nI (ge_at r (c + 1) n) - (1 : Int32) = nI (ge_at r (c + 1) (n - 1)) := by
            rw [show ge_at r (c + 1) n = ge_at r (c + 1) (n - 1) + 1 by unfold ge_at; omega, nI_pred]
          have hlt1 : ge_at r (c + 1) (n - 1) < 2856 := by unfold ge_at; omega
          rw [hm1]
          refine ⟨vp_in_nI hlt1 (by decide), ?_⟩
          rw [nI_clamp (by omega)]
          refine nm_e ?_
          show vp_in ((nI r * (7 : Int32) + nI c) * (17 : Int32) + nI n) 2856 ∧ _
          rw [ge_at_e, hat]
          refine ⟨vp_in_nI hlt (by decide), ?_⟩
          rw [nI_clamp (by omega)]
          intro τ hτ
          rw [gv_m1]
          refine nm_e (step _ ?_ τ hτ)
          show e (ge_at r (c + 1) (n - 1)) = _
          rw [old (c + 1) (by omega) (n - 1) (by omega), hdrop, gc_E_t (by omega), if_neg (by omega)]
  refine s_sizeOf h hr ?_
  show (¬ nI n = 0 → vp_in ((nI r * (7 : Int32) + nI (gg_y G r).length) * (17 : Int32) + nI n) 2856 ∧ _) ∧ (¬ (¬ nI n = 0) → vp_in ((nI r * (7 : Int32) + nI (gg_y G r).length) * (17 : Int32) + nI n) 2856 ∧ _)
  have hat : nI ((r * 7 + (gg_y G r).length) * 17) + nI n = nI (ge_at r (gg_y G r).length n) := nI_add _ _
  have hlt : ge_at r (gg_y G r).length n < 2856 := by unfold ge_at; omega
  have hdl : (gg_y G r).drop (gg_y G r).length = [] := List.drop_eq_nil_iff.mpr (Nat.le_refl _)
  have first : ∀ v : Int64, v = lN (if n = 0 then 1 else 0) → ∀ τ : gs_St, τ = gs_L σ 3 (vp_updL (σ.2.2 3) (ge_at r (gg_y G r).length n) v) → X35 (nI r) (nI n) (nI (gg_y G r).length - 1) τ := by
    intro v hv τ hτ
    rw [hτ]
    refine key (gg_y G r).length _ (Nat.le_refl _) (fun i hi hi2 => ?_) (fun j hj => ?_)
    · have hi : i = (gg_y G r).length := by omega
      subst hi
      show (if ge_at r (gg_y G r).length n = ge_at r (gg_y G r).length n then v else _) = _
      rw [if_pos rfl, hdl, hv]
      rfl
    · show (if j = ge_at r (gg_y G r).length n then v else σ.2.2 3 j) = _
      rw [if_neg (hj _ (Nat.le_refl _))]
  rw [ge_at_e, hat, nI_clamp (by omega)]
  refine ⟨fun hn0 => ⟨vp_in_nI hlt (by decide), fun τ hτ => nm_e (first 0 ?_ τ hτ)⟩, fun hn0 => ⟨vp_in_nI hlt (by decide), fun τ hτ => nm_e (first 1 ?_ τ hτ)⟩⟩
  · rw [if_neg (fun z => hn0 (by rw [z]; rfl))]
    rfl
  · have hn0 : n = 0 := Classical.byContradiction (fun z => hn0 (nI_ne0 (by omega) (by omega)))
    rw [if_pos hn0]
    rfl
theorem s_addTreesw {A n a b : Nat} {K : gs_St → Prop} (hA : A < 8) (hn : n ≤ 16) (ha : σ.2.2 2 (A * 17 + n) = lN a) (ha1 : a ≤ 1000000000000000001) (hb1 : b ≤ 1000000000000000001) (kk : ∀ τ : gs_St, τ = gs_L σ 2 (vp_updL (σ.2.2 2) (A * 17 + n) (lN (gc_cap (a + b)))) → K τ) : C_Co_addTreesw (nI A) (nI n) (lN b) σ K := by
  have hv : vp_in (nI (A * 17 + n)) 136 := vp_in_nI (by omega) (by decide)
  refine nm_r (gt_at_e A n) ⟨hv, ?_⟩
  rw [nI_clamp (by omega), ha]
  exact s_plus ha1 hb1 ⟨hv, kk⟩
theorem s_endingsOfw {r i n : Nat} {K : Int64 → gs_St → Prop} (hr : r < 24) (hi : i < 7) (hn : n ≤ 16) (k : K (σ.2.2 3 (ge_at r i n)) σ) : C_Co_endingsOfw (nI r) (nI i) (nI n) σ K := by
  show vp_in ((nI r * (7 : Int32) + nI i) * (17 : Int32) + nI n) 2856 ∧ K (σ.2.2 3 ((nI r * (7 : Int32) + nI i) * (17 : Int32) + nI n).toNatClampNeg) σ
  have hat : nI ((r * 7 + i) * 17) + nI n = nI (ge_at r i n) := nI_add _ _
  have hlt : ge_at r i n < 2856 := by unfold ge_at; omega
  rw [ge_at_e, hat, nI_clamp (by omega)]
  exact ⟨vp_in_nI hlt (by decide), k⟩
end L2Gw
/-! Layer 2, part hw: countLength, treesOf (instance without) -/
section L2Hw
variable {G : gg_R} {σ : gs_St} {D : Nat → Option Nat}
/-- counts are right below the length N -/
def cs_atw (G : gg_R) (D : Nat → Option Nat) (kp : Nat → Bool) (T : Nat → Nat → Nat) (N : Nat) (σ : gs_St) : Prop := (∀ A p, T A p ≤ 1000000000000000001) ∧ gt_atw T N σ ∧ gc_okk (fun y => D y = some 0) G kp T N ∧ ∀ r, r < G.length → kp r = true → gE_atw T r N (gg_y G r) σ
theorem s_countLengthw {o : Nat → Nat} {kp : Nat → Bool} {T : Nat → Nat → Nat} {n : Nat} {K : gs_St → Prop} (h : gr_at G σ) (ho : gg_ord (gg_to G D) o 8) (hof : ∀ j, j < 8 → σ.2.1 7 j = nI (o j)) (hcl : gg_cl G D) (hn : n ≤ 16) (hkp : ∀ r, r < G.length → (kp r = true ↔ nI r ≠ σ.1 6)) (hc : cs_atw G D kp T n σ)
    (kk : ∀ (T' : Nat → Nat → Nat) (t e : Nat → Int64), cs_atw G D kp T' (n + 1) (gs_L (gs_L σ 2 t) 3 e) → K (gs_L (gs_L σ 2 t) 3 e)) : C_Co_countLengthw (nI n) σ K := by
  intro X2 X28 X46 X115 h2 h28 h46 h115
  have hG := h.1.1
  obtain ⟨hTb, hTt, hTk, hTE⟩ := hc
  have gS : ∀ t e, gr_at G (gs_L (gs_L σ 2 t) 3 e) := fun t e => h.of rfl rfl rfl rfl
  have inj : ∀ A A' p p', p ≤ 16 → p' ≤ 16 → A * 17 + p = A' * 17 + p' → A = A' ∧ p = p' := fun A A' p p' hp hp' e => by omega
  have gin : ∀ r r' i i' p p', i ≤ 6 → i' ≤ 6 → p ≤ 16 → p' ≤ 16 → ge_at r i p = ge_at r' i' p' → r = r' ∧ i = i' ∧ p = p' := fun r r' i i' p p' hi hi' hp hp' e => by
    unfold ge_at at e
    omega
  have lead : ∀ j, j < 8 → ∀ x, x < 8 → gg_to G D (o j) x → ∃ i, i < j ∧ o i = x := fun j hj x hx hl => ho.2.2 j hj x hx hl
  -- the endings anew
  have ph3 : ∀ (m r : Nat) (Tc : Nat → Nat → Nat) (t e : Nat → Int64), r + m = G.length → (∀ A p, Tc A p ≤ 1000000000000000001) → gt_atw Tc (n + 1) (gs_L (gs_L σ 2 t) 3 e) → gc_okk (fun y => D y = some 0) G kp Tc (n + 1) → (∀ q, q < G.length → kp q = true → gE_atw Tc q n (gg_y G q) (gs_L (gs_L σ 2 t) 3 e)) → (∀ q, q < r → kp q = true → gE_atw Tc q (n + 1) (gg_y G q) (gs_L (gs_L σ 2 t) 3 e)) → X115 (nI n) (nI r) (gs_L (gs_L σ 2 t) 3 e) := by
    intro m
    induction m with
    | zero =>
      intro r Tc t e hr hb ht hk hE hE1
      have hr : r = G.length := hr
      subst hr
      apply h115
      exact pk_le G.length G.length (fun _ => kk Tc t e ⟨hb, ht, hk, hE1⟩) (fun q => absurd q (by omega)) h.2.1
    | succ m ih =>
      intro r Tc t e hr hb ht hk hE hE1
      have hr' : r < G.length := by omega
      obtain ⟨hl8, hz, h24⟩ := h.1.2 r hr'
      apply h115
      refine pk_le G.length r (fun q => absurd q (by omega)) (fun _ => ?_) h.2.1
      refine ⟨fun hx => nm_r (nI_1 r) (ih (r + 1) Tc t e (by omega) hb ht hk hE (fun q hq hkq => ?_)), fun hx => ?_⟩
      · by_cases eq : q = r
        · subst eq
          exact absurd hx ((hkp q hr').mp hkq)
        · exact hE1 q (by omega) hkq
      · have hkr : kp r = true := (hkp r hr').mpr hx
        refine s_fillEndingsw (T := Tc) (gS t e) hr' hn ht hb (hE r hr' hkr) (fun e2 he1 he2 => ?_)
        rw [gs_LL]
        have old : ∀ q, q < G.length → q ≠ r → ∀ i, i ≤ (gg_y G q).length → ∀ p, p ≤ 16 → e2 (ge_at q i p) = e (ge_at q i p) := fun q hq hne i hi p hp => by
          have hzq := (h.1.2 q hq).2.1
          exact he2 _ (fun i' hi' z => hne (gin q r i i' p n (by omega) (by omega) hp hn z).1)
        have oldr : ∀ i, i ≤ (gg_y G r).length → ∀ p, p < n → e2 (ge_at r i p) = e (ge_at r i p) := fun i hi p hp =>
          he2 _ (fun i' hi' z => by have := (gin r r i i' p n (by omega) (by omega) (by omega) hn z).2.2; omega)
        refine nm_r (nI_1 r) (ih (r + 1) Tc t e2 (by omega) hb ht hk (fun q hq hkq i hi p hp => ?_) (fun q hq hkq i hi p hp => ?_))
        · show e2 (ge_at q i p) = _
          by_cases eq : q = r
          · subst eq
            rw [oldr i hi p hp]
            exact hE q hq hkq i hi p hp
          · rw [old q hq eq i hi p (by omega)]
            exact hE q hq hkq i hi p hp
        · show e2 (ge_at q i p) = _
          by_cases eq : q = r
          · subst eq
            by_cases ep : p = n
            · subst ep
              exact he1 i hi
            · rw [oldr i hi p (by omega)]
              exact hE q hr' hkq i hi p (by omega)
          · rw [old q (by omega) eq i hi p (by omega)]
            exact hE1 q (by omega) hkq i hi p hp
  -- the nonterminals in their order
  have ph2 : ∀ (m j : Nat) (Tc : Nat → Nat → Nat) (t e : Nat → Int64), j + m = 8 → (∀ A p, Tc A p ≤ 1000000000000000001) → gt_atw Tc (n + 1) (gs_L (gs_L σ 2 t) 3 e) → (∀ A p, p < n → Tc A p = T A p) → (∀ i, i < j → Tc (o i) n = gc_cap (gc_pt Tc G kp (o i) n G.length)) → (∀ i, j ≤ i → i < 8 → Tc (o i) n = 0) → (∀ x, x < 8 → ¬ D x = some 0 → Tc x 0 = 0) → (∀ q, q < G.length → kp q = true → gE_atw Tc q n (gg_y G q) (gs_L (gs_L σ 2 t) 3 e)) → X28 (nI n) (nI j) (gs_L (gs_L σ 2 t) 3 e) := by
    intro m
    induction m with
    | zero =>
      intro j Tc t e hj hb ht hT hd h0 hem hE
      have hj : j = 8 := hj
      subst hj
      apply h28
      refine br_t (by decide) (ph3 G.length 0 Tc t e (by omega) hb ht ⟨fun A p hA hp => ?_, fun A hA he _ => hem A hA he⟩ hE (fun q hq => absurd hq (Nat.not_lt_zero _)))
      by_cases ep : p = n
      · subst ep
        obtain ⟨i, hi, ei⟩ := gg_ord_all ho (Nat.le_refl 8) A hA
        rw [← ei]
        exact hd i hi
      · rw [hT A p (by omega), hTk.1 A p hA (by omega)]
        exact congrArg gc_cap (gc_pt_upto (fun x q _ hq => (hT x q (by omega)).symm) _)
    | succ m ih =>
      intro j Tc t e hj hb ht hT hd h0 hem hE
      have hj8 : j < 8 := by omega
      have hA8 : o j < 8 := ho.1 j hj8
      apply h28
      refine pk_le 8 j (fun q => absurd q (by omega)) (fun _ => ⟨vp_in_nI hj8 (by decide), ?_⟩)
      rw [nI_clamp (by omega)]
      have eo : (gs_L (gs_L σ 2 t) 3 e).2.1 7 j = nI (o j) := hof j hj8
      rw [eo]
      have noself : ∀ x, x < 8 → gg_to G D (o j) x → x ≠ o j := fun x hx hl z => by
        obtain ⟨i, h1, h2⟩ := lead j hj8 x hx hl
        rw [z] at h2
        exact ho.2.1 i j h1 hj8 h2
      have same : ∀ r, r < G.length → gg_l G r = o j → ∀ q, q ≤ G.length → gc_E (gc_tr Tc G kp (o j) n q) (gg_y G r) n = gc_E Tc (gg_y G r) n := fun r hr hl q hq =>
        gc_E_same (D := D) h.1 hr hl (fun x p _ hp => gc_tr_lt (by omega)) (fun x hx he => ⟨gc_tr_em hcl hem hq x hx he, hem x hx he⟩) (fun x hx hto => gc_tr_ne (noself x hx hto))
      have inner : ∀ (m2 r : Nat) (t e : Nat → Int64), r + m2 = G.length → gt_atw (gc_tr Tc G kp (o j) n r) (n + 1) (gs_L (gs_L σ 2 t) 3 e) → (∀ q, q < G.length → kp q = true → gE_atw Tc q n (gg_y G q) (gs_L (gs_L σ 2 t) 3 e)) → X46 (nI n) (nI j) (nI (o j)) (nI r) (gs_L (gs_L σ 2 t) 3 e) := by
        intro m2
        induction m2 with
        | zero =>
          intro r t e hr ht hE
          have hr : r = G.length := hr
          subst hr
          apply h46
          refine pk_le G.length G.length (fun _ => nm_r (nI_1 j) ?_) (fun q => absurd q (by omega)) h.2.1
          refine ih (j + 1) (gc_tr Tc G kp (o j) n G.length) t e (by omega) (fun A p => ?_) ht (fun A p hp => ?_) (fun i hi => ?_) (fun i hi hi8 => ?_) (gc_tr_em hcl hem (Nat.le_refl _)) (fun q hq hkq i hi p hp => ?_)
          · unfold gc_tr
            split
            · exact gc_cap_le _
            · exact hb A p
          · rw [gc_tr_lt (by omega)]
            exact hT A p hp
          · have keep : gc_pt (gc_tr Tc G kp (o j) n G.length) G kp (o i) n G.length = gc_pt Tc G kp (o i) n G.length :=
              gc_pt_same (T := gc_tr Tc G kp (o j) n G.length) (T' := Tc) (D := D) (n := n) h.1 (fun x p _ hp => gc_tr_lt (by omega)) (fun x hx he => ⟨gc_tr_em hcl hem (Nat.le_refl _) x hx he, hem x hx he⟩) (fun x hx hto => gc_tr_ne (fun z => by
                obtain ⟨i', h1, h2⟩ := lead i (by omega) x hx hto
                rw [z] at h2
                exact ho.2.1 i' j (by omega) hj8 h2)) _ (Nat.le_refl _)
            rw [keep]
            by_cases ei : i = j
            · subst ei
              exact gc_tr_eq
            · rw [gc_tr_ne (fun z => ho.2.1 i j (by omega) hj8 z)]
              exact hd i (by omega)
          · rw [gc_tr_ne (fun z => ho.2.1 j i (by omega) hi8 z.symm)]
            exact h0 i (by omega) hi8
          · rw [hE q hq hkq i hi p hp]
            exact congrArg lN (gc_E_upto _ p (fun x p' _ hp' => (gc_tr_lt (by omega)).symm))
        | succ m2 ihm =>
          intro r t e hr ht hE
          have hr' : r < G.length := by omega
          obtain ⟨hl8, hz, h24⟩ := h.1.2 r hr'
          -- a rule that doesn't count
          have pass : ¬ (kp r = true ∧ gg_l G r = o j) → X46 (nI n) (nI j) (nI (o j)) (nI (r + 1)) (gs_L (gs_L σ 2 t) 3 e) := fun hno => ihm (r + 1) t e (by omega) (fun A hA p hp => by
            rw [ht A hA p hp]
            congr 1
            unfold gc_tr
            split
            · show gc_cap (gc_pt Tc G kp (o j) n r) = gc_cap (gc_pt Tc G kp (o j) n r + (if kp r = true ∧ gg_l G r = o j then gc_E Tc (gg_y G r) n else 0))
              rw [if_neg hno, Nat.add_zero]
            · rfl) hE
          apply h46
          refine pk_le G.length r (fun q => absurd q (by omega)) (fun _ => ?_) h.2.1
          refine ⟨fun hx => nm_r (nI_1 r) (pass (fun q => absurd hx ((hkp r hr').mp q.1))), fun hx => ?_⟩
          have hkr : kp r = true := (hkp r hr').mpr hx
          refine s_leftOf (gS t e) hr' ?_
          refine ek_if (not_congr (nI_eq (by omega) (by omega))) (fun hne => nm_r (nI_1 r) (pass (fun q => hne q.2))) (fun hne => ?_)
          have hl : gg_l G r = o j := Classical.byContradiction hne
          refine s_fillEndingsw (T := gc_tr Tc G kp (o j) n r) (gS t e) hr' hn ht (fun A p => ?_) (fun i hi p hp => ?_) (fun e2 he1 he2 => ?_)
          · unfold gc_tr
            split
            · exact gc_cap_le _
            · exact hb A p
          · rw [hE r hr' hkr i hi p hp]
            exact congrArg lN (gc_E_upto _ p (fun x p' _ hp' => (gc_tr_lt (by omega)).symm))
          · rw [gs_LL]
            refine s_endingsOfw (i := 0) (by omega) (by decide) hn ?_
            have e0 : (gs_L (gs_L σ 2 t) 3 e2).2.2 3 (ge_at r 0 n) = lN (gc_E Tc (gg_y G r) n) := by
              show e2 (ge_at r 0 n) = _
              rw [he1 0 (Nat.zero_le _), ← same r hr' hl r (by omega)]
              rfl
            rw [e0]
            have ea : (gs_L (gs_L σ 2 t) 3 e2).2.2 2 (o j * 17 + n) = lN (gc_cap (gc_pt Tc G kp (o j) n r)) := by
              have := ht (o j) hA8 n (by omega)
              rw [gc_tr_eq] at this
              exact this
            refine s_addTreesw hA8 hn ea (gc_cap_le _) (gc_E_le _ _ _) (fun τ hτ => ?_)
            rw [gs_LLL σ 2 3 (by decide)] at hτ
            rw [hτ]
            refine nm_r (nI_1 r) (ihm (r + 1) _ e2 (by omega) (fun A hA p hp => ?_) (fun q hq hkq i hi p hp => ?_))
            · show (if A * 17 + p = o j * 17 + n then lN (gc_cap (gc_cap (gc_pt Tc G kp (o j) n r) + gc_E Tc (gg_y G r) n)) else t (A * 17 + p)) = lN (gc_tr Tc G kp (o j) n (r + 1) A p)
              have hold := ht A hA p hp
              have hold : t (A * 17 + p) = lN (gc_tr Tc G kp (o j) n r A p) := hold
              rw [hold]
              unfold gc_tr
              by_cases q : A = o j ∧ p = n
              · obtain ⟨q1, q2⟩ := q
                subst q2
                rw [if_pos (by rw [q1]), if_pos ⟨q1, rfl⟩, gc_cap_add]
                show lN (gc_cap (gc_pt Tc G kp (o j) p r + gc_E Tc (gg_y G r) p)) = lN (gc_cap (gc_pt Tc G kp (o j) p r + (if kp r = true ∧ gg_l G r = o j then gc_E Tc (gg_y G r) p else 0)))
                rw [if_pos ⟨hkr, hl⟩]
              · rw [if_neg (fun z => q (inj A (o j) p n (by omega) hn z)), if_neg q, if_neg q]
            · show e2 (ge_at q i p) = _
              have hzq := (h.1.2 q hq).2.1
              rw [he2 _ (fun i' hi' z => by have := (gin q r i i' p n (by omega) (by omega) (by omega) hn z).2.2; omega)]
              exact hE q hq hkq i hi p hp
      refine inner G.length 0 t e (by omega) (fun A hA p hp => ?_) hE
      rw [ht A hA p hp]
      congr 1
      unfold gc_tr
      split
      · rename_i q
        rw [q.1, q.2, h0 j (Nat.le_refl _) hj8]
        rfl
      · rfl
  -- nought at first
  have ph1 : ∀ (m A : Nat) (t : Nat → Int64), A + m = 8 → (∀ B, B < A → t (B * 17 + n) = 0) → (∀ B p, p < n → t (B * 17 + p) = σ.2.2 2 (B * 17 + p)) → X2 (nI n) (nI A) (gs_L σ 2 t) := by
    intro m
    induction m with
    | zero =>
      intro A t hA h0 ht
      have hA : A = 8 := hA
      subst hA
      apply h2
      refine br_t (by decide) ?_
      have es : gs_L σ 2 t = gs_L (gs_L σ 2 t) 3 (σ.2.2 3) := (gs_Lid (gs_L σ 2 t) 3).symm
      rw [es]
      refine ph2 8 0 (fun A p => if p = n then 0 else T A p) t (σ.2.2 3) rfl (fun A p => ?_) (fun A hA p hp => ?_) (fun A p hp => if_neg (by omega)) (fun i hi => absurd hi (Nat.not_lt_zero _)) (fun i _ hi => if_pos rfl) (fun x hx he => ?_) (fun q hq hkq i hi p hp => ?_)
      · show (if p = n then 0 else T A p) ≤ _
        split
        · omega
        · exact hTb A p
      · show t (A * 17 + p) = lN (if p = n then 0 else T A p)
        split
        · rename_i q
          rw [q, h0 A hA]
          rfl
        · rw [ht A p (by omega)]
          exact hTt A hA p (by omega)
      · show (if 0 = n then 0 else T x 0) = 0
        split
        · rfl
        · exact hTk.2 x hx he (by omega)
      · show σ.2.2 3 (ge_at q i p) = _
        rw [hTE q hq hkq i hi p hp]
        exact congrArg lN (gc_E_upto _ p (fun x p' _ hp' => (if_neg (by omega)).symm))
    | succ m ih =>
      intro A t hA h0 ht
      apply h2
      refine pk_le 8 A (fun q => absurd q (by omega)) (fun _ => ?_)
      rw [gt_at_e]
      refine ⟨vp_in_nI (by omega) (by decide), ?_⟩
      rw [nI_clamp (by omega)]
      intro τ hτ
      have e : τ = gs_L σ 2 (vp_updL t (A * 17 + n) 0) := by
        rw [hτ, gs_LL]
        rfl
      rw [e]
      refine nm_r (nI_1 A) (ih (A + 1) _ (by omega) (fun B hB => ?_) (fun B p hp => ?_))
      · show (if B * 17 + n = A * 17 + n then (0 : Int64) else t (B * 17 + n)) = 0
        split
        · rfl
        · rename_i q
          exact h0 B (by omega)
      · show (if B * 17 + p = A * 17 + n then (0 : Int64) else t (B * 17 + p)) = _
        rw [if_neg (by omega)]
        exact ht B p hp
  have := ph1 8 0 (σ.2.2 2) rfl (fun B hB => absurd hB (Nat.not_lt_zero _)) (fun B p _ => rfl)
  rw [gs_Lid] at this
  exact this
/-- counts up to N, N in its field -/
theorem s_treesOfw {o : Nat → Nat} {kp : Nat → Bool} {T : Nat → Nat → Nat} {N A n : Nat} {K : Int64 → gs_St → Prop} (h : gr_at G σ) (ho : gg_ord (gg_to G D) o 8) (hof : ∀ j, j < 8 → σ.2.1 7 j = nI (o j)) (hcl : gg_cl G D) (hA : A < 8) (hn : n ≤ 16) (hN : N ≤ 17) (hcn : σ.1 7 = nI N) (hkp : ∀ r, r < G.length → (kp r = true ↔ nI r ≠ σ.1 6)) (hc : cs_atw G D kp T N σ)
    (kk : ∀ (T' : Nat → Nat → Nat) (N' : Nat) (t e : Nat → Int64), N ≤ N' → n < N' → N' ≤ 17 → cs_atw G D kp T' N' (gs_I (gs_L (gs_L σ 2 t) 3 e) 7 (nI N')) → K (lN (T' A n)) (gs_I (gs_L (gs_L σ 2 t) 3 e) 7 (nI N'))) : C_Co_treesOfw (nI A) (nI n) σ K := by
  intro X5 h5
  have idI : ∀ τ : gs_St, ∀ v, τ.1 7 = v → gs_I τ 7 v = τ := fun τ v hv => by
    refine Prod.ext (funext fun j => ?_) rfl
    show (if j = 7 then v else τ.1 j) = τ.1 j
    split
    · rename_i q
      rw [q, hv]
    · rfl
  have key : ∀ (m N' : Nat) (T' : Nat → Nat → Nat) (t e : Nat → Int64), n + 1 - N' = m → N ≤ N' → N' ≤ 17 → cs_atw G D kp T' N' (gs_I (gs_L (gs_L σ 2 t) 3 e) 7 (nI N')) → X5 (nI A) (nI n) (nI N') (gs_I (gs_L (gs_L σ 2 t) 3 e) 7 (nI N')) := by
    intro m
    induction m with
    | zero =>
      intro N' T' t e hm h1 h2 hcs
      apply h5
      refine pk_lt n N' (fun q => ?_) (fun q => absurd q (by omega))
      rw [gt_at_e]
      refine ⟨vp_in_nI (by omega) (by decide), ?_⟩
      rw [nI_clamp (by omega), hcs.2.1 A hA n q]
      exact kk T' N' t e h1 q h2 hcs
    | succ m ih =>
      intro N' T' t e hm h1 h2 hcs
      apply h5
      refine pk_lt n N' (fun q => absurd q (by omega)) (fun q => ?_)
      refine s_countLengthw (G := G) (D := D) (o := o) (kp := kp) (T := T') (σ := gs_I (gs_L (gs_L σ 2 t) 3 e) 7 (nI N')) (h.of rfl rfl rfl rfl) ho hof hcl (by omega) hkp hcs (fun T2 t2 e2 hc2 => ?_)
      intro τ hτ
      have e1 : τ = gs_I (gs_L (gs_L σ 2 t2) 3 e2) 7 (nI (N' + 1)) := by
        rw [hτ]
        refine Prod.ext (funext fun j => ?_) (Prod.ext rfl (funext fun j => ?_))
        · show (if j = 7 then nI N' + 1 else (if j = 7 then nI N' else σ.1 j)) = (if j = 7 then nI (N' + 1) else σ.1 j)
          split
          · exact nI_1 N'
          · rfl
        · show (if j = 3 then e2 else (if j = 2 then t2 else (if j = 3 then e else (if j = 2 then t else σ.2.2 j)))) = (if j = 3 then e2 else (if j = 2 then t2 else σ.2.2 j))
          by_cases q1 : j = 3
          · simp only [if_pos q1]
          · by_cases q2 : j = 2
            · simp only [if_neg q1, if_pos q2]
            · simp only [if_neg q1, if_neg q2]
      rw [e1]
      exact nm_r (nI_1 N') (ih (N' + 1) T2 t2 e2 (by omega) (by omega) (by omega) hc2)
  rw [show (∀ v1 : Int32, v1 = σ.1 7 → X5 (nI A) (nI n) v1 σ) ↔ X5 (nI A) (nI n) (nI N) σ from ⟨fun z => z _ hcn.symm, fun z v hv => by rw [hv, hcn]; exact z⟩]
  have es : gs_I (gs_L (gs_L σ 2 (σ.2.2 2)) 3 ((gs_L σ 2 (σ.2.2 2)).2.2 3)) 7 (nI N) = σ := by rw [gs_Lid, gs_Lid, idI σ _ hcn]
  have := key (n + 1 - N) N T (σ.2.2 2) ((gs_L σ 2 (σ.2.2 2)).2.2 3) rfl (Nat.le_refl _) hN (by rw [es]; exact hc)
  rw [es] at this
  exact this
end L2Hw
