/-! Layer 2 of the reference, part b: rule and drop. -/
def mk3 (σ : gs_St) (g0 g1 g2 : Nat → Int32) : gs_St := (σ.1, fun j => if j = 0 then g0 else if j = 1 then g1 else if j = 2 then g2 else σ.2.1 j, σ.2.2)
theorem mk3_0 (σ : gs_St) (g0 g1 g2 g : Nat → Int32) : gs_A (mk3 σ g0 g1 g2) 0 g = mk3 σ g g1 g2 := by
  refine Prod.ext rfl (Prod.ext (funext fun j => ?_) rfl)
  show (if j = 0 then g else (if j = 0 then g0 else if j = 1 then g1 else if j = 2 then g2 else σ.2.1 j)) = (if j = 0 then g else if j = 1 then g1 else if j = 2 then g2 else σ.2.1 j)
  by_cases h : j = 0
  · simp only [if_pos h]
  · simp only [if_neg h]
theorem mk3_1 (σ : gs_St) (g0 g1 g2 g : Nat → Int32) : gs_A (mk3 σ g0 g1 g2) 1 g = mk3 σ g0 g g2 := by
  refine Prod.ext rfl (Prod.ext (funext fun j => ?_) rfl)
  show (if j = 1 then g else (if j = 0 then g0 else if j = 1 then g1 else if j = 2 then g2 else σ.2.1 j)) = (if j = 0 then g0 else if j = 1 then g else if j = 2 then g2 else σ.2.1 j)
  by_cases h : j = 1
  · simp only [if_pos h, if_neg (show ¬ j = 0 by omega)]
  · simp only [if_neg h]
theorem mk3_2 (σ : gs_St) (g0 g1 g2 g : Nat → Int32) : gs_A (mk3 σ g0 g1 g2) 2 g = mk3 σ g0 g1 g := by
  refine Prod.ext rfl (Prod.ext (funext fun j => ?_) rfl)
  show (if j = 2 then g else (if j = 0 then g0 else if j = 1 then g1 else if j = 2 then g2 else σ.2.1 j)) = (if j = 0 then g0 else if j = 1 then g1 else if j = 2 then g else σ.2.1 j)
  by_cases h : j = 2
  · simp only [if_pos h, if_neg (show ¬ j = 0 by omega), if_neg (show ¬ j = 1 by omega)]
  · simp only [if_neg h]
theorem mk3_id (σ : gs_St) : mk3 σ (σ.2.1 0) (σ.2.1 1) (σ.2.1 2) = σ := by
  refine Prod.ext rfl (Prod.ext (funext fun j => ?_) rfl)
  show (if j = 0 then σ.2.1 0 else if j = 1 then σ.2.1 1 else if j = 2 then σ.2.1 2 else σ.2.1 j) = σ.2.1 j
  by_cases h : j = 0
  · rw [if_pos h, h]
  · by_cases h1 : j = 1
    · rw [if_neg h, if_pos h1, h1]
    · by_cases h2 : j = 2
      · rw [if_neg h, if_neg h1, if_pos h2, h2]
      · rw [if_neg h, if_neg h1, if_neg h2]
section M2B
variable {G : gg_R} {σ : gs_St} {t : List Nat} {l : List Int32} {d v : List Nat}
theorem n_rule {x : Int32} {K : Int32 → gs_St → Prop} (h : ml_at t G l d v σ)
    (k0 : ((∀ j, j < 8 → x ≠ nI j) ∨ G.length = 24) → ∀ τ, ml_at [] G l d v τ → K (-1) τ)
    (k1 : ∀ j, j < 8 → x = nI j → G.length < 24 → ∀ τ, ml_at [] (G ++ [(j, t)]) l d v τ → K (nI G.length) τ) : C_Mo_rule x σ K := by
  intro X50 h50
  obtain ⟨⟨ht6, ht24, ht0, hti⟩, hg, hl, hd, hst⟩ := h
  have hG := hg.1.1
  have hg0 := hg.2.1
  refine nm_r ht0 ?_
  intro σ2 e2
  have g2 : σ2.1 0 = nI G.length := by rw [e2]; exact hg0
  have hc2 : ml_at [] G l d v σ2 := by
    rw [e2]
    exact ⟨⟨by decide, fun i hi => absurd hi (Nat.not_lt_zero _), rfl, fun i hi => absurd hi (Nat.not_lt_zero _)⟩, hg.of rfl rfl rfl rfl, hl.of rfl rfl, hd.of rfl rfl rfl rfl, hst.elim Or.inl (fun z => Or.inr ⟨z.1, z.2.of rfl rfl⟩)⟩
  rw [g2]
  refine ek_if (nI_eq (a := G.length) (b := 24) (by omega) (by decide)) (fun q => k0 (Or.inr q) σ2 hc2) (fun q => ?_)
  have q : G.length < 24 := by omega
  refine n_isNt (fun j hj ex => ?_) (fun hno => br_f (fun z => z rfl) (k0 (Or.inl hno) σ2 hc2))
  subst ex
  refine br_t (by decide) ?_
  rw [g2]
  refine ⟨vp_in_nI q (by decide), ?_⟩
  rw [nI_clamp (by omega)]
  intro σ5 e5
  have g5 : σ5.1 0 = nI G.length := by rw [e5]; exact g2
  rw [g5]
  refine ⟨vp_in_nI q (by decide), ?_⟩
  rw [nI_clamp (by omega)]
  intro σ6 e6
  have g6 : σ6.1 0 = nI G.length := by rw [e6]; exact g5
  have key : ∀ (n i : Nat) (f : Nat → Int32), i + n = t.length → (∀ j, f j = if G.length * 6 ≤ j ∧ j < G.length * 6 + i then σ.2.1 3 (j - G.length * 6) else σ.2.1 2 j) → X50 (nI t.length) (nI i) (gs_A σ6 2 f) := by
    intro n
    induction n with
    | zero =>
      intro i f hi hf
      have hi : i = t.length := hi
      subst hi
      apply h50
      refine pk_le t.length t.length (fun _ => ?_) (fun z => absurd z (by omega))
      intro σ7 e7 σ8 e8
      have g8 : σ8.1 0 = nI (G.length + 1) := by
        rw [e8, e7]
        show σ6.1 0 + 1 = _
        rw [g6, nI_1]
      rw [g8, nI_pred]
      have f0 : σ8.2.1 0 = upd (σ.2.1 0) G.length (nI j) := by rw [e8, e7, e6, e5, e2]; rfl
      have f1 : σ8.2.1 1 = upd (σ.2.1 1) G.length (nI t.length) := by rw [e8, e7, e6, e5, e2]; rfl
      have f2 : σ8.2.1 2 = f := by rw [e8, e7]; rfl
      refine k1 j hj rfl q σ8 ⟨⟨by decide, fun i hi => absurd hi (Nat.not_lt_zero _), ?_, fun i hi => absurd hi (Nat.not_lt_zero _)⟩, ⟨gg_ok_app hg.1 q hj ht6 ht24, ?_, fun r hr => ?_⟩, ?_, ?_, Or.inl ?_⟩
      · rw [e8, e7, e6, e5, e2]; rfl
      · rw [List.length_append]
        exact g8
      · rw [List.length_append] at hr
        have hr : r < G.length + 1 := hr
        rw [f0, f1, f2]
        by_cases e : r = G.length
        · subst e
          rw [gg_l_end, gg_y_end]
          refine ⟨pk_us, pk_us, fun i hi => ?_⟩
          have hi : i < t.length := hi
          rw [hf, if_pos ⟨by omega, by omega⟩, show G.length * 6 + i - G.length * 6 = i by omega]
          exact hti i hi
        · have hr' : r < G.length := by omega
          rw [gg_l_app hr', gg_y_app hr', pk_un e, pk_un e]
          obtain ⟨b1, b2, b3⟩ := hg.2.2 r hr'
          have hz := (hg.1.2 r hr').2.1
          refine ⟨b1, b2, fun i hi => ?_⟩
          rw [hf, if_neg (by omega)]
          exact b3 i hi
      · exact hl.of (by rw [e8, e7, e6, e5, e2]; rfl) (by rw [e8, e7, e6, e5, e2]; rfl)
      · exact hd.of (by rw [e8, e7, e6, e5, e2]; rfl) (by rw [e8, e7, e6, e5, e2]; rfl) (by rw [e8, e7, e6, e5, e2]; rfl) (by rw [e8, e7, e6, e5, e2]; rfl)
      · rw [e8]; rfl
    | succ n ih =>
      intro i f hi hf
      apply h50
      refine pk_le t.length i (fun z => absurd z (by omega)) (fun _ => ?_)
      have e0 : (gs_A σ6 2 f).1 0 = nI G.length := g6
      have e3 : (gs_A σ6 2 f).2.1 3 = σ.2.1 3 := by rw [e6, e5, e2]; rfl
      rw [e0, e3, n_six, nI_clamp (by omega), nI_clamp (by omega)]
      refine ⟨vp_in_nI (by omega) (by decide), vp_in_nI (by omega) (by decide), ?_⟩
      intro τ hτ
      have e : τ = gs_A σ6 2 (upd f (G.length * 6 + i) (σ.2.1 3 i)) := by
        rw [hτ, gs_AA]
        rfl
      rw [e]
      refine nm_r (nI_1 i) (ih (i + 1) _ (by omega) (fun j => ?_))
      show (if j = G.length * 6 + i then σ.2.1 3 i else f j) = _
      by_cases z : j = G.length * 6 + i
      · rw [if_pos z, if_pos (by omega), show j - G.length * 6 = i by omega]
      · rw [if_neg z, hf j]
        by_cases y : G.length * 6 ≤ j ∧ j < G.length * 6 + i
        · rw [if_pos y, if_pos (by omega)]
        · rw [if_neg y, if_neg (by omega)]
  have := key t.length 0 (σ6.2.1 2) (by omega) (fun j => by rw [if_neg (by omega), e6, e5, e2]; rfl)
  rw [gs_Aid] at this
  exact this
theorem n_drop {x : Int32} {K : Int32 → gs_St → Prop} (h : ml_at t G l d v σ)
    (k0 : (∀ r, r < G.length → x ≠ nI r) → K 0 σ)
    (k1 : ∀ r, r < G.length → x = nI r → ∀ τ, ml_at t (G.eraseIdx r) l d v τ → K 1 τ) : C_Mo_drop x σ K := by
  intro X22 X60 h22 h60
  obtain ⟨ht, hg, hl, hd, hst⟩ := h
  have hG := hg.1.1
  refine n_isRule hg (fun k hk ex => ?_) (fun hno => br_f (fun z => z rfl) (k0 hno))
  subst ex
  refine br_t (by decide) ?_
  intro σ3 e3
  have g0 : σ3.1 0 = nI (G.length - 1) := by
    rw [e3]
    show σ.1 0 - 1 = _
    rw [hg.2.1, show G.length = (G.length - 1) + 1 by omega, nI_pred]
    congr 1
  -- r: the place that is filled next
  have key : ∀ (n r : Nat) (a b c : Nat → Int32), r + n = G.length - 1 → k ≤ r → (∀ q, a q = if k ≤ q ∧ q < r then σ.2.1 0 (q + 1) else σ.2.1 0 q) → (∀ q, b q = if k ≤ q ∧ q < r then σ.2.1 1 (q + 1) else σ.2.1 1 q) → (∀ q, c q = if k * 6 ≤ q ∧ q < r * 6 then σ.2.1 2 (q + 6) else σ.2.1 2 q) → X22 (nI r) (mk3 σ3 a b c) := by
    intro n
    induction n with
    | zero =>
      intro r a b c hr hkr ha hb hc
      have hr : r = G.length - 1 := hr
      apply h22
      refine pk_le (G.length - 1) r (fun _ => ?_) (fun z => absurd z (by omega)) g0
      intro σ4 e4
      have f0 : σ4.2.1 0 = a := by rw [e4]; rfl
      have f1 : σ4.2.1 1 = b := by rw [e4]; rfl
      have f2 : σ4.2.1 2 = c := by rw [e4]; rfl
      refine k1 k hk rfl σ4 ⟨ht.of (by rw [e4, e3]; rfl) (by rw [e4, e3]; rfl), ⟨gg_ok_er hg.1 hk, ?_, fun q hq => ?_⟩, hl.of (by rw [e4, e3]; rfl) (by rw [e4, e3]; rfl), hd.of (by rw [e4, e3]; rfl) (by rw [e4, e3]; rfl) (by rw [e4, e3]; rfl) (by rw [e4, e3]; rfl), Or.inl (by rw [e4]; rfl)⟩
      · rw [gg_er_n hk, e4]
        exact g0
      · rw [gg_er_n hk] at hq
        rw [f0, f1, f2, gg_er_l, gg_er_y]
        have hq' : (if q < k then q else q + 1) < G.length := by split <;> omega
        obtain ⟨b1, b2, b3⟩ := hg.2.2 _ hq'
        have hz := (hg.1.2 _ hq').2.1
        by_cases z : q < k
        · rw [if_pos z] at b1 b2 b3 hz ⊢
          refine ⟨?_, ?_, fun i hi => ?_⟩
          · rw [ha, if_neg (by omega)]; exact b1
          · rw [hb, if_neg (by omega)]; exact b2
          · rw [hc, if_neg (by omega)]; exact b3 i hi
        · rw [if_neg z] at b1 b2 b3 hz ⊢
          refine ⟨?_, ?_, fun i hi => ?_⟩
          · rw [ha, if_pos (by omega)]; exact b1
          · rw [hb, if_pos (by omega)]; exact b2
          · rw [hc, if_pos (by omega), show q * 6 + i + 6 = (q + 1) * 6 + i by omega]; exact b3 i hi
    | succ n ih =>
      intro r a b c hr hkr ha hb hc
      apply h22
      refine pk_le (G.length - 1) r (fun z => absurd z (by omega)) (fun _ => ?_) g0
      rw [nI_1, nI_clamp (by omega), nI_clamp (by omega)]
      have v1 : vp_in (nI (r + 1)) 24 := vp_in_nI (by omega) (by decide)
      have v0 : vp_in (nI r) 24 := vp_in_nI (by omega) (by decide)
      refine ⟨v1, v0, ?_⟩
      intro σ5 e5
      have e5' : σ5 = mk3 σ3 (upd a r (a (r + 1))) b c := by rw [e5, mk3_0]; rfl
      rw [e5']
      refine ⟨v1, v0, ?_⟩
      intro σ6 e6
      have e6' : σ6 = mk3 σ3 (upd a r (a (r + 1))) (upd b r (b (r + 1))) c := by rw [e6, mk3_1]; rfl
      rw [e6']
      have inner : ∀ (m i : Nat) (c : Nat → Int32), i + m = 6 → (∀ q, c q = if k * 6 ≤ q ∧ q < r * 6 + i then σ.2.1 2 (q + 6) else σ.2.1 2 q) → X60 (nI r) (nI i) (mk3 σ3 (upd a r (a (r + 1))) (upd b r (b (r + 1))) c) := by
        intro m
        induction m with
        | zero =>
          intro i c hi hc
          have hi : i = 6 := hi
          subst hi
          apply h60
          refine br_t (by decide) (nm_r (nI_1 r) (ih (r + 1) _ _ c (by omega) (by omega) (fun q => ?_) (fun q => ?_) (fun q => ?_)))
          · show (if q = r then a (r + 1) else a q) = _
            by_cases z : q = r
            · rw [if_pos z, ha, if_neg (by omega), if_pos (by omega), z]
            · rw [if_neg z, ha]
              by_cases y : k ≤ q ∧ q < r
              · rw [if_pos y, if_pos (by omega)]
              · rw [if_neg y, if_neg (by omega)]
          · show (if q = r then b (r + 1) else b q) = _
            by_cases z : q = r
            · rw [if_pos z, hb, if_neg (by omega), if_pos (by omega), z]
            · rw [if_neg z, hb]
              by_cases y : k ≤ q ∧ q < r
              · rw [if_pos y, if_pos (by omega)]
              · rw [if_neg y, if_neg (by omega)]
          · rw [hc]
            by_cases y : k * 6 ≤ q ∧ q < r * 6 + 6
            · rw [if_pos y, if_pos (by omega)]
            · rw [if_neg y, if_neg (by omega)]
        | succ m ihm =>
          intro i c hi hc
          apply h60
          refine pk_le 6 i (fun z => absurd z (by omega)) (fun _ => ?_)
          have e1 : (6 : Int32) * nI r + (6 : Int32) + nI i = nI (r * 6 + 6 + i) := by
            rw [show (6 : Int32) = nI 6 from rfl, pk_mul, nI_add, nI_add, Nat.mul_comm]
          rw [e1, n_six, nI_clamp (by omega), nI_clamp (by omega)]
          refine ⟨vp_in_nI (by omega) (by decide), vp_in_nI (by omega) (by decide), ?_⟩
          intro τ hτ
          have eτ : τ = mk3 σ3 (upd a r (a (r + 1))) (upd b r (b (r + 1))) (upd c (r * 6 + i) (c (r * 6 + 6 + i))) := by rw [hτ, mk3_2]; rfl
          rw [eτ]
          refine nm_r (nI_1 i) (ihm (i + 1) _ (by omega) (fun q => ?_))
          show (if q = r * 6 + i then c (r * 6 + 6 + i) else c q) = _
          by_cases z : q = r * 6 + i
          · rw [if_pos z, hc, if_neg (by omega), if_pos (by omega), z, show r * 6 + i + 6 = r * 6 + 6 + i by omega]
          · rw [if_neg z, hc]
            by_cases y : k * 6 ≤ q ∧ q < r * 6 + i
            · rw [if_pos y, if_pos (by omega)]
            · rw [if_neg y, if_neg (by omega)]
      exact inner 6 0 c rfl (fun q => by rw [hc]; rfl)
  have := key (G.length - 1 - k) k (σ3.2.1 0) (σ3.2.1 1) (σ3.2.1 2) (by omega) (Nat.le_refl _) (fun q => by rw [if_neg (by omega), e3]; rfl) (fun q => by rw [if_neg (by omega), e3]; rfl) (fun q => by rw [if_neg (by omega), e3]; rfl)
  rw [mk3_id] at this
  exact this
end M2B
