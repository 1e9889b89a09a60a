/-! Layer 2, part j: rule and drop. -/
theorem gg_l_app {G : gg_R} {q : Nat × List Nat} {r : Nat} (h : r < G.length) : gg_l (G ++ [q]) r = gg_l G r := by
  unfold gg_l
  rw [getD_append_l h]
theorem gg_y_app {G : gg_R} {q : Nat × List Nat} {r : Nat} (h : r < G.length) : gg_y (G ++ [q]) r = gg_y G r := by
  unfold gg_y
  rw [getD_append_l h]
theorem gg_l_end {G : gg_R} {q : Nat × List Nat} : gg_l (G ++ [q]) G.length = q.1 := by
  unfold gg_l
  rw [getD_append_e]
theorem gg_y_end {G : gg_R} {q : Nat × List Nat} : gg_y (G ++ [q]) G.length = q.2 := by
  unfold gg_y
  rw [getD_append_e]
theorem gg_er {G : gg_R} {r k : Nat} : (G.eraseIdx r).getD k (0, []) = G.getD (if k < r then k else k + 1) (0, []) := by
  rw [List.getD_eq_getElem?_getD, List.getD_eq_getElem?_getD, List.getElem?_eraseIdx]
  split <;> rfl
theorem gg_ok_app {G : gg_R} {j : Nat} {t : List Nat} (h : gg_ok G) (hG : G.length < 24) (hj : j < 8) (ht : t.length ≤ 6) (h24 : ∀ i, i < t.length → t.getD i 0 < 24) : gg_ok (G ++ [(j, t)]) := by
  refine ⟨by rw [List.length_append]; show G.length + 1 ≤ 24; omega, fun r hr => ?_⟩
  rw [List.length_append] at hr
  have hr : r < G.length + 1 := hr
  by_cases e : r = G.length
  · subst e
    rw [gg_l_end, gg_y_end]
    exact ⟨hj, ht, h24⟩
  · rw [gg_l_app (by omega), gg_y_app (by omega)]
    exact h.2 r (by omega)
theorem gg_er_l {G : gg_R} {r k : Nat} : gg_l (G.eraseIdx r) k = gg_l G (if k < r then k else k + 1) := by
  unfold gg_l
  rw [gg_er]
theorem gg_er_y {G : gg_R} {r k : Nat} : gg_y (G.eraseIdx r) k = gg_y G (if k < r then k else k + 1) := by
  unfold gg_y
  rw [gg_er]
theorem gg_er_n {G : gg_R} {r : Nat} (hr : r < G.length) : (G.eraseIdx r).length = G.length - 1 := List.length_eraseIdx_of_lt hr
theorem gg_ok_er {G : gg_R} {r : Nat} (h : gg_ok G) (hr : r < G.length) : gg_ok (G.eraseIdx r) := by
  refine ⟨by rw [gg_er_n hr]; have := h.1; omega, fun k hk => ?_⟩
  rw [gg_er_n hr] at hk
  rw [gg_er_l, gg_er_y]
  exact h.2 _ (by split <;> omega)
section L2J
variable {G : gg_R} {σ : gs_St} {t : List Nat} {l : List Int32} {d v : List Nat}
theorem s_add {j : Nat} {K : Int32 → gs_St → Prop} (h : gr_at G σ) (hG : G.length < 24) (hj : j < 8) (ht : t.length ≤ 6) (h24 : ∀ i, i < t.length → t.getD i 0 < 24) (hti : ∀ i, i < t.length → σ.2.1 0 i = nI (t.getD i 0))
    (kk : ∀ τ : gs_St, gr_at (G ++ [(j, t)]) τ → (∀ k, k ≠ 2 → τ.1 k = σ.1 k) → (∀ k, k ≠ 1 → k ≠ 2 → k ≠ 3 → τ.2.1 k = σ.2.1 k) → τ.2.2 = σ.2.2 → K (nI G.length) τ) : C_Gr_add_1 (nI j) (nI t.length) σ K := by
  have h2 := h.2.1
  unfold C_Gr_add_1
  rw [h2]
  refine ⟨vp_in_nI hG (by decide), ?_⟩
  rw [nI_clamp (by omega)]
  intro σ1 e1
  have a1 : σ1.1 2 = nI G.length := by rw [e1]; exact h2
  rw [a1]
  refine ⟨vp_in_nI hG (by decide), ?_⟩
  rw [nI_clamp (by omega)]
  intro σ2 e2
  have a2 : σ2.1 2 = nI G.length := by rw [e2]; exact a1
  have e6 : nI G.length * (6 : Int32) = nI (G.length * 6) := by rw [show (6 : Int32) = nI 6 from rfl, pk_mul]
  rw [a2, e6, nI_clamp (by omega), nI_clamp (by omega), show (0 : Int32).toNatClampNeg = 0 by decide]
  refine ⟨by decide, nI_pos (by omega), nI_pos (by omega), by omega, by omega, ?_⟩
  intro σ3 e3 σ4 e4
  have a3 : σ3.1 2 = nI G.length := by rw [e3]; exact a2
  have a4 : σ4.1 2 = nI (G.length + 1) := by
    rw [e4]
    show σ3.1 2 + 1 = _
    rw [a3, nI_1]
  rw [a4, nI_pred]
  have f1 : σ4.2.1 1 = upd (σ.2.1 1) G.length (nI j) := by rw [e4, e3, e2, e1]; rfl
  have f2 : σ4.2.1 2 = upd (σ.2.1 2) G.length (nI t.length) := by rw [e4, e3, e2, e1]; rfl
  have f3 : σ4.2.1 3 = va_cpy (σ.2.1 0) (σ.2.1 3) 0 (G.length * 6) t.length := by rw [e4, e3, e2, e1]; rfl
  refine kk σ4 ⟨gg_ok_app h.1 hG hj ht h24, ?_, fun r hr => ?_⟩ (fun k hk => ?_) (fun k k1 k2 k3 => ?_) ?_
  · rw [List.length_append]
    exact a4
  · rw [List.length_append] at hr
    have hr : r < G.length + 1 := hr
    rw [f1, f2, f3]
    by_cases e : r = G.length
    · subst e
      rw [gg_l_end, gg_y_end]
      refine ⟨pk_us, pk_us, fun i hi => ?_⟩
      show (if G.length * 6 ≤ G.length * 6 + i ∧ G.length * 6 + i < G.length * 6 + t.length then σ.2.1 0 (0 + (G.length * 6 + i - G.length * 6)) else σ.2.1 3 (G.length * 6 + i)) = nI (t.getD i 0)
      have hi : i < t.length := hi
      rw [if_pos ⟨by omega, by omega⟩, show 0 + (G.length * 6 + i - G.length * 6) = i by omega]
      exact hti i hi
    · have hr' : r < G.length := by omega
      rw [gg_l_app hr', gg_y_app hr', pk_un e, pk_un e]
      obtain ⟨b1, b2, b3⟩ := h.2.2 r hr'
      have hz := (h.1.2 r hr').2.1
      refine ⟨b1, b2, fun i hi => ?_⟩
      show (if G.length * 6 ≤ r * 6 + i ∧ r * 6 + i < G.length * 6 + t.length then σ.2.1 0 (0 + (r * 6 + i - G.length * 6)) else σ.2.1 3 (r * 6 + i)) = _
      rw [if_neg (by omega)]
      exact b3 i hi
  · rw [e4, e3, e2, e1]
    show (if k = 2 then _ else σ.1 k) = σ.1 k
    rw [if_neg hk]
  · rw [e4, e3, e2, e1]
    show (if k = 3 then _ else (if k = 2 then _ else (if k = 1 then _ else σ.2.1 k))) = σ.2.1 k
    rw [if_neg k3, if_neg k2, if_neg k1]
  · rw [e4, e3, e2, e1]
    rfl
theorem s_remove {r : Nat} {K : gs_St → Prop} (h : gr_at G σ) (hr : r < G.length)
    (kk : ∀ τ : gs_St, gr_at (G.eraseIdx r) τ → (∀ k, k ≠ 2 → τ.1 k = σ.1 k) → (∀ k, k ≠ 1 → k ≠ 2 → k ≠ 3 → τ.2.1 k = σ.2.1 k) → τ.2.2 = σ.2.2 → K τ) : C_Gr_remove (nI r) σ K := by
  have h2 := h.2.1
  have hG := h.1.1
  have e6 : ∀ x : Nat, nI x * (6 : Int32) = nI (x * 6) := fun x => by rw [show (6 : Int32) = nI 6 from rfl, pk_mul]
  refine nm_r (nI_1 r) ?_
  have esub : σ.1 2 - nI (r + 1) = nI (G.length - (r + 1)) := by rw [h2, pk_sub (by omega)]
  refine nm_r esub ?_
  rw [e6, e6, e6, nI_clamp (by omega), nI_clamp (by omega), nI_clamp (by omega), nI_clamp (by omega), nI_clamp (by omega), nI_clamp (by omega)]
  refine ⟨nI_pos (by omega), nI_pos (by omega), nI_pos (by omega), by omega, by omega, ?_⟩
  intro σ3 e3
  refine ⟨nI_pos (by omega), nI_pos (by omega), nI_pos (by omega), by omega, by omega, ?_⟩
  intro σ4 e4
  refine ⟨nI_pos (by omega), nI_pos (by omega), nI_pos (by omega), by omega, by omega, ?_⟩
  intro σ5 e5 σ6 e6'
  have a5 : σ5.1 2 = nI G.length := by rw [e5, e4, e3]; exact h2
  have a6 : σ6.1 2 = nI (G.length - 1) := by
    rw [e6']
    show σ5.1 2 - 1 = _
    rw [a5, show G.length = (G.length - 1) + 1 by omega, nI_pred]
    congr 1
  have f1 : σ6.2.1 1 = va_cpy (σ.2.1 1) (σ.2.1 1) (r + 1) r (G.length - (r + 1)) := by rw [e6', e5, e4, e3]; rfl
  have f2 : σ6.2.1 2 = va_cpy (σ.2.1 2) (σ.2.1 2) (r + 1) r (G.length - (r + 1)) := by rw [e6', e5, e4, e3]; rfl
  have f3 : σ6.2.1 3 = va_cpy (σ.2.1 3) (σ.2.1 3) ((r + 1) * 6) (r * 6) ((G.length - (r + 1)) * 6) := by rw [e6', e5, e4, e3]; rfl
  refine kk σ6 ⟨gg_ok_er h.1 hr, ?_, fun k hk => ?_⟩ (fun k hk => ?_) (fun k k1 k2 k3 => ?_) ?_
  · rw [gg_er_n hr]
    exact a6
  · rw [gg_er_n hr] at hk
    rw [f1, f2, f3, gg_er_l, gg_er_y]
    have hcp : ∀ f : Nat → Int32, va_cpy f f (r + 1) r (G.length - (r + 1)) k = f (if k < r then k else k + 1) := fun f => by
      show (if r ≤ k ∧ k < r + (G.length - (r + 1)) then f (r + 1 + (k - r)) else f k) = _
      by_cases q : k < r
      · rw [if_neg (by omega), if_pos q]
      · rw [if_pos (by omega), if_neg q, show r + 1 + (k - r) = k + 1 by omega]
    have hk' : (if k < r then k else k + 1) < G.length := by split <;> omega
    obtain ⟨b1, b2, b3⟩ := h.2.2 _ hk'
    have hz := (h.1.2 _ hk').2.1
    rw [hcp, hcp]
    refine ⟨b1, b2, fun i hi => ?_⟩
    rw [← b3 i hi]
    show (if r * 6 ≤ k * 6 + i ∧ k * 6 + i < r * 6 + (G.length - (r + 1)) * 6 then σ.2.1 3 ((r + 1) * 6 + (k * 6 + i - r * 6)) else σ.2.1 3 (k * 6 + i)) = _
    by_cases q : k < r
    · rw [if_neg (by omega), if_pos q]
    · have e1 : (r + 1) * 6 + (k * 6 + i - r * 6) = (k + 1) * 6 + i := by omega
      rw [if_pos (by omega), e1, if_neg q]
  · rw [e6', e5, e4, e3]
    show (if k = 2 then _ else σ.1 k) = σ.1 k
    rw [if_neg hk]
  · rw [e6', e5, e4, e3]
    show (if k = 3 then _ else (if k = 2 then _ else (if k = 1 then _ else σ.2.1 k))) = σ.2.1 k
    rw [if_neg k3, if_neg k2, if_neg k1]
  · rw [e6', e5, e4, e3]
    rfl
theorem s_rule {x : Int32} {K : Int32 → gs_St → Prop} (h : cl_at t G l d v σ)
    (k0 : ((∀ j, j < 8 → x ≠ nI j) ∨ G.length = 24) → ∀ τ, cl_at [] G l d v τ → K (-1) τ)
    (k1 : ∀ j, j < 8 → x = nI j → G.length < 24 → ∀ τ, cl_at [] (G ++ [(j, t)]) l d v τ → K (nI G.length) τ) : C_Gl_rule x σ K := by
  obtain ⟨⟨ht6, ht24, ht0, hti⟩, hg, hl, hd, h4, hst⟩ := h
  have hG := hg.1.1
  refine nm_r ht0 ?_
  intro σ2 e2
  have hc2 : cl_at [] G l d v σ2 := by
    rw [e2]
    exact ⟨⟨by decide, fun i hi => absurd hi (Nat.not_lt_zero _), rfl, fun i hi => absurd hi (Nat.not_lt_zero _)⟩, hg.of rfl rfl rfl rfl, hl.of rfl rfl, hd.of rfl rfl rfl rfl, h4, hst.elim Or.inl (fun z => Or.inr ⟨z.1, z.2.of rfl rfl rfl rfl rfl rfl rfl rfl rfl rfl rfl⟩)⟩
  refine s_isNt (fun j hj ex => ?_) (fun hno => br_t rfl (k0 (Or.inl hno) σ2 hc2))
  subst ex
  refine br_f (by decide) ?_
  have g2 : σ2.1 2 = nI G.length := hc2.2.1.2.1
  refine pk_lt G.length 24 (fun q => ?_) (fun q => k0 (Or.inr (by omega)) σ2 hc2) g2
  intro σ5 e5
  refine s_add (G := G) (t := t) (hg.of ?_ ?_ ?_ ?_) q hj ht6 ht24 (fun i hi => ?_) (fun τ hτ hI hA hL => ?_)
  · rw [e5, e2]; rfl
  · rw [e5, e2]; rfl
  · rw [e5, e2]; rfl
  · rw [e5, e2]; rfl
  · rw [e5, e2]
    exact hti i hi
  · refine k1 j hj rfl q τ ⟨⟨by decide, fun i hi => absurd hi (Nat.not_lt_zero _), ?_, fun i hi => absurd hi (Nat.not_lt_zero _)⟩, hτ, ?_, ?_, ?_, Or.inl ?_⟩
    · rw [hI 0 (by decide), e5, e2]; rfl
    · obtain ⟨q1, q2, q3⟩ := hl
      refine ⟨q1, ?_, fun i hi => ?_⟩
      · rw [hI 14 (by decide), e5, e2]; exact q2
      · rw [hA 14 (by decide) (by decide) (by decide), e5, e2]; exact q3 i hi
    · obtain ⟨q1, q2, q3, q4, q5, q6⟩ := hd
      refine ⟨q1, q2, ?_, ?_, fun i hi => ?_, fun i hi => ?_⟩
      · rw [hI 10 (by decide), e5, e2]; exact q3
      · rw [hI 11 (by decide), e5, e2]; exact q4
      · rw [hA 10 (by decide) (by decide) (by decide), e5, e2]; exact q5 i hi
      · rw [hA 11 (by decide) (by decide) (by decide), e5, e2]; exact q6 i hi
    · rw [hI 4 (by decide), e5, e2]; exact h4
    · rw [hI 1 (by decide), e5]; rfl
theorem s_drop {x : Int32} {K : Int32 → gs_St → Prop} (h : cl_at t G l d v σ)
    (k0 : (∀ r, r < G.length → x ≠ nI r) → K 0 σ)
    (k1 : ∀ r, r < G.length → x = nI r → ∀ τ, cl_at t (G.eraseIdx r) l d v τ → K 1 τ) : C_Gl_drop x σ K := by
  obtain ⟨⟨ht6, ht24, ht0, hti⟩, hg, hl, hd, h4, hst⟩ := h
  refine s_has hg (fun r hr ex => ?_) (fun hno => br_f (fun z => z rfl) (k0 hno))
  subst ex
  refine br_t (by decide) ?_
  intro σ3 e3
  refine s_remove (G := G) (hg.of ?_ ?_ ?_ ?_) hr (fun τ hτ hI hA hL => ?_)
  · rw [e3]; rfl
  · rw [e3]; rfl
  · rw [e3]; rfl
  · rw [e3]; rfl
  · refine k1 r hr rfl τ ⟨⟨ht6, ht24, ?_, fun i hi => ?_⟩, hτ, ?_, ?_, ?_, Or.inl ?_⟩
    · rw [hI 0 (by decide), e3]; exact ht0
    · rw [hA 0 (by decide) (by decide) (by decide), e3]; exact hti i hi
    · obtain ⟨q1, q2, q3⟩ := hl
      refine ⟨q1, ?_, fun i hi => ?_⟩
      · rw [hI 14 (by decide), e3]; exact q2
      · rw [hA 14 (by decide) (by decide) (by decide), e3]; exact q3 i hi
    · obtain ⟨q1, q2, q3, q4, q5, q6⟩ := hd
      refine ⟨q1, q2, ?_, ?_, fun i hi => ?_, fun i hi => ?_⟩
      · rw [hI 10 (by decide), e3]; exact q3
      · rw [hI 11 (by decide), e3]; exact q4
      · rw [hA 10 (by decide) (by decide) (by decide), e3]; exact q5 i hi
      · rw [hA 11 (by decide) (by decide) (by decide), e3]; exact q6 i hi
    · rw [hI 4 (by decide), e3]; exact h4
    · rw [hI 1 (by decide), e3]; rfl
end L2J
