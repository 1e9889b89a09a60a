/-! Layer 2, part l: trees and treesWith. -/
/-- v is the number of trees of A of the length n, among the kept rules -/
def an_tab (G : gg_R) (kp : Nat → Bool) (A n v : Nat) : Prop := ∃ D o T N, gm_L G D ∧ gg_ord (gg_to G D) o 8 ∧ gc_okk (fun y => D y = some 0) G kp T N ∧ n < N ∧ v = T A n
section L2L
variable {G : gg_R} {σ : gs_St} {t : List Nat} {l : List Int32} {d v : List Nat} {D O : Nat → Option Nat} {o : Nat → Nat} {T T' : Nat → Nat → Nat} {N N' : Nat}
/-- all but what is found out of the rules -/
def cl_r (t : List Nat) (G : gg_R) (l : List Int32) (d v : List Nat) (σ : gs_St) : Prop := tx_at t σ ∧ gr_at G σ ∧ li_at l σ ∧ dr_at d v σ ∧ σ.1 4 = -1 ∧ σ.1 1 = 1
theorem cl_r.cl (h : cl_r t G l d v σ) (hs : st_at G σ) : cl_at t G l d v σ := ⟨h.1, h.2.1, h.2.2.1, h.2.2.2.1, h.2.2.2.2.1, Or.inr ⟨h.2.2.2.2.2, hs⟩⟩
theorem cl_at.r (h : cl_at t G l d v σ) (h1 : σ.1 1 = 1) : cl_r t G l d v σ := ⟨h.1, h.2.1, h.2.2.1, h.2.2.2.1, h.2.2.2.2.1, h1⟩
theorem s_isCounted {x : Int32} {K : Int32 → gs_St → Prop} (h : cl_at t G l d v σ)
    (k0 : ∀ τ, cl_at t G l d v τ → ((∀ n, n ≤ 16 → x ≠ nI n) ∨ an_circ G True) → K 0 τ)
    (k1 : ∀ n, n ≤ 16 → x = nI n → ∀ τ, cl_r t G l d v τ → ∀ D O o T T' N N', st_w G D O o 8 T T' N N' τ → K 1 τ) : C_Gl_isCounted x σ K := by
  refine s_study h (fun τ hτ hs h1 => ?_)
  have hs' := hs
  obtain ⟨D, O, o, c, T, T', N, N', hw⟩ := hs'
  obtain ⟨g1, g2, g3, g4, g5, g6, g7, g8, g9, g10, g11, -⟩ := id hw
  rcases pk_ix x (n := 17) (by decide) with q | q | ⟨n, hn, rfl⟩
  · exact ⟨fun _ => k0 τ hτ (Or.inl (fun n hn e => absurd (e ▸ q) (nI_pos (by omega)))), fun z => absurd q z⟩
  · have hno : ∀ n, n ≤ 16 → x ≠ nI n := fun n hn e => absurd (e ▸ q) (nI_ge (by omega) (by decide))
    have hgt : (16 : Int32) < x := by
      have a : nI 16 < nI 17 := nI_lt (by decide) (by decide)
      rw [Int32.lt_iff_toInt_lt] at a ⊢
      rw [Int32.le_iff_toInt_le] at q
      exact Int.lt_of_lt_of_le a q
    exact ⟨fun _ => k0 τ hτ (Or.inl hno), fun _ => ⟨fun _ => k0 τ hτ (Or.inl hno), fun z => absurd hgt z⟩⟩
  · refine br_f (nI_pos (by omega)) (pk_lt 16 n (fun q => absurd q (by omega)) (fun _ => ?_))
    refine pk_le 8 c (fun q => ?_) (fun q => ?_) rfl g10
    · have hc : c = 8 := by omega
      subst hc
      exact br_f (fun z => z rfl) (k1 n (by omega) rfl τ (hτ.r h1) D O o T T' N N' hw)
    · exact br_t (by decide) (k0 τ hτ (Or.inr ⟨D, o, c, g3, g7, g8, ⟨fun _ => q, fun _ => trivial⟩⟩))
theorem s_treesAll {A n : Nat} {K : Int64 → gs_St → Prop} (h : cl_r t G l d v σ) (hw : st_w G D O o 8 T T' N N' σ) (hA : A < 8) (hn : n ≤ 16)
    (kk : ∀ (T2 : Nat → Nat → Nat) (N2 : Nat) (τ : gs_St), cl_r t G l d v τ → st_w G D O o 8 T2 T' N2 N' τ → n < N2 → K (lN (T2 A n)) τ) : C_Co_treesOf (nI A) (nI n) σ K := by
  obtain ⟨q1, q2, q3, q4, q5, q6⟩ := h
  obtain ⟨h1, h2, h3, h4, h5, h6, h7, h8, h9, h10, h11, h12, h13, h14, h15, h16, h17⟩ := hw
  refine s_treesOf (G := G) (D := D) (o := o) (kp := fun _ => true) (T := T) (N := N) q2 h7 h9 (gm_L_cl q2.1 h3) hA hn h13 h12 (fun r hr => ?_) h14 (fun T2 N2 tt ee hN2 hnN hN17 hc2 => ?_)
  · rw [q5]
    refine ⟨fun _ e => ?_, fun _ => rfl⟩
    have := nI_pos (n := r) (by have := q2.1.1; omega)
    rw [e] at this
    exact this (by decide)
  · exact kk T2 N2 _ ⟨q1.of rfl rfl, q2.of rfl rfl rfl rfl, q3.of rfl rfl, q4.of rfl rfl rfl rfl, q5, q6⟩ ⟨h1, h2, h3, h4, h5, h6, h7, h8, h9, h10, h11, rfl, hN17, hc2, h15, h16, h17.of rfl rfl⟩ hnN
theorem s_trees {x y : Int32} {K : Int64 → gs_St → Prop} (h : cl_at t G l d v σ)
    (k0 : ∀ τ, cl_at t G l d v τ → ((∀ j, j < 8 → x ≠ nI j) ∨ (∀ n, n ≤ 16 → y ≠ nI n) ∨ an_circ G True) → K (-1) τ)
    (k1 : ∀ j, j < 8 → x = nI j → ∀ n, n ≤ 16 → y = nI n → ∀ D O o T T' N N' τ, cl_r t G l d v τ → st_w G D O o 8 T T' N N' τ → n < N → K (if T j n ≤ 1000000000000000000 then lN (T j n) else -2) τ) : C_Gl_trees x y σ K := by
  refine s_isNt (fun j hj e => ?_) (fun hno => br_t rfl (k0 σ h (Or.inl hno)))
  subst e
  refine br_f (by decide) ?_
  refine s_isCounted h (fun τ hτ hno => br_f (fun z => z rfl) (k0 τ hτ (Or.inr hno))) (fun n hn e τ hτ D O o T T' N N' hw => ?_)
  subst e
  refine br_t (by decide) (s_treesAll hτ hw hj hn (fun T2 N2 τ2 hτ2 hw2 hn2 => ?_))
  have hb := hw2.2.2.2.2.2.2.2.2.2.2.2.2.2.1.1 j n
  have := k1 j hj rfl n hn rfl D O o T2 T' N2 N' τ2 hτ2 hw2 hn2
  rw [gl_18]
  refine ek_if (pk_lLE (by omega) (by decide)) (fun q => ?_) (fun q => ?_)
  · rw [if_pos q] at this
    exact this
  · rw [if_neg q] at this
    exact this
theorem s_leaveOut {r : Nat} {K : gs_St → Prop} (h : cl_r t G l d v σ) (hw : st_w G D O o 8 T T' N N' σ) (kk : ∀ T2 N2 τ, cl_r t G l d v τ → st_w G D O o 8 T T2 N N2 τ → τ.1 6 = nI r → K τ) : C_Co_leaveOutw (nI r) σ K := by
  obtain ⟨q1, q2, q3, q4, q5, q6⟩ := h
  refine ⟨fun e => kk T' N' σ ⟨q1, q2, q3, q4, q5, q6⟩ hw e, fun e => ?_⟩
  intro σ1 e1 σ2 e2
  obtain ⟨h1, h2, h3, h4, h5, h6, h7, h8, h9, h10, h11, h12, h13, h14, h15, h16, h17⟩ := hw
  subst e2
  subst e1
  exact kk (fun _ _ => 0) 0 _ ⟨q1.of rfl rfl, q2.of rfl rfl rfl rfl, q3.of rfl rfl, q4.of rfl rfl rfl rfl, q5, q6⟩ ⟨h1, h2, h3, h4, h5, h6, h7, h8, h9, h10, h11, h12, h13, h14.of rfl rfl, rfl, by decide, cs_atw_0⟩ rfl
theorem s_treesWo {A n r : Nat} {K : Int64 → gs_St → Prop} (h : cl_r t G l d v σ) (hw : st_w G D O o 8 T T' N N' σ) (hr : σ.1 6 = nI r) (hA : A < 8) (hn : n ≤ 16)
    (kk : ∀ (T2 : Nat → Nat → Nat) (N2 : Nat) (τ : gs_St), cl_r t G l d v τ → st_w G D O o 8 T T2 N N2 τ → gc_okk (fun y => D y = some 0) G (fun q => decide (nI q ≠ nI r)) T2 N2 → n < N2 → T2 A n ≤ 1000000000000000001 → K (lN (T2 A n)) τ) : C_Co_treesOfw (nI A) (nI n) σ K := by
  obtain ⟨q1, q2, q3, q4, q5, q6⟩ := h
  obtain ⟨h1, h2, h3, h4, h5, h6, h7, h8, h9, h10, h11, h12, h13, h14, h15, h16, h17⟩ := hw
  refine s_treesOfw (G := G) (D := D) (o := o) (kp := fun q => decide (nI q ≠ σ.1 6)) (T := T') (N := N') q2 h7 h9 (gm_L_cl q2.1 h3) hA hn h16 h15 (fun r hr => decide_eq_true_iff) h17 (fun T2 N2 tt ee hN2 hnN hN17 hc2 => ?_)
  refine kk T2 N2 _ ⟨q1.of rfl rfl, q2.of rfl rfl rfl rfl, q3.of rfl rfl, q4.of rfl rfl rfl rfl, q5, q6⟩ ⟨h1, h2, h3, h4, h5, h6, h7, h8, h9, h10, h11, h12, h13, h14.of rfl rfl, rfl, hN17, hc2⟩ ?_ hnN (hc2.1 A n)
  have := hc2.2.2.1
  rw [hr] at this
  exact this
theorem s_treesWith {x y : Int32} {K : Int64 → gs_St → Prop} (h : cl_at t G l d v σ)
    (k0 : ∀ τ, cl_at t G l d v τ → ((∀ r, r < G.length → x ≠ nI r) ∨ (∀ n, n ≤ 16 → y ≠ nI n) ∨ an_circ G True) → K (-1) τ)
    (k1 : ∀ r, r < G.length → x = nI r → ∀ n, n ≤ 16 → y = nI n → ∀ τ a, cl_at t G l d v τ → an_tab G (fun _ => true) 0 n a → 1000000000000000000 < a → K (-2) τ)
    (k2 : ∀ r, r < G.length → x = nI r → ∀ n, n ≤ 16 → y = nI n → ∀ τ a b, cl_at t G l d v τ → an_tab G (fun _ => true) 0 n a → a ≤ 1000000000000000000 → an_tab G (fun q => decide (nI q ≠ nI r)) 0 n b → K (lN a - lN b) τ) : C_Gl_treesWith x y σ K := by
  refine s_has h.2.1 (fun r hr e => ?_) (fun hno => br_t rfl (k0 σ h (Or.inl hno)))
  subst e
  refine br_f (by decide) ?_
  refine s_isCounted h (fun τ hτ hno => br_f (fun z => z rfl) (k0 τ hτ (Or.inr hno))) (fun n hn e τ hτ D O o T T' N N' hw => ?_)
  subst e
  refine br_t (by decide) (s_treesAll (A := 0) hτ hw (by decide) hn (fun T2 N2 τ2 hτ2 hw2 hn2 => ?_))
  obtain ⟨h1, h2, h3, h4, h5, h6, h7, h8, h9, h10, h11, h12, h13, h14, -⟩ := id hw2
  have hb := h14.1 0 n
  have tab : an_tab G (fun _ => true) 0 n (T2 0 n) := ⟨D, o, T2, N2, h3, h7, h14.2.2.1, hn2, rfl⟩
  rw [gl_18]
  refine ek_if (pk_lLE (by omega) (by decide)) (fun q => ?_) (fun q => k1 r hr rfl n hn rfl τ2 _ (hτ2.cl ⟨D, O, o, 8, T2, T', N2, N', hw2⟩) tab (by omega))
  refine s_leaveOut hτ2 hw2 (fun T3 N3 τ3 hτ3 hw3 h6r => ?_)
  refine s_treesWo (A := 0) hτ3 hw3 h6r (by decide) hn (fun T4 N4 τ4 hτ4 hw4 hok hn4 hb4 => ?_)
  exact k2 r hr rfl n hn rfl τ4 _ _ (hτ4.cl ⟨D, O, o, 8, T2, T4, N2, N4, hw4⟩) tab q ⟨D, o, T4, N4, h3, h7, hok, hn4, rfl⟩
end L2L
