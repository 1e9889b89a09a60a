/-! Layer 2 of the reference, part g: trees, treesWith; one table only. -/
theorem gc_pt_kp {T : Nat → Nat → Nat} {G : gg_R} {kp kp' : Nat → Bool} {A n : Nat} : ∀ r, (∀ q, q < r → kp q = kp' q) → gc_pt T G kp A n r = gc_pt T G kp' A n r
  | 0, _ => rfl
  | r + 1, h => by
    show gc_pt T G kp A n r + (if kp r = true ∧ gg_l G r = A then gc_E T (gg_y G r) n else 0) = gc_pt T G kp' A n r + (if kp' r = true ∧ gg_l G r = A then gc_E T (gg_y G r) n else 0)
    rw [gc_pt_kp r (fun q hq => h q (by omega)), h r (by omega)]
theorem gc_okk_kp {em : Nat → Prop} {G : gg_R} {kp kp' : Nat → Bool} {T : Nat → Nat → Nat} {N : Nat} (hk : ∀ q, q < G.length → kp q = kp' q) (h : gc_okk em G kp T N) : gc_okk em G kp' T N := ⟨fun A n hA hn => by rw [← gc_pt_kp _ hk]; exact h.1 A n hA hn, h.2⟩
theorem gc_okk_em {D D' : Nat → Option Nat} {G : gg_R} {kp : Nat → Bool} {T : Nat → Nat → Nat} {N : Nat} (hD : ∀ A, A < 8 → D A = D' A) (h : gc_okk (fun y => D y = some 0) G kp T N) : gc_okk (fun y => D' y = some 0) G kp T N := ⟨h.1, fun A hA he => h.2 A hA (fun z => he (by show D' A = some 0; rw [← hD A hA]; exact z))⟩
theorem kp_m1 {G : gg_R} (hG : gg_ok G) : ∀ q, q < G.length → decide (nI q ≠ (-1 : Int32)) = (fun _ : Nat => true) q := fun q hq => decide_eq_true (fun z => absurd (z ▸ (by decide : (-1 : Int32) < 0)) (nI_pos (by have := hG.1; omega)))
theorem gg_ord_ex (T : Nat → Nat → Prop) : ∃ o c, gg_ord T o c ∧ (8 ≤ c ∨ gg_stk T o c) := by
  have key : ∀ (k : Nat) (o : Nat → Nat) (c : Nat), 8 - c ≤ k → gg_ord T o c → ∃ o c, gg_ord T o c ∧ (8 ≤ c ∨ gg_stk T o c) := by
    intro k
    induction k with
    | zero => exact fun o c hk ho => ⟨o, c, ho, Or.inl (by omega)⟩
    | succ k ih =>
      intro o c hk ho
      by_cases hs : gg_stk T o c
      · exact ⟨o, c, ho, Or.inr hs⟩
      · by_cases h8 : 8 ≤ c
        · exact ⟨o, c, ho, Or.inl h8⟩
        · have ex : ∃ A, A < 8 ∧ (∀ j, j < c → o j ≠ A) ∧ ∀ x, x < 8 → T A x → ∃ j, j < c ∧ o j = x := Classical.byContradiction (fun z => hs (fun A hA hn => Classical.byContradiction (fun y => z ⟨A, hA, hn, fun x hx hT => Classical.byContradiction (fun w => y ⟨x, hx, hT, fun j hj e => w ⟨j, hj, e⟩⟩)⟩)))
          obtain ⟨A, hA, hn, ht⟩ := ex
          exact ih _ (c + 1) (by omega) (gg_ord_add ho hA hn ht)
  exact key 8 (fun _ => 0) 0 (by omega) ⟨fun j hj => absurd hj (Nat.not_lt_zero _), fun i j _ hj => absurd hj (Nat.not_lt_zero _), fun j hj => absurd hj (Nat.not_lt_zero _)⟩
theorem gg_rank8 {T : Nat → Nat → Prop} {o : Nat → Nat} (h : gg_ord T o 8) : ∃ rk : Nat → Nat, (∀ A x, A < 8 → x < 8 → T A x → rk x < rk A) ∧ ∀ A, A < 8 → rk A < 8 := by
  have all := gg_ord_all h (Nat.le_refl 8)
  have ex : ∀ A, ∃ j, A < 8 → j < 8 ∧ o j = A := fun A => by
    by_cases hA : A < 8
    · obtain ⟨j, h1, h2⟩ := all A hA
      exact ⟨j, fun _ => ⟨h1, h2⟩⟩
    · exact ⟨0, fun z => absurd z hA⟩
  refine ⟨fun A => Classical.choose (ex A), fun A x hA hx hT => ?_, fun A hA => (Classical.choose_spec (ex A) hA).1⟩
  obtain ⟨a1, a2⟩ := Classical.choose_spec (ex A) hA
  obtain ⟨b1, b2⟩ := Classical.choose_spec (ex x) hx
  show Classical.choose (ex x) < Classical.choose (ex A)
  revert a1 a2 b1 b2
  generalize Classical.choose (ex A) = i
  generalize Classical.choose (ex x) = j
  intro a1 a2 b1 b2
  rw [← a2] at hT
  obtain ⟨k, h1, h2⟩ := h.2.2 i a1 x hx hT
  rcases Nat.lt_or_ge k j with q | q
  · exact absurd (h2.trans b2.symm) (h.2.1 k j q b1)
  · omega
/-- two tables of the same grammar -/
theorem gc_two {G : gg_R} {D D' : Nat → Option Nat} {o : Nat → Nat} {kp : Nat → Bool} {T T' : Nat → Nat → Nat} {N N' : Nat} (hG : gg_ok G) (hD : gm_L G D) (hD' : gm_L G D') (ho : gg_ord (gg_to G D) o 8) (h : gc_okk (fun y => D y = some 0) G kp T N) (h' : gc_okk (fun y => D' y = some 0) G kp T' N') : ∀ n, n < N → n < N' → ∀ A, A < 8 → T A n = T' A n := by
  obtain ⟨rk, hrk, -⟩ := gg_rank8 ho
  exact gc_onek hG rk hrk h (gc_okk_em (gm_L_eq hD' hD) h')
theorem an_tab_one {G : gg_R} {kp : Nat → Bool} {A n v v' : Nat} (hG : gg_ok G) (hA : A < 8) (h : an_tab G kp A n v) (h' : an_tab G kp A n v') : v = v' := by
  obtain ⟨D, o, T, N, h1, h2, h3, h4, h5⟩ := h
  obtain ⟨D', o', T', N', g1, g2, g3, g4, g5⟩ := h'
  rw [h5, g5]
  exact gc_two hG h1 g1 h2 h3 g3 n h4 g4 A hA
theorem an_circ_M {G : gg_R} {P : Prop} {b : Bool} (h : an_circ G P) (h' : an_circM G b) : b = true ↔ P := by
  obtain ⟨D, o, c, h1, h2, h3, h4⟩ := h
  rw [h4]
  exact h' D o c h1 h2 h3
section M2G
variable {G : gg_R} {σ : gs_St} {t : List Nat} {l : List Int32} {d v : List Nat}
theorem n_isLength {y : Int32} {K : Int32 → gs_St → Prop} (k0 : (∀ n, n ≤ 16 → y ≠ nI n) → K 0 σ) (k1 : ∀ n, n ≤ 16 → y = nI n → K 1 σ) : C_Mo_isLength y σ K := by
  rcases pk_ix y (n := 17) (by decide) with q | q | ⟨n, hn, rfl⟩
  · exact ⟨fun _ => k0 (fun n hn e => absurd (e ▸ q) (nI_pos (by omega))), fun z => absurd q z⟩
  · have hno : ∀ n, n ≤ 16 → y ≠ nI n := fun n hn e => absurd (e ▸ q) (nI_ge (by omega) (by decide))
    exact ⟨fun _ => k0 hno, fun _ => ⟨fun _ => k0 hno, fun z => absurd q z⟩⟩
  · exact ⟨fun q => absurd q (nI_pos (by omega)), fun _ => ⟨fun q => absurd q (nI_ge hn (by decide)), fun _ => k1 n (by omega) rfl⟩⟩
/-- circle, and nothing that lasts has changed -/
theorem n_circ {K : Int32 → gs_St → Prop} (h : ml_at t G l d v σ) (k1 : ∀ τ, ml_at t G l d v τ → an_circM G true → K 1 τ) (k0 : ∀ τ, ml_at t G l d v τ → an_circM G false → K 0 τ) : C_Mo_circle σ K := by
  refine n_circle h.2.1 (fun b e f hb => ?_)
  have hml : ml_at t G l d v (gs_A (gs_A σ 7 e) 8 f) := ⟨h.1.of rfl rfl, h.2.1.of rfl rfl rfl rfl, h.2.2.1.of rfl rfl, h.2.2.2.1.of rfl rfl rfl rfl, h.2.2.2.2.elim Or.inl (fun z => Or.inr ⟨z.1, z.2.of rfl rfl⟩)⟩
  cases b with
  | true => exact k1 _ hml hb
  | false => exact k0 _ hml hb
/-- reckon, where there is no circle -/
theorem n_reck {x : Int32} {K : gs_St → Prop} (h : ml_at t G l d v σ) (hc : an_circM G false) (kk : ∀ D o T τ, ml_at t G l d v τ → gm_L G D → gg_ord (gg_to G D) o 8 → (∀ A p, T A p ≤ 1000000000000000001) → gc_okk (fun y => D y = some 0) G (fun r => decide (nI r ≠ x)) T 17 → mt_at T 17 τ → τ.1 5 = 1 → τ.1 6 = x → K τ) : C_Mo_reckon x σ K := by
  obtain ⟨D, hD⟩ := gm_L_ex G
  obtain ⟨o, c, ho, hst⟩ := gg_ord_ex (gg_to G D)
  have hc8 : ¬ c < 8 := fun z => absurd ((hc D o c hD ho hst).mpr z) Bool.false_ne_true
  have hle := gg_ord_le ho
  have e8 : c = 8 := by omega
  subst e8
  obtain ⟨rk, hrk, hr8⟩ := gg_rank8 ho
  refine n_reckon h.2.1 h.2.2.2.2 hD hrk hr8 (fun T τ hb hok hm h5 h6 hI hA hL => ?_)
  refine kk D o T τ ⟨h.1.of (hI 1 (by decide) (by decide)) (by rw [hA]), h.2.1.of (hI 0 (by decide) (by decide)) (by rw [hA]) (by rw [hA]) (by rw [hA]), h.2.2.1.of (hI 2 (by decide) (by decide)) (by rw [hA]), h.2.2.2.1.of (hI 3 (by decide) (by decide)) (hI 4 (by decide) (by decide)) (by rw [hA]) (by rw [hA]), Or.inr ⟨h5, D, T, hD, hb, ?_, hm⟩⟩ hD ho hb hok hm h5 h6
  rw [h6]
  exact hok
theorem n_trees {x y : Int32} {K : Int64 → gs_St → Prop} (h : ml_at t G l d v σ)
    (k0 : ∀ τ, ml_at t G l d v τ → ((∀ j, j < 8 → x ≠ nI j) ∨ (∀ n, n ≤ 16 → y ≠ nI n) ∨ an_circM G true) → K (-1) τ)
    (k1 : ∀ j, j < 8 → x = nI j → ∀ n, n ≤ 16 → y = nI n → an_circM G false → ∀ D o T τ, ml_at t G l d v τ → gm_L G D → gg_ord (gg_to G D) o 8 → (∀ A p, T A p ≤ 1000000000000000001) → gc_okk (fun y => D y = some 0) G (fun _ => true) T 17 → mt_at T 17 τ → K (if T j n ≤ 1000000000000000000 then lN (T j n) else -2) τ) : C_Mo_trees x y σ K := by
  refine n_isNt (fun j hj e => ?_) (fun hno => br_t rfl (k0 σ h (Or.inl hno)))
  subst e
  refine br_f (by decide) (n_isLength (fun hno => br_t rfl (k0 σ h (Or.inr (Or.inl hno)))) (fun n hn e => ?_))
  subst e
  refine br_f (by decide) (n_circ h (fun τ hτ hc => br_f (by decide) (k0 τ hτ (Or.inr (Or.inr hc)))) (fun τ hτ hc => br_t rfl ?_))
  refine n_reck hτ hc (fun D o T τ2 hτ2 hD ho hb hok hm h5 h6 => ?_)
  refine n_of (T := T) (N := 17) (by omega) (by decide) (by omega) hm ?_
  have hF : gd_F T j n = T j n := by unfold gd_F; rw [if_pos hj]
  rw [hF, gl_18]
  have hbn := hb j n
  have := k1 j hj rfl n hn rfl hc D o T τ2 hτ2 hD ho hb (gc_okk_kp (kp_m1 h.2.1.1) hok) hm
  refine ek_if (pk_lLE (by omega) (by decide)) (fun q => ?_) (fun q => ?_)
  · rw [if_pos q] at this
    exact this
  · rw [if_neg q] at this
    exact this
theorem n_treesWith {x y : Int32} {K : Int64 → gs_St → Prop} (h : ml_at t G l d v σ)
    (k0 : ∀ τ, ml_at t G l d v τ → ((∀ r, r < G.length → x ≠ nI r) ∨ (∀ n, n ≤ 16 → y ≠ nI n) ∨ an_circM G true) → K (-1) τ)
    (k1 : ∀ r, r < G.length → x = nI r → ∀ n, n ≤ 16 → y = nI n → an_circM G false → ∀ τ a, ml_at t G l d v τ → an_tab G (fun _ => true) 0 n a → 1000000000000000000 < a → K (-2) τ)
    (k2 : ∀ r, r < G.length → x = nI r → ∀ n, n ≤ 16 → y = nI n → an_circM G false → ∀ τ a b, ml_at t G l d v τ → an_tab G (fun _ => true) 0 n a → a ≤ 1000000000000000000 → an_tab G (fun q => decide (nI q ≠ nI r)) 0 n b → K (lN a - lN b) τ) : C_Mo_treesWith x y σ K := by
  refine n_isRule h.2.1 (fun r hr e => ?_) (fun hno => br_t rfl (k0 σ h (Or.inl hno)))
  subst e
  refine br_f (by decide) (n_isLength (fun hno => br_t rfl (k0 σ h (Or.inr (Or.inl hno)))) (fun n hn e => ?_))
  subst e
  refine br_f (by decide) (n_circ h (fun τ hτ hc => br_f (by decide) (k0 τ hτ (Or.inr (Or.inr hc)))) (fun τ hτ hc => br_t rfl ?_))
  refine n_trees (x := 0) (y := nI n) hτ (fun τ2 hτ2 hno => ?_) (fun j hj ej n2 hn2 en hcf D o T τ2 hτ2 hD ho hb hok hm => ?_)
  · rcases hno with z | z | z
    · exact absurd rfl (z 0 (by decide))
    · exact absurd rfl (z n hn)
    · obtain ⟨D, hD⟩ := gm_L_ex G
      obtain ⟨o, c, ho, hst⟩ := gg_ord_ex (gg_to G D)
      have a := hc D o c hD ho hst
      have b := z D o c hD ho hst
      exact absurd (a.mpr (b.mp rfl)) Bool.false_ne_true
  · have ej : j = 0 := ((nI_eq (a := 0) (b := j) (by decide) (by omega)).mp ej).symm
    have en : n2 = n := ((nI_eq (by omega) (by omega)).mp en).symm
    subst ej
    subst en
    have hbn := hb 0 n2
    have tab : an_tab G (fun _ => true) 0 n2 (T 0 n2) := ⟨D, o, T, 17, hD, ho, hok, by omega, rfl⟩
    by_cases q : T 0 n2 ≤ 1000000000000000000
    · rw [if_pos q]
      have hle : (0 : Int64) ≤ lN (T 0 n2) := (pk_lLE (a := 0) (b := T 0 n2) (by decide) (by omega)).mpr (Nat.zero_le _)
      refine br_t hle (n_reck hτ2 hc (fun D2 o2 T2 τ3 hτ3 hD2 ho2 hb2 hok2 hm2 h5 h6 => ?_))
      refine n_of (s := 0) (T := T2) (N := 17) (by decide) (by decide) (by omega) hm2 ?_
      have hF : gd_F T2 0 n2 = T2 0 n2 := by unfold gd_F; rw [if_pos (by decide)]
      rw [hF]
      exact k2 r hr rfl n2 hn rfl hc τ3 _ _ hτ3 tab q ⟨D2, o2, T2, 17, hD2, ho2, hok2, by omega, rfl⟩
    · rw [if_neg q]
      exact br_f (by decide) (k1 r hr rfl n2 hn rfl hc τ2 _ hτ2 tab (by omega))
end M2G
