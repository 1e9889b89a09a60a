/-! Layer 2 of the reference, part a: its rules and its small calls. -/
def mr_at (G : gg_R) (μ : gs_St) : Prop := gg_ok G ∧ μ.1 0 = nI G.length ∧ ∀ r, r < G.length → μ.2.1 0 r = nI (gg_l G r) ∧ μ.2.1 1 r = nI (gg_y G r).length ∧ ∀ i, i < (gg_y G r).length → μ.2.1 2 (r * 6 + i) = nI ((gg_y G r).getD i 0)
theorem mr_at.of {G : gg_R} {σ τ : gs_St} (h : mr_at G σ) (h0 : τ.1 0 = σ.1 0) (h1 : τ.2.1 0 = σ.2.1 0) (h2 : τ.2.1 1 = σ.2.1 1) (h3 : τ.2.1 2 = σ.2.1 2) : mr_at G τ := by
  refine ⟨h.1, h0.trans h.2.1, fun r hr => ?_⟩
  rw [h1, h2, h3]
  exact h.2.2 r hr
def mx_at (t : List Nat) (μ : gs_St) : Prop := t.length ≤ 6 ∧ (∀ i, i < t.length → t.getD i 0 < 24) ∧ μ.1 1 = nI t.length ∧ ∀ i, i < t.length → μ.2.1 3 i = nI (t.getD i 0)
def mi_at (l : List Int32) (μ : gs_St) : Prop := l.length ≤ 200 ∧ μ.1 2 = nI l.length ∧ ∀ i, i < l.length → μ.2.1 4 i = l.getD i 0
def md_at (d v : List Nat) (μ : gs_St) : Prop := d.length ≤ 200 ∧ v.length ≤ 16 ∧ μ.1 3 = nI d.length ∧ μ.1 4 = nI v.length ∧ (∀ i, i < d.length → μ.2.1 5 i = nI (d.getD i 0)) ∧ ∀ i, i < v.length → μ.2.1 6 i = nI (v.getD i 0)
/-- its counts: right for the rules but one, or for all -/
def mt_at (T : Nat → Nat → Nat) (N : Nat) (μ : gs_St) : Prop := ∀ A, A < 8 → ∀ p, p < N → μ.2.2 2 (A * 17 + p) = lN (T A p)
def mk_at (G : gg_R) (μ : gs_St) : Prop := ∃ (D : Nat → Option Nat) (T : Nat → Nat → Nat), gm_L G D ∧ (∀ A p, T A p ≤ 1000000000000000001) ∧ gc_okk (fun y => D y = some 0) G (fun r => decide (nI r ≠ μ.1 6)) T 17 ∧ mt_at T 17 μ
theorem mx_at.of {t : List Nat} {σ τ : gs_St} (h : mx_at t σ) (h0 : τ.1 1 = σ.1 1) (h1 : τ.2.1 3 = σ.2.1 3) : mx_at t τ := ⟨h.1, h.2.1, h0.trans h.2.2.1, fun i hi => by rw [h1]; exact h.2.2.2 i hi⟩
theorem mi_at.of {l : List Int32} {σ τ : gs_St} (h : mi_at l σ) (h0 : τ.1 2 = σ.1 2) (h1 : τ.2.1 4 = σ.2.1 4) : mi_at l τ := ⟨h.1, h0.trans h.2.1, fun i hi => by rw [h1]; exact h.2.2 i hi⟩
theorem md_at.of {d v : List Nat} {σ τ : gs_St} (h : md_at d v σ) (h0 : τ.1 3 = σ.1 3) (h1 : τ.1 4 = σ.1 4) (h2 : τ.2.1 5 = σ.2.1 5) (h3 : τ.2.1 6 = σ.2.1 6) : md_at d v τ := ⟨h.1, h.2.1, h0.trans h.2.2.1, h1.trans h.2.2.2.1, fun i hi => by rw [h2]; exact h.2.2.2.2.1 i hi, fun i hi => by rw [h3]; exact h.2.2.2.2.2 i hi⟩
theorem mk_at.of {G : gg_R} {σ τ : gs_St} (h : mk_at G σ) (h0 : τ.1 6 = σ.1 6) (h1 : τ.2.2 2 = σ.2.2 2) : mk_at G τ := by
  obtain ⟨D, T, a, b, c, e⟩ := h
  refine ⟨D, T, a, b, ?_, fun A hA p hp => by rw [h1]; exact e A hA p hp⟩
  rw [h0]
  exact c
/-- all but the counts -/
def ml_r (t : List Nat) (G : gg_R) (l : List Int32) (d v : List Nat) (μ : gs_St) : Prop := mx_at t μ ∧ mr_at G μ ∧ mi_at l μ ∧ md_at d v μ
def ml_at (t : List Nat) (G : gg_R) (l : List Int32) (d v : List Nat) (μ : gs_St) : Prop := mx_at t μ ∧ mr_at G μ ∧ mi_at l μ ∧ md_at d v μ ∧ (μ.1 5 = 0 ∨ (μ.1 5 = 1 ∧ mk_at G μ))
theorem ml_at.r {t : List Nat} {G : gg_R} {l : List Int32} {d v : List Nat} {μ : gs_St} (h : ml_at t G l d v μ) : ml_r t G l d v μ := ⟨h.1, h.2.1, h.2.2.1, h.2.2.2.1⟩
section M2A
variable {G : gg_R} {σ : gs_St} {t : List Nat} {l : List Int32} {d v : List Nat}
theorem n_isNt {x : Int32} {K : Int32 → gs_St → Prop} (h1 : ∀ j, j < 8 → x = nI j → K 1 σ) (h0 : (∀ j, j < 8 → x ≠ nI j) → K 0 σ) : C_Mo_isNonterminal x σ K := s_isNt h1 h0
theorem n_isNtN {s : Nat} {K : Int32 → gs_St → Prop} (hs : s < 2 ^ 31) (h1 : s < 8 → K 1 σ) (h0 : 8 ≤ s → K 0 σ) : C_Mo_isNonterminal (nI s) σ K := s_isNtN hs h1 h0
theorem n_isRule {x : Int32} {K : Int32 → gs_St → Prop} (h : mr_at G σ) (h1 : ∀ r, r < G.length → x = nI r → K 1 σ) (h0 : (∀ r, r < G.length → x ≠ nI r) → K 0 σ) : C_Mo_isRule x σ K := by
  have hG := h.1.1
  show (x < 0 → K 0 σ) ∧ (¬ (x < 0) → ((σ.1 0) ≤ x → K 0 σ) ∧ (¬ ((σ.1 0) ≤ x) → K 1 σ))
  rw [h.2.1]
  rcases pk_ix x (n := G.length) (by omega) with q | q | ⟨j, hj, rfl⟩
  · have hno : ∀ j, j < G.length → x ≠ nI j := fun j hj e => absurd (e ▸ q) (nI_pos (by omega))
    exact ⟨fun _ => h0 hno, fun z => absurd q z⟩
  · have hno : ∀ j, j < G.length → x ≠ nI j := fun j hj e => absurd (e ▸ q) (nI_ge hj (by omega))
    exact ⟨fun _ => h0 hno, fun _ => ⟨fun _ => h0 hno, fun z => absurd q z⟩⟩
  · exact ⟨fun z => absurd z (nI_pos (by omega)), fun _ => ⟨fun z => absurd z (nI_ge hj (by omega)), fun _ => h1 j hj rfl⟩⟩
theorem n_six (r i : Nat) : (6 : Int32) * nI r + nI i = nI (r * 6 + i) := by rw [show (6 : Int32) = nI 6 from rfl, pk_mul, nI_add, Nat.mul_comm]
theorem n_17 (r i : Nat) : (17 : Int32) * nI r + nI i = nI (r * 17 + i) := by rw [show (17 : Int32) = nI 17 from rfl, pk_mul, nI_add, Nat.mul_comm]
theorem n_at {r i : Nat} {K : Int32 → gs_St → Prop} (h : mr_at G σ) (hr : r < G.length) (hi : i < (gg_y G r).length) (k : K (nI ((gg_y G r).getD i 0)) σ) : C_Mo_at (nI r) (nI i) σ K := by
  have hG := h.1.1
  have hz := (h.1.2 r hr).2.1
  show vp_in ((6 : Int32) * nI r + nI i) 144 ∧ K (σ.2.1 2 ((6 : Int32) * nI r + nI i).toNatClampNeg) σ
  rw [n_six, nI_clamp (by omega), (h.2.2 r hr).2.2 i hi]
  exact ⟨vp_in_nI (by omega) (by decide), k⟩
theorem n_count {x : Int32} {K : Int32 → gs_St → Prop} (h : ml_at t G l d v σ) (k0 : x = 0 → K (nI G.length) σ) (k1 : x = 1 → K (nI t.length) σ) (k2 : x = 2 → K (nI l.length) σ) (k3 : x ≠ 0 → x ≠ 1 → x ≠ 2 → K (-1) σ) : C_Mo_count x σ K := by
  obtain ⟨⟨-, -, ht0, -⟩, ⟨-, hg2, -⟩, ⟨-, hl2, -⟩, -⟩ := h
  refine ⟨fun a => ⟨fun b => ⟨fun c => k3 a b c, fun c => ?_⟩, fun b => ?_⟩, fun a => ?_⟩
  · rw [hl2]; exact k2 (Classical.byContradiction c)
  · rw [ht0]; exact k1 (Classical.byContradiction b)
  · rw [hg2]; exact k0 (Classical.byContradiction a)
theorem n_row {x : Int32} {K : Int32 → gs_St → Prop} (h : ml_at t G l d v σ) (k0 : (∀ i, i < d.length → x ≠ nI i) → K (-1) σ) (k1 : ∀ i, i < d.length → x = nI i → K (nI (d.getD i 0)) σ) : C_Mo_row x σ K := by
  obtain ⟨-, -, -, ⟨h1, h2, h3, h4, h5, h6⟩, -⟩ := h
  show (x < 0 → K (-1) σ) ∧ (¬ (x < 0) → (x < (σ.1 3) → vp_in x 200 ∧ (K (σ.2.1 5 x.toNatClampNeg) σ)) ∧ (¬ (x < (σ.1 3)) → K (-1) σ))
  rw [h3]
  rcases pk_ix x (n := d.length) (by omega) with q | q | ⟨j, hj, rfl⟩
  · exact ⟨fun _ => k0 (fun i hi e => absurd (e ▸ q) (nI_pos (by omega))), fun z => absurd q z⟩
  · have hno : ∀ i, i < d.length → x ≠ nI i := fun i hi e => absurd (e ▸ q) (nI_ge hi (by omega))
    have hn : ¬ x < nI d.length := fun z => by
      rw [Int32.lt_iff_toInt_lt] at z
      rw [Int32.le_iff_toInt_le] at q
      omega
    exact ⟨fun _ => k0 hno, fun _ => ⟨fun z => absurd z hn, fun _ => k0 hno⟩⟩
  · refine ⟨fun z => absurd z (nI_pos (by omega)), fun _ => ⟨fun _ => ⟨vp_in_nI (by omega) (by decide), ?_⟩, fun z => absurd (nI_lt hj (by omega)) z⟩⟩
    rw [nI_clamp (by omega), h5 j hj]
    exact k1 j hj rfl
theorem n_leaf {x : Int32} {K : Int32 → gs_St → Prop} (h : ml_at t G l d v σ) (k0 : (∀ i, i < v.length → x ≠ nI i) → K (-1) σ) (k1 : ∀ i, i < v.length → x = nI i → K (nI (v.getD i 0)) σ) : C_Mo_leaf x σ K := by
  obtain ⟨-, -, -, ⟨h1, h2, h3, h4, h5, h6⟩, -⟩ := h
  show (x < 0 → K (-1) σ) ∧ (¬ (x < 0) → (x < (σ.1 4) → vp_in x 16 ∧ (K (σ.2.1 6 x.toNatClampNeg) σ)) ∧ (¬ (x < (σ.1 4)) → K (-1) σ))
  rw [h4]
  rcases pk_ix x (n := v.length) (by omega) with q | q | ⟨j, hj, rfl⟩
  · exact ⟨fun _ => k0 (fun i hi e => absurd (e ▸ q) (nI_pos (by omega))), fun z => absurd q z⟩
  · have hno : ∀ i, i < v.length → x ≠ nI i := fun i hi e => absurd (e ▸ q) (nI_ge hi (by omega))
    have hn : ¬ x < nI v.length := fun z => by
      rw [Int32.lt_iff_toInt_lt] at z
      rw [Int32.le_iff_toInt_le] at q
      omega
    exact ⟨fun _ => k0 hno, fun _ => ⟨fun z => absurd z hn, fun _ => k0 hno⟩⟩
  · refine ⟨fun z => absurd z (nI_pos (by omega)), fun _ => ⟨fun _ => ⟨vp_in_nI (by omega) (by decide), ?_⟩, fun z => absurd (nI_lt hj (by omega)) z⟩⟩
    rw [nI_clamp (by omega), h6 j hj]
    exact k1 j hj rfl
theorem n_symbol {x : Int32} {K : Int32 → gs_St → Prop} (h : ml_at t G l d v σ)
    (k0 : ((∀ s, s < 24 → x ≠ nI s) ∨ t.length = 6) → K (-1) σ)
    (k1 : ∀ s, s < 24 → x = nI s → t.length < 6 → ∀ τ, ml_at (t ++ [s]) G l d v τ → K (nI (t.length + 1)) τ) : C_Mo_symbol x σ K := by
  obtain ⟨⟨ht6, ht24, ht0, hti⟩, hg, hl, hd, hst⟩ := h
  rcases pk_ix x (n := 24) (by decide) with q | q | ⟨s, hs, rfl⟩
  · exact ⟨fun _ => k0 (Or.inl (fun s hs e => absurd (e ▸ q) (nI_pos (by omega)))), fun z => absurd q z⟩
  · have hno : ∀ s, s < 24 → x ≠ nI s := fun s hs e => absurd (e ▸ q) (nI_ge hs (by decide))
    exact ⟨fun _ => k0 (Or.inl hno), fun _ => ⟨fun _ => k0 (Or.inl hno), fun z => absurd q z⟩⟩
  · refine ⟨fun q => absurd q (nI_pos (by omega)), fun _ => ⟨fun q => absurd q (nI_ge hs (by decide)), fun _ => ?_⟩⟩
    rw [ht0]
    refine ek_if (not_congr (nI_eq (a := t.length) (b := 6) (by omega) (by decide))) (fun q => ?_) (fun q => k0 (Or.inr (Classical.byContradiction q)))
    have q : t.length < 6 := by omega
    refine ⟨vp_in_nI q (by decide), ?_⟩
    rw [nI_clamp (by omega)]
    intro σ1 e1 σ2 e2
    have v0 : σ2.1 1 = nI (t.length + 1) := by
      rw [e2]
      show σ1.1 1 + 1 = _
      rw [e1]
      show σ.1 1 + 1 = _
      rw [ht0, nI_1]
    rw [v0]
    refine k1 s hs rfl q σ2 ⟨⟨?_, fun i hi => ?_, ?_, fun i hi => ?_⟩, ?_⟩
    · rw [List.length_append]
      show t.length + 1 ≤ 6
      omega
    · rw [List.length_append] at hi
      have hi : i < t.length + 1 := hi
      by_cases e : i = t.length
      · rw [e, getD_append_e]
        exact hs
      · rw [getD_append_l (by omega)]
        exact ht24 i (by omega)
    · rw [List.length_append]
      exact v0
    · rw [List.length_append] at hi
      have hi : i < t.length + 1 := hi
      rw [e2, e1]
      show (if i = t.length then nI s else σ.2.1 3 i) = _
      by_cases e : i = t.length
      · rw [if_pos e, e, getD_append_e]
      · rw [if_neg e, getD_append_l (by omega)]
        exact hti i (by omega)
    · subst e2
      subst e1
      exact ⟨hg.of rfl rfl rfl rfl, hl.of rfl rfl, hd.of rfl rfl rfl rfl, hst.elim Or.inl (fun z => Or.inr ⟨z.1, z.2.of rfl rfl⟩)⟩
theorem n_list {x : Int32} {K : Int32 → gs_St → Prop} (h : ml_at t G l d v σ) (k0 : l.length = 200 → K (-1) σ) (k1 : l.length < 200 → ∀ τ, ml_at t G (l ++ [x]) d v τ → K (nI (l.length + 1)) τ) : C_Mo_list x σ K := by
  obtain ⟨ht, hg, ⟨hl1, hl2, hl3⟩, hd, hst⟩ := h
  unfold C_Mo_list
  rw [hl2]
  refine ek_if (not_congr (nI_eq (a := l.length) (b := 200) (by omega) (by decide))) (fun q => ?_) (fun q => k0 (Classical.byContradiction q))
  have q : l.length < 200 := by omega
  refine ⟨vp_in_nI q (by decide), ?_⟩
  rw [nI_clamp (by omega)]
  intro σ1 e1 σ2 e2
  have v0 : σ2.1 2 = nI (l.length + 1) := by
    rw [e2]
    show σ1.1 2 + 1 = _
    rw [e1]
    show σ.1 2 + 1 = _
    rw [hl2, nI_1]
  rw [v0]
  refine k1 q σ2 ⟨?_, ?_, ⟨?_, ?_, fun i hi => ?_⟩, ?_⟩
  · subst e2
    subst e1
    exact ht.of rfl rfl
  · subst e2
    subst e1
    exact hg.of rfl rfl rfl rfl
  · rw [List.length_append]
    show l.length + 1 ≤ 200
    omega
  · rw [List.length_append]
    exact v0
  · rw [List.length_append] at hi
    have hi : i < l.length + 1 := hi
    rw [e2, e1]
    show (if i = l.length then x else σ.2.1 4 i) = _
    by_cases e : i = l.length
    · rw [if_pos e, e, getD_append_e]
    · rw [if_neg e, getD_append_l (by omega)]
      exact hl3 i (by omega)
  · subst e2
    subst e1
    exact ⟨hd.of rfl rfl rfl rfl, hst.elim Or.inl (fun z => Or.inr ⟨z.1, z.2.of rfl rfl⟩)⟩
theorem n_about {x i : Int32} {K : Int32 → gs_St → Prop} (h : ml_at t G l d v σ) (k0 : (∀ r, r < G.length → x ≠ nI r) → K (-1) σ)
    (k1 : ∀ r, r < G.length → x = nI r → i = -1 → K (nI (gg_l G r)) σ) (k2 : ∀ r, r < G.length → x = nI r → ∀ j, j < (gg_y G r).length → i = nI j → K (nI ((gg_y G r).getD j 0)) σ)
    (k3 : ∀ r, r < G.length → x = nI r → i ≠ -1 → (∀ j, j < (gg_y G r).length → i ≠ nI j) → K (-1) σ) : C_Mo_about x i σ K := by
  have hg := h.2.1
  have hG := hg.1.1
  refine n_isRule hg (fun r hr e => ?_) (fun hno => br_t rfl (k0 hno))
  subst e
  obtain ⟨hl8, hz, h24⟩ := hg.1.2 r hr
  obtain ⟨b1, b2, b3⟩ := hg.2.2 r hr
  have hv : vp_in (nI r) 24 := vp_in_nI (by omega) (by decide)
  refine br_f (by decide) ?_
  rw [nI_clamp (by omega), b1, b2]
  by_cases hi : i < (-1 : Int32)
  · refine br_t hi (k3 r hr rfl ?_ ?_)
    · rintro rfl
      exact absurd hi (by decide)
    · rintro j hj rfl
      have h1 := nI_pos' (n := j) (by omega)
      rw [Int32.lt_iff_toInt_lt] at hi
      rw [Int32.le_iff_toInt_le] at h1
      rw [show (-1 : Int32).toInt = -1 by decide] at hi
      rw [show (0 : Int32).toInt = 0 by decide] at h1
      omega
  · refine br_f hi ⟨hv, ?_⟩
    by_cases he : i = -1
    · subst he
      refine br_t ?_ (br_f (fun z => z rfl) ⟨hv, k1 r hr rfl rfl⟩)
      rw [Int32.lt_iff_toInt_lt, nI_toInt (by omega), show (-1 : Int32).toInt = -1 by decide]
      omega
    · have h0 : ¬ i < 0 := fun z => he (by
        apply Int32.toInt_inj.mp
        rw [Int32.lt_iff_toInt_lt, show (0 : Int32).toInt = 0 by decide] at z
        rw [Int32.lt_iff_toInt_lt, show (-1 : Int32).toInt = -1 by decide] at hi
        rw [show (-1 : Int32).toInt = -1 by decide]
        omega)
      obtain ⟨j, hj, rfl⟩ := nI_of h0
      refine ek_if (nI_ltI hj (by omega)) (fun q => br_t he (n_at hg hr q (k2 r hr rfl j q rfl))) (fun q => k3 r hr rfl he (fun j' hj' e => ?_))
      have := (nI_eq hj (by omega)).mp e
      omega
end M2A
