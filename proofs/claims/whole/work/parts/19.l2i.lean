/-! Layer 2, part i: the class's state between two calls; the calls that don't count. -/
/-- the text of a coming rule -/
def tx_at (t : List Nat) (σ : gs_St) : Prop := t.length ≤ 6 ∧ (∀ i, i < t.length → t.getD i 0 < 24) ∧ σ.1 0 = nI t.length ∧ ∀ i, i < t.length → σ.2.1 0 i = nI (t.getD i 0)
/-- the list -/
def li_at (l : List Int32) (σ : gs_St) : Prop := l.length ≤ 200 ∧ σ.1 14 = nI l.length ∧ ∀ i, i < l.length → σ.2.1 14 i = l.getD i 0
/-- the tree last drawn: its row, its yield -/
def dr_at (d v : List Nat) (σ : gs_St) : Prop := d.length ≤ 200 ∧ v.length ≤ 16 ∧ σ.1 10 = nI d.length ∧ σ.1 11 = nI v.length ∧ (∀ i, i < d.length → σ.2.1 10 i = nI (d.getD i 0)) ∧ ∀ i, i < v.length → σ.2.1 11 i = nI (v.getD i 0)
/-- what was found out of the rules -/
def st_w (G : gg_R) (D O : Nat → Option Nat) (o : Nat → Nat) (c : Nat) (T T' : Nat → Nat → Nat) (N N' : Nat) (σ : gs_St) : Prop :=
  le_at D σ ∧ ar_at O σ ∧ gm_L G D ∧ gm_L (gm_A G D) O ∧ gg_bd D 1679616 ∧ gg_bd O 80621568 ∧ gg_ord (gg_to G D) o c ∧ (8 ≤ c ∨ gg_stk (gg_to G D) o c) ∧ (∀ j, j < c → σ.2.1 7 j = nI (o j)) ∧ σ.1 3 = nI c ∧ c ≤ 8 ∧
  σ.1 5 = nI N ∧ N ≤ 17 ∧ cs_at G D (fun _ => true) T N σ ∧ σ.1 7 = nI N' ∧ N' ≤ 17 ∧ cs_atw G D (fun r => decide (nI r ≠ σ.1 6)) T' N' σ
def st_at (G : gg_R) (σ : gs_St) : Prop := ∃ (D O : Nat → Option Nat) (o : Nat → Nat) (c : Nat) (T T' : Nat → Nat → Nat) (N N' : Nat), st_w G D O o c T T' N N' σ
theorem tx_at.of {t : List Nat} {σ τ : gs_St} (h : tx_at t σ) (h0 : τ.1 0 = σ.1 0) (h1 : τ.2.1 0 = σ.2.1 0) : tx_at t τ := ⟨h.1, h.2.1, h0.trans h.2.2.1, fun i hi => by rw [h1]; exact h.2.2.2 i hi⟩
theorem li_at.of {l : List Int32} {σ τ : gs_St} (h : li_at l σ) (h0 : τ.1 14 = σ.1 14) (h1 : τ.2.1 14 = σ.2.1 14) : li_at l τ := ⟨h.1, h0.trans h.2.1, fun i hi => by rw [h1]; exact h.2.2 i hi⟩
theorem dr_at.of {d v : List Nat} {σ τ : gs_St} (h : dr_at d v σ) (h0 : τ.1 10 = σ.1 10) (h1 : τ.1 11 = σ.1 11) (h2 : τ.2.1 10 = σ.2.1 10) (h3 : τ.2.1 11 = σ.2.1 11) : dr_at d v τ := ⟨h.1, h.2.1, h0.trans h.2.2.1, h1.trans h.2.2.2.1, fun i hi => by rw [h2]; exact h.2.2.2.2.1 i hi, fun i hi => by rw [h3]; exact h.2.2.2.2.2 i hi⟩
theorem cs_at.of {G : gg_R} {D : Nat → Option Nat} {kp : Nat → Bool} {T : Nat → Nat → Nat} {N : Nat} {σ τ : gs_St} (h : cs_at G D kp T N σ) (h0 : τ.2.2 0 = σ.2.2 0) (h1 : τ.2.2 1 = σ.2.2 1) : cs_at G D kp T N τ :=
  ⟨h.1, fun A hA p hp => by rw [h0]; exact h.2.1 A hA p hp, h.2.2.1, fun r hr hk i hi p hp => by rw [h1]; exact h.2.2.2 r hr hk i hi p hp⟩
theorem cs_atw.of {G : gg_R} {D : Nat → Option Nat} {kp : Nat → Bool} {T : Nat → Nat → Nat} {N : Nat} {σ τ : gs_St} (h : cs_atw G D kp T N σ) (h0 : τ.2.2 2 = σ.2.2 2) (h1 : τ.2.2 3 = σ.2.2 3) : cs_atw G D kp T N τ :=
  ⟨h.1, fun A hA p hp => by rw [h0]; exact h.2.1 A hA p hp, h.2.2.1, fun r hr hk i hi p hp => by rw [h1]; exact h.2.2.2 r hr hk i hi p hp⟩
theorem st_at.of {G : gg_R} {σ τ : gs_St} (h : st_at G σ) (a4 : τ.2.1 4 = σ.2.1 4) (a5 : τ.2.1 5 = σ.2.1 5) (a7 : τ.2.1 7 = σ.2.1 7) (i3 : τ.1 3 = σ.1 3) (i5 : τ.1 5 = σ.1 5) (i6 : τ.1 6 = σ.1 6) (i7 : τ.1 7 = σ.1 7) (l0 : τ.2.2 0 = σ.2.2 0) (l1 : τ.2.2 1 = σ.2.2 1) (l2 : τ.2.2 2 = σ.2.2 2) (l3 : τ.2.2 3 = σ.2.2 3) : st_at G τ := by
  obtain ⟨D, O, o, c, T, T', N, N', h1, h2, h3, h4, h5, h6, h7, h8, h9, h10, h11, h12, h13, h14, h15, h16, h17⟩ := h
  refine ⟨D, O, o, c, T, T', N, N', fun A hA => by rw [a4]; exact h1 A hA, fun A hA => by rw [a5]; exact h2 A hA, h3, h4, h5, h6, h7, h8, fun j hj => by rw [a7]; exact h9 j hj, i3.trans h10, h11, i5.trans h12, h13, h14.of l0 l1, i7.trans h15, h16, ?_⟩
  rw [i6]
  exact h17.of l2 l3
/-- the class's state -/
def cl_at (t : List Nat) (G : gg_R) (l : List Int32) (d v : List Nat) (σ : gs_St) : Prop :=
  tx_at t σ ∧ gr_at G σ ∧ li_at l σ ∧ dr_at d v σ ∧ σ.1 4 = -1 ∧ (σ.1 1 = 0 ∨ (σ.1 1 = 1 ∧ st_at G σ))
theorem getD_append_l {α : Type} {a b : List α} {i : Nat} {x : α} (h : i < a.length) : (a ++ b).getD i x = a.getD i x := by
  rw [List.getD_eq_getElem?_getD, List.getD_eq_getElem?_getD, List.getElem?_append_left h]
theorem getD_append_e {α : Type} {a : List α} {x y : α} : (a ++ [y]).getD a.length x = y := by
  rw [List.getD_eq_getElem?_getD, List.getElem?_append_right (Nat.le_refl _), Nat.sub_self]
  rfl
section L2I
variable {G : gg_R} {σ : gs_St} {t : List Nat} {l : List Int32} {d v : List Nat}
theorem s_symbol {x : Int32} {K : Int32 → gs_St → Prop} (h : cl_at t G l d v σ)
    (k0 : ((∀ s, s < 24 → x ≠ nI s) ∨ t.length = 6) → K (-1) σ)
    (k1 : ∀ s, s < 24 → x = nI s → t.length < 6 → ∀ τ, cl_at (t ++ [s]) G l d v τ → K (nI (t.length + 1)) τ) : C_Gl_symbol x σ K := by
  obtain ⟨⟨ht6, ht24, ht0, hti⟩, hg, hl, hd, h4, hst⟩ := h
  rcases pk_ix x (n := 24) (by decide) with q | q | ⟨s, hs, rfl⟩
  · exact ⟨fun _ => k0 (Or.inl (fun s hs e => absurd (e ▸ q) (nI_pos (by omega)))), fun z => absurd q z⟩
  · have hno : ∀ s, s < 24 → x ≠ nI s := fun s hs e => absurd (e ▸ q) (nI_ge hs (by decide))
    exact ⟨fun _ => k0 (Or.inl hno), fun _ => ⟨fun _ => k0 (Or.inl hno), fun z => absurd q z⟩⟩
  · refine ⟨fun q => absurd q (nI_pos (by omega)), fun _ => ⟨fun q => absurd q (nI_ge hs (by decide)), fun _ => ?_⟩⟩
    refine pk_lt t.length 6 (fun q => ?_) (fun q => k0 (Or.inr (by omega))) ht0
    rw [ht0]
    refine ⟨vp_in_nI q (by decide), ?_⟩
    rw [nI_clamp (by omega)]
    intro σ1 e1 σ2 e2
    have v0 : σ2.1 0 = nI (t.length + 1) := by
      rw [e2]
      show σ1.1 0 + 1 = _
      rw [e1]
      show σ.1 0 + 1 = _
      rw [ht0, nI_1]
    rw [v0]
    refine k1 s hs rfl q σ2 ⟨⟨?_, fun i hi => ?_, ?_, fun i hi => ?_⟩, hg.of ?_ ?_ ?_ ?_, ?_⟩
    · rw [List.length_append]
      show t.length + 1 ≤ 6
      omega
    · rw [List.length_append] at hi
      have hi : i < t.length + 1 := hi
      by_cases e : i = t.length
      · rw [e, getD_append_e]
        exact hs
      · rw [getD_append_l (by omega)]
        exact ht24 i (by omega)
    · rw [List.length_append]
      exact v0
    · rw [List.length_append] at hi
      have hi : i < t.length + 1 := hi
      rw [e2, e1]
      show (if i = t.length then nI s else σ.2.1 0 i) = _
      by_cases e : i = t.length
      · rw [if_pos e, e, getD_append_e]
      · rw [if_neg e, getD_append_l (by omega)]
        exact hti i (by omega)
    · rw [e2, e1]; rfl
    · rw [e2, e1]; rfl
    · rw [e2, e1]; rfl
    · rw [e2, e1]; rfl
    · subst e2
      subst e1
      exact ⟨hl.of rfl rfl, hd.of rfl rfl rfl rfl, h4, hst.elim Or.inl (fun z => Or.inr ⟨z.1, z.2.of rfl rfl rfl rfl rfl rfl rfl rfl rfl rfl rfl⟩)⟩
theorem s_list {x : Int32} {K : Int32 → gs_St → Prop} (h : cl_at t G l d v σ) (k0 : l.length = 200 → K (-1) σ) (k1 : l.length < 200 → ∀ τ, cl_at t G (l ++ [x]) d v τ → K (nI (l.length + 1)) τ) : C_Gl_list x σ K := by
  obtain ⟨ht, hg, ⟨hl1, hl2, hl3⟩, hd, h4, hst⟩ := h
  show ((σ.1 14) < (200 : Int32) → _) ∧ (¬ ((σ.1 14) < (200 : Int32)) → _)
  refine pk_lt l.length 200 (fun q => ?_) (fun q => k0 (by omega)) hl2
  rw [hl2]
  refine ⟨vp_in_nI q (by decide), ?_⟩
  rw [nI_clamp (by omega)]
  intro σ1 e1 σ2 e2
  have v0 : σ2.1 14 = nI (l.length + 1) := by
    rw [e2]
    show σ1.1 14 + 1 = _
    rw [e1]
    show σ.1 14 + 1 = _
    rw [hl2, nI_1]
  rw [v0]
  refine k1 q σ2 ⟨?_, hg.of ?_ ?_ ?_ ?_, ⟨?_, ?_, fun i hi => ?_⟩, ?_⟩
  · subst e2
    subst e1
    exact ht.of rfl rfl
  · rw [e2, e1]; rfl
  · rw [e2, e1]; rfl
  · rw [e2, e1]; rfl
  · rw [e2, e1]; rfl
  · rw [List.length_append]
    show l.length + 1 ≤ 200
    omega
  · rw [List.length_append]
    exact v0
  · rw [List.length_append] at hi
    have hi : i < l.length + 1 := hi
    rw [e2, e1]
    show (if i = l.length then x else σ.2.1 14 i) = _
    by_cases e : i = l.length
    · rw [if_pos e, e, getD_append_e]
    · rw [if_neg e, getD_append_l (by omega)]
      exact hl3 i (by omega)
  · subst e2
    subst e1
    exact ⟨hd.of rfl rfl rfl rfl, h4, hst.elim Or.inl (fun z => Or.inr ⟨z.1, z.2.of rfl rfl rfl rfl rfl rfl rfl rfl rfl rfl rfl⟩)⟩
theorem s_count {x : Int32} {K : Int32 → gs_St → Prop} (h : cl_at t G l d v σ) (k0 : x = 0 → K (nI G.length) σ) (k1 : x = 1 → K (nI t.length) σ) (k2 : x = 2 → K (nI l.length) σ) (k3 : x ≠ 0 → x ≠ 1 → x ≠ 2 → K (-1) σ) : C_Gl_count x σ K := by
  obtain ⟨⟨-, -, ht0, -⟩, ⟨-, hg2, -⟩, ⟨-, hl2, -⟩, -⟩ := h
  refine ⟨fun e => ?_, fun e => ?_, fun e => ?_, fun e => k3 ?_ ?_ ?_⟩
  · rw [hg2]; exact k0 e
  · rw [ht0]; exact k1 e
  · rw [hl2]; exact k2 e
  · rintro rfl
    exact absurd e (by decide)
  · rintro rfl
    exact absurd e (by decide)
  · rintro rfl
    exact absurd e (by decide)
theorem s_row {x : Int32} {K : Int32 → gs_St → Prop} (h : cl_at t G l d v σ) (k0 : (∀ i, i < d.length → x ≠ nI i) → K (-1) σ) (k1 : ∀ i, i < d.length → x = nI i → K (nI (d.getD i 0)) σ) : C_Gl_row x σ K := by
  obtain ⟨-, -, -, ⟨h1, h2, h3, h4, h5, h6⟩, -⟩ := h
  show (x < 0 → K (-1) σ) ∧ (¬ (x < 0) → ((σ.1 10) ≤ x → K (-1) σ) ∧ (¬ ((σ.1 10) ≤ x) → vp_in x 200 ∧ (K (σ.2.1 10 x.toNatClampNeg) σ)))
  rw [h3]
  rcases pk_ix x (n := d.length) (by omega) with q | q | ⟨j, hj, rfl⟩
  · exact ⟨fun _ => k0 (fun i hi e => absurd (e ▸ q) (nI_pos (by omega))), fun z => absurd q z⟩
  · have hno : ∀ i, i < d.length → x ≠ nI i := fun i hi e => absurd (e ▸ q) (nI_ge hi (by omega))
    exact ⟨fun _ => k0 hno, fun _ => ⟨fun _ => k0 hno, fun z => absurd q z⟩⟩
  · refine ⟨fun z => absurd z (nI_pos (by omega)), fun _ => ⟨fun z => absurd z (nI_ge hj (by omega)), fun _ => ⟨vp_in_nI (by omega) (by decide), ?_⟩⟩⟩
    rw [nI_clamp (by omega), h5 j hj]
    exact k1 j hj rfl
theorem s_leaf {x : Int32} {K : Int32 → gs_St → Prop} (h : cl_at t G l d v σ) (k0 : (∀ i, i < v.length → x ≠ nI i) → K (-1) σ) (k1 : ∀ i, i < v.length → x = nI i → K (nI (v.getD i 0)) σ) : C_Gl_leaf x σ K := by
  obtain ⟨-, -, -, ⟨h1, h2, h3, h4, h5, h6⟩, -⟩ := h
  show (x < 0 → K (-1) σ) ∧ (¬ (x < 0) → ((σ.1 11) ≤ x → K (-1) σ) ∧ (¬ ((σ.1 11) ≤ x) → vp_in x 16 ∧ (K (σ.2.1 11 x.toNatClampNeg) σ)))
  rw [h4]
  rcases pk_ix x (n := v.length) (by omega) with q | q | ⟨j, hj, rfl⟩
  · exact ⟨fun _ => k0 (fun i hi e => absurd (e ▸ q) (nI_pos (by omega))), fun z => absurd q z⟩
  · have hno : ∀ i, i < v.length → x ≠ nI i := fun i hi e => absurd (e ▸ q) (nI_ge hi (by omega))
    exact ⟨fun _ => k0 hno, fun _ => ⟨fun _ => k0 hno, fun z => absurd q z⟩⟩
  · refine ⟨fun z => absurd z (nI_pos (by omega)), fun _ => ⟨fun z => absurd z (nI_ge hj (by omega)), fun _ => ⟨vp_in_nI (by omega) (by decide), ?_⟩⟩⟩
    rw [nI_clamp (by omega), h6 j hj]
    exact k1 j hj rfl
theorem s_about {x i : Int32} {K : Int32 → gs_St → Prop} (h : cl_at t G l d v σ) (k0 : (∀ r, r < G.length → x ≠ nI r) → K (-1) σ)
    (k1 : ∀ r, r < G.length → x = nI r → i = -1 → K (nI (gg_l G r)) σ) (k2 : ∀ r, r < G.length → x = nI r → ∀ j, j < (gg_y G r).length → i = nI j → K (nI ((gg_y G r).getD j 0)) σ)
    (k3 : ∀ r, r < G.length → x = nI r → i ≠ -1 → (∀ j, j < (gg_y G r).length → i ≠ nI j) → K (-1) σ) : C_Gl_about x i σ K := by
  have hg := h.2.1
  have hG := hg.1.1
  refine s_has hg (fun r hr e => ?_) (fun hno => br_t rfl (k0 hno))
  subst e
  obtain ⟨hl8, hz, h24⟩ := hg.1.2 r hr
  refine br_f (by decide) ?_
  by_cases hi : i < (-1 : Int32)
  · refine br_t hi (k3 r hr rfl ?_ ?_)
    · rintro rfl
      exact absurd hi (by decide)
    · rintro j hj rfl
      have h1 := nI_pos' (n := j) (by omega)
      rw [Int32.lt_iff_toInt_lt] at hi
      rw [Int32.le_iff_toInt_le] at h1
      rw [show (-1 : Int32).toInt = -1 by decide] at hi
      rw [show (0 : Int32).toInt = 0 by decide] at h1
      omega
  · refine br_f hi (s_sizeOf hg hr ?_)
    by_cases he : i = -1
    · subst he
      refine br_t ?_ (br_f (fun z => z rfl) (s_leftOf hg hr (k1 r hr rfl rfl)))
      rw [Int32.lt_iff_toInt_lt, nI_toInt (by omega), show (-1 : Int32).toInt = -1 by decide]
      omega
    · have h0 : ¬ i < 0 := fun z => he (by
        apply Int32.toInt_inj.mp
        rw [Int32.lt_iff_toInt_lt, show (0 : Int32).toInt = 0 by decide] at z
        rw [Int32.lt_iff_toInt_lt, show (-1 : Int32).toInt = -1 by decide] at hi
        rw [show (-1 : Int32).toInt = -1 by decide]
        omega)
      obtain ⟨j, hj, rfl⟩ := nI_of h0
      refine ek_if (nI_ltI hj (by omega)) (fun q => br_t he (s_symbolAt hg hr q (k2 r hr rfl j q rfl))) (fun q => k3 r hr rfl he (fun j' hj' e => ?_))
      have := (nI_eq hj (by omega)).mp e
      omega
end L2I
