/-! Layer 2, part a: the grammar as a list, the small methods of the class over a state that holds it. -/
theorem gs_AA (σ : gs_St) (k : Nat) (f g : Nat → Int32) : gs_A (gs_A σ k f) k g = gs_A σ k g := by
  refine Prod.ext rfl (Prod.ext (funext fun j => ?_) rfl)
  show (if j = k then g else (if j = k then f else σ.2.1 j)) = (if j = k then g else σ.2.1 j)
  split <;> rfl
theorem gs_Aid (σ : gs_St) (k : Nat) : gs_A σ k (σ.2.1 k) = σ := by
  refine Prod.ext rfl (Prod.ext (funext fun j => ?_) rfl)
  show (if j = k then σ.2.1 k else σ.2.1 j) = σ.2.1 j
  split
  · rename_i e
    rw [e]
  · rfl
abbrev gg_R : Type := List (Nat × List Nat)
def gg_l (G : gg_R) (r : Nat) : Nat := (G.getD r (0, [])).1
def gg_y (G : gg_R) (r : Nat) : List Nat := (G.getD r (0, [])).2
/-- a grammar within the limits -/
def gg_ok (G : gg_R) : Prop := G.length ≤ 24 ∧ ∀ r, r < G.length → gg_l G r < 8 ∧ (gg_y G r).length ≤ 6 ∧ ∀ i, i < (gg_y G r).length → (gg_y G r).getD i 0 < 24
/-- the class's fields hold the grammar -/
def gr_at (G : gg_R) (σ : gs_St) : Prop := gg_ok G ∧ σ.1 2 = nI G.length ∧ ∀ r, r < G.length → σ.2.1 1 r = nI (gg_l G r) ∧ σ.2.1 2 r = nI (gg_y G r).length ∧ ∀ i, i < (gg_y G r).length → σ.2.1 3 (r * 6 + i) = nI ((gg_y G r).getD i 0)
theorem gr_at.of {G : gg_R} {σ τ : gs_St} (h : gr_at G σ) (h0 : τ.1 2 = σ.1 2) (h1 : τ.2.1 1 = σ.2.1 1) (h2 : τ.2.1 2 = σ.2.1 2) (h3 : τ.2.1 3 = σ.2.1 3) : gr_at G τ := by
  refine ⟨h.1, h0.trans h.2.1, fun r hr => ?_⟩
  rw [h1, h2, h3]
  exact h.2.2 r hr
theorem gg_getD {α : Type} {l : List α} {i : Nat} {d : α} (h : i < l.length) : l.getD i d = l[i] := by
  rw [List.getD_eq_getElem?_getD, List.getElem?_eq_getElem h]
  rfl
theorem gg_mem {G : gg_R} {r : Nat} (hr : r < G.length) : (gg_l G r, gg_y G r) ∈ G := by
  have e : G.getD r (0, []) = G[r] := gg_getD hr
  show ((G.getD r (0, [])).1, (G.getD r (0, [])).2) ∈ G
  rw [e]
  exact List.getElem_mem hr
theorem gg_idx {G : gg_R} {q : Nat × List Nat} (h : q ∈ G) : ∃ r, r < G.length ∧ gg_l G r = q.1 ∧ gg_y G r = q.2 := by
  obtain ⟨r, hr, e⟩ := List.getElem_of_mem h
  refine ⟨r, hr, ?_, ?_⟩
  · show (G.getD r (0, [])).1 = q.1
    rw [gg_getD hr, e]
  · show (G.getD r (0, [])).2 = q.2
    rw [gg_getD hr, e]
theorem gg_nil {ys : List Nat} {i : Nat} (h : ys.drop i = []) : ys.length ≤ i := List.drop_eq_nil_iff.mp h
theorem gg_cons {ys zs : List Nat} {i s : Nat} (h : ys.drop i = s :: zs) : i < ys.length ∧ ys.getD i 0 = s ∧ ys.drop (i + 1) = zs := by
  have hi : i < ys.length := by
    rcases Nat.lt_or_ge i ys.length with q | q
    · exact q
    · rw [List.drop_eq_nil_iff.mpr q] at h
      cases h
  rw [List.drop_eq_getElem_cons hi] at h
  injection h with h1 h2
  exact ⟨hi, by rw [gg_getD hi]; exact h1, h2⟩
theorem gg_drop {ys : List Nat} {i : Nat} (h : i < ys.length) : ys.drop i = ys.getD i 0 :: ys.drop (i + 1) := by
  rw [List.drop_eq_getElem_cons h, gg_getD h]
/-- no answer is -1 -/
def gg_o : Option Nat → Int32
  | none => -1
  | some n => nI n
theorem gg_o_none {o : Option Nat} (hb : ∀ n, o = some n → n < 2 ^ 31) : gg_o o = -1 ↔ o = none := by
  cases o with
  | none => exact ⟨fun _ => rfl, fun _ => rfl⟩
  | some n =>
    constructor
    · intro h
      have h1 : nI n = -1 := h
      have h2 := nI_pos (n := n) (hb n rfl)
      rw [h1] at h2
      exact absurd (by decide) h2
    · intro h
      cases h
section L2A
variable {G : gg_R} {σ : gs_St}
theorem s_isNt {x : Int32} {K : Int32 → gs_St → Prop} (h1 : ∀ j, j < 8 → x = nI j → K 1 σ) (h0 : (∀ j, j < 8 → x ≠ nI j) → K 0 σ) : C_Gl_isNonterminal x σ K := by
  rcases pk_ix x (n := 8) (by decide) with h | h | ⟨j, hj, rfl⟩
  · have hno : ∀ j, j < 8 → x ≠ nI j := fun j hj e => absurd (e ▸ h) (nI_pos (by omega))
    exact ⟨fun _ => h0 hno, fun q => absurd h q⟩
  · have hno : ∀ j, j < 8 → x ≠ nI j := fun j hj e => absurd (e ▸ h) (nI_ge hj (by decide))
    exact ⟨fun _ => h0 hno, fun _ => ⟨fun _ => h0 hno, fun q => absurd h q⟩⟩
  · exact ⟨fun q => absurd q (nI_pos (by omega)), fun _ => ⟨fun q => absurd q (nI_ge hj (by decide)), fun _ => h1 j hj rfl⟩⟩
theorem s_isNtN {s : Nat} {K : Int32 → gs_St → Prop} (hs : s < 2 ^ 31) (h1 : s < 8 → K 1 σ) (h0 : 8 ≤ s → K 0 σ) : C_Gl_isNonterminal (nI s) σ K :=
  ⟨fun q => absurd q (nI_pos hs), fun _ => pk_le 8 s h0 h1⟩
theorem s_has {x : Int32} {K : Int32 → gs_St → Prop} (h : gr_at G σ) (h1 : ∀ r, r < G.length → x = nI r → K 1 σ) (h0 : (∀ r, r < G.length → x ≠ nI r) → K 0 σ) : C_Gr_has x σ K := by
  have hG := h.1.1
  show (x < 0 → K 0 σ) ∧ (¬ (x < 0) → ((σ.1 2) ≤ x → K 0 σ) ∧ (¬ ((σ.1 2) ≤ x) → K 1 σ))
  rw [h.2.1]
  rcases pk_ix x (n := G.length) (by omega) with q | q | ⟨j, hj, rfl⟩
  · have hno : ∀ j, j < G.length → x ≠ nI j := fun j hj e => absurd (e ▸ q) (nI_pos (by omega))
    exact ⟨fun _ => h0 hno, fun z => absurd q z⟩
  · have hno : ∀ j, j < G.length → x ≠ nI j := fun j hj e => absurd (e ▸ q) (nI_ge hj (by omega))
    exact ⟨fun _ => h0 hno, fun _ => ⟨fun _ => h0 hno, fun z => absurd q z⟩⟩
  · exact ⟨fun z => absurd z (nI_pos (by omega)), fun _ => ⟨fun z => absurd z (nI_ge hj (by omega)), fun _ => h1 j hj rfl⟩⟩
theorem s_sizeOf {r : Nat} {K : Int32 → gs_St → Prop} (h : gr_at G σ) (hr : r < G.length) (k : K (nI (gg_y G r).length) σ) : C_Gr_sizeOf (nI r) σ K := by
  have hG := h.1.1
  refine ⟨vp_in_nI (by omega) (by decide), ?_⟩
  rw [nI_clamp (by omega), (h.2.2 r hr).2.1]
  exact k
theorem s_leftOf {r : Nat} {K : Int32 → gs_St → Prop} (h : gr_at G σ) (hr : r < G.length) (k : K (nI (gg_l G r)) σ) : C_Gr_leftOf (nI r) σ K := by
  have hG := h.1.1
  refine ⟨vp_in_nI (by omega) (by decide), ?_⟩
  rw [nI_clamp (by omega), (h.2.2 r hr).1]
  exact k
theorem s_symbolAt {r i : Nat} {K : Int32 → gs_St → Prop} (h : gr_at G σ) (hr : r < G.length) (hi : i < (gg_y G r).length) (k : K (nI ((gg_y G r).getD i 0)) σ) : C_Gr_symbolAt (nI r) (nI i) σ K := by
  have hG := h.1.1
  have hz := (h.1.2 r hr).2.1
  have e : nI r * (6 : Int32) + nI i = nI (r * 6 + i) := by rw [show (6 : Int32) = nI 6 from rfl, pk_mul, nI_add]
  show vp_in (nI r * (6 : Int32) + nI i) 144 ∧ K (σ.2.1 3 (nI r * (6 : Int32) + nI i).toNatClampNeg) σ
  rw [e, nI_clamp (by omega), (h.2.2 r hr).2.2 i hi]
  exact ⟨vp_in_nI (by omega) (by decide), k⟩
/-- how many nonterminals -/
def gg_ntn : List Nat → Nat
  | [] => 0
  | s :: ys => (if s < 8 then 1 else 0) + gg_ntn ys
theorem gg_ntn_le : ∀ ys : List Nat, gg_ntn ys ≤ ys.length
  | [] => Nat.le_refl 0
  | s :: ys => by
    have := gg_ntn_le ys
    show (if s < 8 then 1 else 0) + gg_ntn ys ≤ ys.length + 1
    split <;> omega
theorem s_ntIn {r : Nat} {K : Int32 → gs_St → Prop} (h : gr_at G σ) (hr : r < G.length) (k : K (nI (gg_ntn (gg_y G r))) σ) : C_Gr_nonterminalsIn (nI r) σ K := by
  intro X4 h4
  have hG := h.1.1
  have hz := (h.1.2 r hr).2.1
  have key : ∀ (zs : List Nat) (i a : Nat), (gg_y G r).drop i = zs → i + zs.length = (gg_y G r).length → a + gg_ntn zs = gg_ntn (gg_y G r) → X4 (nI r) (nI a) (nI i) σ := by
    intro zs
    induction zs with
    | nil =>
      intro i a hd hi ha
      have hi : i = (gg_y G r).length := hi
      have ha : a = gg_ntn (gg_y G r) := ha
      apply h4
      refine ⟨vp_in_nI (by omega) (by decide), ?_⟩
      rw [nI_clamp (by omega), (h.2.2 r hr).2.1]
      exact pk_le (gg_y G r).length i (fun _ => ha ▸ k) (fun q => absurd q (by omega))
    | cons s zs ih =>
      intro i a hd hi ha
      obtain ⟨h1, h2, h3⟩ := gg_cons hd
      have hi : i + (zs.length + 1) = (gg_y G r).length := hi
      have ha : a + ((if s < 8 then 1 else 0) + gg_ntn zs) = gg_ntn (gg_y G r) := ha
      have h24 := (h.1.2 r hr).2.2 i h1
      rw [h2] at h24
      apply h4
      refine ⟨vp_in_nI (by omega) (by decide), ?_⟩
      rw [nI_clamp (by omega), (h.2.2 r hr).2.1]
      refine pk_le (gg_y G r).length i (fun q => absurd q (by omega)) (fun _ => ?_)
      refine s_symbolAt h hr h1 ?_
      rw [h2]
      refine s_isNtN (by omega) (fun q => ?_) (fun q => ?_)
      · refine br_f (by decide) (nm_r (nI_1 a) (nm_r (nI_1 i) (ih (i + 1) (a + 1) h3 (by omega) ?_)))
        rw [if_pos q] at ha
        omega
      · refine br_t rfl (nm_r (nI_1 i) (ih (i + 1) a h3 (by omega) ?_))
        rw [if_neg (by omega)] at ha
        omega
  exact key (gg_y G r) 0 0 rfl (by omega) (by omega)
end L2A
