/-! Layer 2, part c: eight rounds find the least lengths. -/
/-- D' knows at least as much as D, and no longer lengths -/
def gg_le (D' D : Nat → Option Nat) : Prop := ∀ A n, D A = some n → ∃ m, m ≤ n ∧ D' A = some m
theorem gg_le.rfl' {D : Nat → Option Nat} : gg_le D D := fun _ n h => ⟨n, Nat.le_refl _, h⟩
theorem gg_le.tr {D D' D'' : Nat → Option Nat} (h : gg_le D'' D') (h' : gg_le D' D) : gg_le D'' D := fun A n e => by
  obtain ⟨m, h1, h2⟩ := h' A n e
  obtain ⟨m', h3, h4⟩ := h A m h2
  exact ⟨m', by omega, h4⟩
theorem gg_low_le {D : Nat → Option Nat} {A : Nat} {o : Option Nat} : gg_le (gg_low D A o) D := by
  unfold gg_low
  cases o with
  | none => exact gg_le.rfl'
  | some n =>
    cases hd : D A with
    | none =>
      show gg_le (gg_up D A (some n)) D
      intro B k hk
      by_cases e : B = A
      · subst e
        rw [hd] at hk
        cases hk
      · exact ⟨k, Nat.le_refl _, by rw [gg_up_n e]; exact hk⟩
    | some m =>
      show gg_le (if m ≤ n then D else gg_up D A (some n)) D
      split
      · exact gg_le.rfl'
      · intro B k hk
        by_cases e : B = A
        · subst e
          rw [hd] at hk
          injection hk with hk
          exact ⟨n, by omega, gg_up_s⟩
        · exact ⟨k, Nat.le_refl _, by rw [gg_up_n e]; exact hk⟩
theorem gg_low_hit {D : Nat → Option Nat} {A n : Nat} : ∃ m, m ≤ n ∧ gg_low D A (some n) A = some m := by
  unfold gg_low
  cases hd : D A with
  | none => exact ⟨n, Nat.le_refl _, gg_up_s⟩
  | some m =>
    show ∃ m', m' ≤ n ∧ (if m ≤ n then D else gg_up D A (some n)) A = some m'
    split
    · exact ⟨m, by assumption, hd⟩
    · exact ⟨n, Nat.le_refl _, gg_up_s⟩
theorem gg_low_snd {D : Nat → Option Nat} {A : Nat} {o : Option Nat} {P : Nat → Nat → Prop} (h : ∀ B m, D B = some m → P B m) (ho : ∀ n, o = some n → P A n) : ∀ B m, gg_low D A o B = some m → P B m := by
  unfold gg_low
  cases o with
  | none => exact h
  | some n =>
    have up : ∀ B m, gg_up D A (some n) B = some m → P B m := by
      intro B k hk
      by_cases e : B = A
      · subst e
        rw [gg_up_s] at hk
        injection hk with hk
        exact hk ▸ ho n rfl
      · rw [gg_up_n e] at hk
        exact h B k hk
    cases hd : D A with
    | none => exact up
    | some m =>
      show ∀ B k, (if m ≤ n then D else gg_up D A (some n)) B = some k → P B k
      split
      · exact h
      · exact up
theorem gg_add_some {a b : Option Nat} {n : Nat} (h : gg_add a b = some n) : ∃ x y, a = some x ∧ b = some y ∧ n = x + y := by
  cases a with
  | none => cases h
  | some x =>
    cases b with
    | none => cases h
    | some y =>
      injection h with h
      exact ⟨x, y, rfl, rfl, h.symm⟩
theorem gg_sum_S {D : Nat → Option Nat} {P : Nat → Nat → Prop} (hP : ∀ s m, s < 8 → D s = some m → P s m) : ∀ (ys : List Nat) (n : Nat), gg_sum D ys = some n → gm_S P ys n
  | [], n, h => by
    injection h with h
    exact h.symm
  | s :: ys, n, h => by
    obtain ⟨a, b, h1, h2, h3⟩ := gg_add_some (show gg_add (gg_len D s) (gg_sum D ys) = some n from h)
    refine ⟨a, b, h3, fun hs => ?_, fun hs => ?_, gg_sum_S hP ys b h2⟩
    · unfold gg_len at h1
      rw [if_pos hs] at h1
      exact hP s a hs h1
    · unfold gg_len at h1
      rw [if_neg (by omega)] at h1
      injection h1 with h1
      exact h1.symm
theorem gg_sum_le {D : Nat → Option Nat} {P : Nat → Nat → Prop} (hP : ∀ s m, s < 8 → P s m → ∃ n, n ≤ m ∧ D s = some n) : ∀ (ys : List Nat) (m : Nat), gm_S P ys m → ∃ n, n ≤ m ∧ gg_sum D ys = some n
  | [], m, h => ⟨0, Nat.zero_le _, rfl⟩
  | s :: ys, m, h => by
    obtain ⟨a, b, e, h1, h2, h3⟩ := h
    obtain ⟨n, g1, g2⟩ := gg_sum_le hP ys b h3
    by_cases hs : s < 8
    · obtain ⟨c, q1, q2⟩ := hP s a hs (h1 hs)
      refine ⟨c + n, by omega, ?_⟩
      show gg_add (gg_len D s) (gg_sum D ys) = some (c + n)
      have hl : gg_len D s = D s := if_pos hs
      rw [hl, q2, g2]
      rfl
    · have ha := h2 (by omega)
      refine ⟨1 + n, by omega, ?_⟩
      show gg_add (gg_len D s) (gg_sum D ys) = some (1 + n)
      have hl : gg_len D s = some 1 := if_neg hs
      rw [hl, g2]
      rfl
theorem gm_S_some {R : gg_R} : ∀ (xs : List Nat) (m : Nat), gm_S (fun x a => ∃ k, gm_D R k x a) xs m → ∃ k, gm_S (gm_D R k) xs m
  | [], m, h => ⟨0, h⟩
  | x :: xs, m, h => by
    obtain ⟨a, b, e, h1, h2, h3⟩ := h
    obtain ⟨k, hk⟩ := gm_S_some xs b h3
    by_cases hx : x < 8
    · obtain ⟨k2, hk2⟩ := h1 hx
      exact ⟨k + k2, a, b, e, fun _ => gm_D_le hk2 (by omega), h2, gm_S_mono (fun y c _ hd => gm_D_le hd (by omega)) _ _ hk⟩
    · exact ⟨k, a, b, e, fun z => absurd z hx, h2, hk⟩
/-- what D says is so; what is within height k, D knows; what rules below r give out of height k, D knows -/
def gm_snd (R : gg_R) (D : Nat → Option Nat) : Prop := ∀ A m, D A = some m → ∃ k, gm_D R k A m
def gm_cpl (R : gg_R) (k : Nat) (D : Nat → Option Nat) : Prop := ∀ A m, gm_D R k A m → ∃ n, n ≤ m ∧ D A = some n
def gm_dn (R : gg_R) (k r : Nat) (D : Nat → Option Nat) : Prop := ∀ q, q < r → ∀ m, gm_S (gm_D R k) (gg_y R q) m → ∃ n, n ≤ m ∧ D (gg_l R q) = some n
theorem gm_cpl.mono {R : gg_R} {k : Nat} {D D' : Nat → Option Nat} (hl : gg_le D' D) (h : gm_cpl R k D) : gm_cpl R k D' := fun A m hd => by
  obtain ⟨n, h1, h2⟩ := h A m hd
  obtain ⟨n', h3, h4⟩ := hl A n h2
  exact ⟨n', by omega, h4⟩
theorem gm_dn.mono {R : gg_R} {k r : Nat} {D D' : Nat → Option Nat} (hl : gg_le D' D) (h : gm_dn R k r D) : gm_dn R k r D' := fun q hq m hd => by
  obtain ⟨n, h1, h2⟩ := h q hq m hd
  obtain ⟨n', h3, h4⟩ := hl _ n h2
  exact ⟨n', by omega, h4⟩
theorem gm_dn.next {R : gg_R} {k : Nat} {D : Nat → Option Nat} (h : gm_dn R k R.length D) : gm_cpl R (k + 1) D := fun A m hd => by
  obtain ⟨q, h1, h2, h3⟩ := hd
  obtain ⟨r, hr, e1, e2⟩ := gg_idx h1
  rw [← e2] at h3
  obtain ⟨n, g1, g2⟩ := h r hr m h3
  rw [e1, h2] at g2
  exact ⟨n, g1, g2⟩
/-- one rule -/
theorem gm_step {R : gg_R} {k r : Nat} {D : Nat → Option Nat} (hr : r < R.length) (hs : gm_snd R D) (hc : gm_cpl R k D) (hd : gm_dn R k r D) :
    gm_snd R (gg_low D (gg_l R r) (gg_sum D (gg_y R r))) ∧ gm_cpl R k (gg_low D (gg_l R r) (gg_sum D (gg_y R r))) ∧ gm_dn R k (r + 1) (gg_low D (gg_l R r) (gg_sum D (gg_y R r))) := by
  refine ⟨gg_low_snd hs (fun n hn => ?_), hc.mono gg_low_le, fun q hq m hm => ?_⟩
  · obtain ⟨j, hj⟩ := gm_S_some _ _ (gg_sum_S (P := fun x a => ∃ k, gm_D R k x a) (fun s m _ h => hs s m h) _ _ hn)
    exact ⟨j + 1, _, gg_mem hr, rfl, hj⟩
  · by_cases e : q = r
    · subst e
      obtain ⟨n, h1, h2⟩ := gg_sum_le (fun s m _ h => hc s m h) _ _ hm
      rw [h2]
      obtain ⟨n', h3, h4⟩ := gg_low_hit (D := D) (A := gg_l R q) (n := n)
      exact ⟨n', by omega, h4⟩
    · exact (hd.mono gg_low_le) q (by omega) m hm
/-- D is the least lengths of the grammar's nonterminals -/
def gm_L (R : gg_R) (D : Nat → Option Nat) : Prop := ∀ A, A < 8 → ∀ m, D A = some m ↔ gm_V R A m
theorem gm_L_of {R : gg_R} {D : Nat → Option Nat} (hs : gm_snd R D) (hc : gm_cpl R 8 D) : gm_L R D := by
  intro A hA m
  constructor
  · intro h
    have hk := hs A m h
    refine ⟨hk, fun k n hn => ?_⟩
    obtain ⟨m', h1, h2⟩ := gm_V_ex hn
    obtain ⟨m'', h3, h4⟩ := hc A m' (gm_eight hA h1)
    rw [h] at h4
    injection h4 with h4
    omega
  · intro h
    obtain ⟨n, h1, h2⟩ := hc A m (gm_eight hA h)
    obtain ⟨k, hk⟩ := hs A n h2
    have := h.2 k n hk
    rw [h2]
    congr 1
    omega
theorem gm_L_eq {R : gg_R} {D D' : Nat → Option Nat} (h : gm_L R D) (h' : gm_L R D') : ∀ A, A < 8 → D A = D' A := by
  intro A hA
  cases hd : D A with
  | some m => exact ((h' A hA m).mpr ((h A hA m).mp hd)).symm
  | none =>
    cases hd' : D' A with
    | none => rfl
    | some m =>
      have := (h A hA m).mpr ((h' A hA m).mp hd')
      rw [hd] at this
      cases this
theorem gg_but_congr {D D' : Nat → Option Nat} {x : Int32} (h : ∀ A, A < 8 → D A = D' A) : ∀ (zs : List Nat) (i : Nat), gg_but D x i zs = gg_but D' x i zs
  | [], _ => rfl
  | s :: zs, i => by
    show (if nI i = x then gg_but D x (i + 1) zs else gg_add (gg_len D s) (gg_but D x (i + 1) zs)) = (if nI i = x then gg_but D' x (i + 1) zs else gg_add (gg_len D' s) (gg_but D' x (i + 1) zs))
    have hl : gg_len D s = gg_len D' s := by
      unfold gg_len
      split
      · exact h s (by assumption)
      · rfl
    rw [gg_but_congr h zs (i + 1), hl]
/-- around a nonterminal: as lengths of a grammar of its own -/
def gm_A (G : gg_R) (D : Nat → Option Nat) : gg_R := (0, []) :: (List.range G.length).flatMap (fun r => (List.range (gg_y G r).length).filterMap (fun i => if (gg_y G r).getD i 0 < 8 then (gg_but D (nI i) 0 (gg_y G r)).map (fun w => ((gg_y G r).getD i 0, gg_l G r :: List.replicate w 8)) else none))
theorem gm_A_mem {G : gg_R} {D : Nat → Option Nat} {q : Nat × List Nat} : q ∈ gm_A G D ↔ q = (0, []) ∨ ∃ r i w, r < G.length ∧ i < (gg_y G r).length ∧ (gg_y G r).getD i 0 < 8 ∧ gg_but D (nI i) 0 (gg_y G r) = some w ∧ q = ((gg_y G r).getD i 0, gg_l G r :: List.replicate w 8) := by
  unfold gm_A
  rw [List.mem_cons, List.mem_flatMap]
  refine or_congr Iff.rfl ?_
  constructor
  · rintro ⟨r, hr, h⟩
    rw [List.mem_filterMap] at h
    obtain ⟨i, hi, h⟩ := h
    split at h
    · rename_i hs
      cases hb : gg_but D (nI i) 0 (gg_y G r) with
      | none => rw [hb] at h; cases h
      | some w =>
        rw [hb] at h
        injection h with h
        exact ⟨r, i, w, List.mem_range.mp hr, List.mem_range.mp hi, hs, hb, h.symm⟩
    · cases h
  · rintro ⟨r, i, w, hr, hi, hs, hb, rfl⟩
    refine ⟨r, List.mem_range.mpr hr, List.mem_filterMap.mpr ⟨i, List.mem_range.mpr hi, ?_⟩⟩
    rw [if_pos hs, hb]
    rfl
theorem gm_S_rep {P : Nat → Nat → Prop} : ∀ (w m : Nat), gm_S P (List.replicate w 8) m ↔ m = w
  | 0, m => Iff.rfl
  | w + 1, m => by
    show (∃ a b, m = a + b ∧ (8 < 8 → P 8 a) ∧ (8 ≤ 8 → a = 1) ∧ gm_S P (List.replicate w 8) b) ↔ m = w + 1
    constructor
    · rintro ⟨a, b, h1, -, h2, h3⟩
      have := h2 (Nat.le_refl _)
      have := (gm_S_rep w b).mp h3
      omega
    · intro h
      exact ⟨1, w, by omega, fun z => absurd z (by omega), fun _ => rfl, (gm_S_rep w w).mpr rfl⟩
theorem gm_S_arw {P : Nat → Nat → Prop} {A w m : Nat} (hA : A < 8) : gm_S P (A :: List.replicate w 8) m ↔ ∃ a, P A a ∧ m = a + w := by
  show (∃ a b, m = a + b ∧ (A < 8 → P A a) ∧ (8 ≤ A → a = 1) ∧ gm_S P (List.replicate w 8) b) ↔ _
  constructor
  · rintro ⟨a, b, h1, h2, -, h3⟩
    have := (gm_S_rep w b).mp h3
    exact ⟨a, h2 hA, by omega⟩
  · rintro ⟨a, h1, h2⟩
    exact ⟨a, w, h2, fun _ => h1, fun z => absurd z (by omega), (gm_S_rep w w).mpr rfl⟩
/-- what a rule's own places give -/
def gm_aP (G : gg_R) (D : Nat → Option Nat) (r i a x m : Nat) : Prop := ∃ w, gg_but D (nI i) 0 (gg_y G r) = some w ∧ (gg_y G r).getD i 0 < 8 ∧ (gg_y G r).getD i 0 = x ∧ m = a + w
/-- O knows what rules below r give round about, out of height k -/
def gm_an (G : gg_R) (D : Nat → Option Nat) (k r : Nat) (O : Nat → Option Nat) : Prop := ∀ q, q < r → ∀ i, i < (gg_y G q).length → ∀ a, gm_D (gm_A G D) k (gg_l G q) a → ∀ w, gg_but D (nI i) 0 (gg_y G q) = some w → (gg_y G q).getD i 0 < 8 → ∃ n, n ≤ a + w ∧ O ((gg_y G q).getD i 0) = some n
theorem gm_an.mono {G : gg_R} {D O O' : Nat → Option Nat} {k r : Nat} (hl : gg_le O' O) (h : gm_an G D k r O) : gm_an G D k r O' := fun q hq i hi a ha w hw hx => by
  obtain ⟨n, h1, h2⟩ := h q hq i hi a ha w hw hx
  obtain ⟨n', h3, h4⟩ := hl _ n h2
  exact ⟨n', by omega, h4⟩
theorem gm_an.next {G : gg_R} {D O : Nat → Option Nat} {k : Nat} (hG : gg_ok G) (h0 : ∃ n, n ≤ 0 ∧ O 0 = some n) (h : gm_an G D k G.length O) : gm_cpl (gm_A G D) (k + 1) O := fun A m hd => by
  obtain ⟨q, h1, h2, h3⟩ := hd
  rcases gm_A_mem.mp h1 with e | ⟨r, i, w, hr, hi, hx, hw, e⟩
  · rw [e] at h2 h3
    have h3 : m = 0 := h3
    have h2 : (0 : Nat) = A := h2
    rw [h3, ← h2]
    exact h0
  · rw [e] at h2 h3
    obtain ⟨a, g1, g2⟩ := (gm_S_arw (hG.2 r hr).1).mp h3
    obtain ⟨n, g3, g4⟩ := h r hr i hi a g1 w hw hx
    have h2 : (gg_y G r).getD i 0 = A := h2
    rw [h2] at g4
    exact ⟨n, by omega, g4⟩
theorem gm_A_snd {G : gg_R} {D O : Nat → Option Nat} {r i a w : Nat} (hG : gg_ok G) (hr : r < G.length) (hi : i < (gg_y G r).length) (hx : (gg_y G r).getD i 0 < 8) (hw : gg_but D (nI i) 0 (gg_y G r) = some w) (ha : ∃ k, gm_D (gm_A G D) k (gg_l G r) a) : ∃ k, gm_D (gm_A G D) k ((gg_y G r).getD i 0) (a + w) := by
  obtain ⟨k, hk⟩ := ha
  exact ⟨k + 1, _, gm_A_mem.mpr (Or.inr ⟨r, i, w, hr, hi, hx, hw, rfl⟩), rfl, (gm_S_arw (hG.2 r hr).1).mpr ⟨a, hk, rfl⟩⟩
