/-! Layer 2, part m: the tree with a number, as a function. -/
def gd_F (T : Nat → Nat → Nat) (s p : Nat) : Nat := if s < 8 then T s p else if p = 1 then 1 else 0
/-- the ways in which s yields p of n -/
def gd_w (T : Nat → Nat → Nat) (s : Nat) (ys : List Nat) (n p : Nat) : Nat := gc_cap (gd_F T s p * gc_E T ys (n - p))
/-- the part that the number m falls into, and the number within it -/
def gd_pt (T : Nat → Nat → Nat) (s : Nat) (ys : List Nat) (n : Nat) : Nat → Nat → Nat → Nat × Nat
  | 0, p, m => (p, m)
  | k + 1, p, m => if m < gd_w T s ys n p then (p, m) else gd_pt T s ys n k (p + 1) (m - gd_w T s ys n p)
/-- the symbols of a right side, each with its length and its number -/
def gd_sp (T : Nat → Nat → Nat) : List Nat → Nat → Nat → List (Nat × Nat × Nat)
  | [], _, _ => []
  | s :: ys, n, m => (s, (gd_pt T s ys n n 0 m).1, (gd_pt T s ys n n 0 m).2 / max 1 (gc_E T ys (n - (gd_pt T s ys n n 0 m).1))) :: gd_sp T ys (n - (gd_pt T s ys n n 0 m).1) ((gd_pt T s ys n n 0 m).2 % max 1 (gc_E T ys (n - (gd_pt T s ys n n 0 m).1)))
/-- the rule that the number m falls into -/
def gd_pk (T : Nat → Nat → Nat) (G : gg_R) (A n : Nat) : Nat → Nat → Nat → Option (Nat × Nat)
  | 0, _, _ => none
  | k + 1, r, m => if gg_l G r = A then (if m < gc_E T (gg_y G r) n then some (r, m) else gd_pk T G A n k (r + 1) (m - gc_E T (gg_y G r) n)) else gd_pk T G A n k (r + 1) m
/-- how many of a pile are nonterminals; their lengths together -/
def gd_nt (p : List (Nat × Nat × Nat)) : Nat := gg_ntn (p.map (fun e => e.1))
def gd_ln : List (Nat × Nat × Nat) → Nat
  | [] => 0
  | e :: p => e.2.1 + gd_ln p
/-- an entry that is a tree's, or a terminal -/
def gd_v (T : Nat → Nat → Nat) (e : Nat × Nat × Nat) : Prop := (e.1 < 8 → e.2.2 < T e.1 e.2.1 ∧ T e.1 e.2.1 ≤ 1000000000000000000) ∧ (8 ≤ e.1 → e.2.1 = 1)
theorem gc_E_cap (T : Nat → Nat → Nat) : ∀ (ys : List Nat) (n : Nat), gc_cap (gc_E T ys n) = gc_E T ys n
  | [], n => by
    show gc_cap (if n = 0 then 1 else 0) = (if n = 0 then 1 else 0)
    split <;> rfl
  | s :: ys, n => by
    by_cases hs : s < 8
    · rw [gc_E_nt hs, gc_cap_cap]
    · rw [gc_E_t hs]
      split
      · rfl
      · exact gc_E_cap T ys (n - 1)
theorem gc_sum_one (f : Nat → Nat) (v : Nat) : ∀ n, (∀ p, p ≠ 1 → f p = 0) → gc_sum f (n + 2) = f 1
  | 0, h => by
    show 0 + f 0 + f 1 = f 1
    rw [h 0 (by decide)]
    omega
  | n + 1, h => by
    show gc_sum f (n + 2) + f (n + 2) = f 1
    rw [gc_sum_one f v n h, h (n + 2) (by omega)]
    omega
theorem gc_E_sum (T : Nat → Nat → Nat) (s : Nat) (ys : List Nat) (n : Nat) : gc_E T (s :: ys) n = gc_cap (gc_sum (fun p => gd_F T s p * gc_E T ys (n - p)) (n + 1)) := by
  by_cases hs : s < 8
  · rw [gc_E_nt hs]
    congr 1
    exact gc_sum_congr _ (fun p _ => by unfold gd_F; rw [if_pos hs])
  · rw [gc_E_t hs]
    have hF : ∀ p, p ≠ 1 → gd_F T s p * gc_E T ys (n - p) = 0 := fun p hp => by
      unfold gd_F
      rw [if_neg hs, if_neg hp, Nat.zero_mul]
    by_cases hn : n = 0
    · subst hn
      rw [if_pos rfl]
      show 0 = gc_cap (0 + gd_F T s 0 * gc_E T ys (0 - 0))
      rw [hF 0 (by decide)]
      rfl
    · rw [if_neg hn]
      obtain ⟨m, rfl⟩ : ∃ m, n = m + 1 := ⟨n - 1, by omega⟩
      rw [gc_sum_one _ 0 m hF]
      show gc_E T ys (m + 1 - 1) = gc_cap (gd_F T s 1 * gc_E T ys (m + 1 - 1))
      have h1 : gd_F T s 1 = 1 := by unfold gd_F; rw [if_neg hs, if_pos rfl]
      rw [h1, Nat.one_mul, gc_E_cap]
theorem gc_sum_mono (f : Nat → Nat) : ∀ (m n : Nat), m ≤ n → gc_sum f m ≤ gc_sum f n
  | m, 0, h => by
    rw [show m = 0 by omega]
    exact Nat.le_refl _
  | m, n + 1, h => by
    by_cases e : m = n + 1
    · rw [e]
      exact Nat.le_refl _
    · have := gc_sum_mono f m n (by omega)
      show gc_sum f m ≤ gc_sum f n + f n
      omega
theorem gc_cap_small {a : Nat} (h : gc_cap a ≤ 1000000000000000000) : gc_cap a = a ∧ a ≤ 1000000000000000000 := by
  unfold gc_cap at h ⊢
  split at h
  · rename_i q
    exact ⟨if_pos q, q⟩
  · omega
theorem gd_pt_ok {T : Nat → Nat → Nat} {s n : Nat} {ys : List Nat} (hs : gc_sum (fun p => gd_F T s p * gc_E T ys (n - p)) (n + 1) ≤ 1000000000000000000) : ∀ (k p m : Nat), p + k = n → m + gc_sum (fun p => gd_F T s p * gc_E T ys (n - p)) p < gc_sum (fun p => gd_F T s p * gc_E T ys (n - p)) (n + 1) →
    (gd_pt T s ys n k p m).1 ≤ n ∧ (gd_pt T s ys n k p m).2 < gd_F T s (gd_pt T s ys n k p m).1 * gc_E T ys (n - (gd_pt T s ys n k p m).1)
  | 0, p, m, hp, hm => by
    have hp : p = n := hp
    subst hp
    refine ⟨Nat.le_refl _, ?_⟩
    have hm : m + gc_sum (fun q => gd_F T s q * gc_E T ys (p - q)) p < gc_sum (fun q => gd_F T s q * gc_E T ys (p - q)) p + gd_F T s p * gc_E T ys (p - p) := hm
    show m < gd_F T s p * gc_E T ys (p - p)
    omega
  | k + 1, p, m, hp, hm => by
    have hle : gc_sum (fun p => gd_F T s p * gc_E T ys (n - p)) (p + 1) ≤ gc_sum (fun p => gd_F T s p * gc_E T ys (n - p)) (n + 1) := gc_sum_mono _ _ _ (by omega)
    have hnx : gc_sum (fun p => gd_F T s p * gc_E T ys (n - p)) (p + 1) = gc_sum (fun p => gd_F T s p * gc_E T ys (n - p)) p + gd_F T s p * gc_E T ys (n - p) := rfl
    have hw : gd_w T s ys n p = gd_F T s p * gc_E T ys (n - p) := by
      unfold gd_w gc_cap
      rw [if_pos (by omega)]
    have e : gd_pt T s ys n (k + 1) p m = if m < gd_w T s ys n p then (p, m) else gd_pt T s ys n k (p + 1) (m - gd_w T s ys n p) := rfl
    rw [e]
    by_cases q : m < gd_w T s ys n p
    · rw [if_pos q]
      exact ⟨by show p ≤ n; omega, by rw [hw] at q; exact q⟩
    · rw [if_neg q]
      exact gd_pt_ok hs k (p + 1) _ (by omega) (by rw [hnx]; omega)
theorem gd_sp_ok {T : Nat → Nat → Nat} : ∀ (ys : List Nat) (n m : Nat), m < gc_E T ys n → gc_E T ys n ≤ 1000000000000000000 →
    (∀ e, e ∈ gd_sp T ys n m → gd_v T e) ∧ gd_ln (gd_sp T ys n m) = n ∧ (gd_sp T ys n m).map (fun e => e.1) = ys
  | [], n, m, hm, hb => by
    have hm : m < (if n = 0 then 1 else 0) := hm
    refine ⟨fun e he => absurd he List.not_mem_nil, ?_, rfl⟩
    show 0 = n
    split at hm
    · omega
    · omega
  | s :: ys, n, m, hm, hb => by
    rw [gc_E_sum] at hm hb
    obtain ⟨h1, h2⟩ := gc_cap_small hb
    rw [h1] at hm
    obtain ⟨g1, g2⟩ := gd_pt_ok h2 n 0 m (by omega) (by show m + 0 < _; omega)
    have e : gd_sp T (s :: ys) n m = (s, (gd_pt T s ys n n 0 m).1, (gd_pt T s ys n n 0 m).2 / max 1 (gc_E T ys (n - (gd_pt T s ys n n 0 m).1))) :: gd_sp T ys (n - (gd_pt T s ys n n 0 m).1) ((gd_pt T s ys n n 0 m).2 % max 1 (gc_E T ys (n - (gd_pt T s ys n n 0 m).1))) := rfl
    rw [e]
    revert g1 g2
    generalize gd_pt T s ys n n 0 m = q
    intro g1 g2
    have hle : gd_F T s q.1 * gc_E T ys (n - q.1) ≤ gc_sum (fun p => gd_F T s p * gc_E T ys (n - p)) (n + 1) := by
      have a := gc_sum_mono (fun p => gd_F T s p * gc_E T ys (n - p)) (q.1 + 1) (n + 1) (by omega)
      have b : gc_sum (fun p => gd_F T s p * gc_E T ys (n - p)) (q.1 + 1) = gc_sum (fun p => gd_F T s p * gc_E T ys (n - p)) q.1 + gd_F T s q.1 * gc_E T ys (n - q.1) := rfl
      omega
    have hE : 0 < gc_E T ys (n - q.1) := Nat.pos_of_ne_zero (fun z => by rw [z, Nat.mul_zero] at g2; omega)
    have hF : 0 < gd_F T s q.1 := Nat.pos_of_ne_zero (fun z => by rw [z, Nat.zero_mul] at g2; omega)
    have hmx : max 1 (gc_E T ys (n - q.1)) = gc_E T ys (n - q.1) := Nat.max_eq_right hE
    rw [hmx]
    have hE2 : gc_E T ys (n - q.1) ≤ gd_F T s q.1 * gc_E T ys (n - q.1) := Nat.le_mul_of_pos_left _ hF
    have hF2 : gd_F T s q.1 ≤ gd_F T s q.1 * gc_E T ys (n - q.1) := Nat.le_mul_of_pos_right _ hE
    obtain ⟨i1, i2, i3⟩ := gd_sp_ok ys (n - q.1) (q.2 % gc_E T ys (n - q.1)) (Nat.mod_lt _ hE) (by omega)
    refine ⟨fun e he => ?_, ?_, ?_⟩
    · rcases List.mem_cons.mp he with z | z
      · subst z
        refine ⟨fun hs => ?_, fun hs => ?_⟩
        · have hFs : gd_F T s q.1 = T s q.1 := by unfold gd_F; rw [if_pos hs]
          rw [hFs] at g2 hF2 hE2 hle
          refine ⟨?_, by show T s q.1 ≤ _; omega⟩
          show q.2 / gc_E T ys (n - q.1) < T s q.1
          exact (Nat.div_lt_iff_lt_mul hE).mpr g2
        · show q.1 = 1
          have hs : 8 ≤ s := hs
          unfold gd_F at hF
          rw [if_neg (by omega)] at hF
          exact Classical.byContradiction (fun z => by rw [if_neg z] at hF; omega)
      · exact i1 e z
    · show q.1 + gd_ln (gd_sp T ys (n - q.1) (q.2 % gc_E T ys (n - q.1))) = n
      rw [i2]
      omega
    · show s :: (gd_sp T ys (n - q.1) (q.2 % gc_E T ys (n - q.1))).map (fun e => e.1) = s :: ys
      rw [i3]
theorem gc_pt_true_mono (T : Nat → Nat → Nat) (G : gg_R) (A n : Nat) : ∀ (r q : Nat), r ≤ q → gc_pt T G (fun _ => true) A n r ≤ gc_pt T G (fun _ => true) A n q
  | r, 0, h => by
    rw [show r = 0 by omega]
    exact Nat.le_refl _
  | r, q + 1, h => by
    by_cases e : r = q + 1
    · rw [e]
      exact Nat.le_refl _
    · have := gc_pt_true_mono T G A n r q (by omega)
      show _ ≤ gc_pt T G (fun _ => true) A n q + _
      omega
theorem gd_pk_ok {T : Nat → Nat → Nat} {G : gg_R} {A n : Nat} (hb : gc_pt T G (fun _ => true) A n G.length ≤ 1000000000000000000) : ∀ (k r m : Nat), r + k = G.length → m + gc_pt T G (fun _ => true) A n r < gc_pt T G (fun _ => true) A n G.length →
    ∃ q m', gd_pk T G A n k r m = some (q, m') ∧ r ≤ q ∧ q < G.length ∧ gg_l G q = A ∧ m' < gc_E T (gg_y G q) n ∧ gc_E T (gg_y G q) n ≤ 1000000000000000000
  | 0, r, m, hr, hm => by
    have hr : r = G.length := hr
    subst hr
    omega
  | k + 1, r, m, hr, hm => by
    have e : gd_pk T G A n (k + 1) r m = if gg_l G r = A then (if m < gc_E T (gg_y G r) n then some (r, m) else gd_pk T G A n k (r + 1) (m - gc_E T (gg_y G r) n)) else gd_pk T G A n k (r + 1) m := rfl
    have hnx : gc_pt T G (fun _ => true) A n (r + 1) = gc_pt T G (fun _ => true) A n r + (if true = true ∧ gg_l G r = A then gc_E T (gg_y G r) n else 0) := rfl
    have hle := gc_pt_true_mono T G A n (r + 1) G.length (by omega)
    rw [e]
    by_cases hl : gg_l G r = A
    · rw [if_pos ⟨rfl, hl⟩] at hnx
      rw [if_pos hl]
      by_cases q : m < gc_E T (gg_y G r) n
      · rw [if_pos q]
        exact ⟨r, m, rfl, Nat.le_refl _, by omega, hl, q, by omega⟩
      · rw [if_neg q]
        obtain ⟨q1, m1, z1, z2, z3⟩ := gd_pk_ok hb k (r + 1) (m - gc_E T (gg_y G r) n) (by omega) (by omega)
        exact ⟨q1, m1, z1, by omega, z3⟩
    · rw [if_neg (fun z => hl z.2)] at hnx
      rw [if_neg hl]
      obtain ⟨q1, m1, z1, z2, z3⟩ := gd_pk_ok hb k (r + 1) m (by omega) (by omega)
      exact ⟨q1, m1, z1, by omega, z3⟩
theorem gd_nt_app (a b : List (Nat × Nat × Nat)) : gd_nt (a ++ b) = gd_nt a + gd_nt b := by
  unfold gd_nt
  induction a with
  | nil => rw [List.nil_append]; show _ = 0 + _; omega
  | cons e a ih =>
    show (if e.1 < 8 then 1 else 0) + gg_ntn ((a ++ b).map (fun e => e.1)) = ((if e.1 < 8 then 1 else 0) + gg_ntn (a.map (fun e => e.1))) + gg_ntn (b.map (fun e => e.1))
    rw [ih]
    omega
theorem gd_ln_app (a b : List (Nat × Nat × Nat)) : gd_ln (a ++ b) = gd_ln a + gd_ln b := by
  induction a with
  | nil => rw [List.nil_append]; show _ = 0 + _; omega
  | cons e a ih =>
    show e.2.1 + gd_ln (a ++ b) = (e.2.1 + gd_ln a) + gd_ln b
    rw [ih]
    omega
/-- a pile isn't larger than its nonterminals and its lengths together -/
theorem gd_size {T : Nat → Nat → Nat} : ∀ p : List (Nat × Nat × Nat), (∀ e, e ∈ p → gd_v T e) → p.length ≤ gd_nt p + gd_ln p
  | [], _ => Nat.le_refl 0
  | e :: p, h => by
    have ih := gd_size p (fun x hx => h x (List.mem_cons_of_mem _ hx))
    have hv := h e List.mem_cons_self
    show p.length + 1 ≤ ((if e.1 < 8 then 1 else 0) + gd_nt p) + (e.2.1 + gd_ln p)
    split
    · omega
    · have := hv.2 (by omega)
      omega
/-- the walk: a pile, the row and the yield so far, and what comes of them; none where the row becomes too long -/
def gd_res (T : Nat → Nat → Nat) (G : gg_R) : Nat → List (Nat × Nat × Nat) → List Nat → List Nat → Option (List Nat × List Nat) → Prop
  | 0, _, _, _, _ => False
  | _ + 1, [], R, L, o => o = some (R, L)
  | k + 1, e :: p, R, L, o => if e.1 < 8 then ∃ q, gd_pk T G e.1 e.2.1 G.length 0 e.2.2 = some q ∧ (if R.length < 200 then gd_res T G k (gd_sp T (gg_y G q.1) e.2.1 q.2 ++ p) (R ++ [q.1]) L o else o = none) else gd_res T G k p R (L ++ [e.1]) o
theorem gd_res_one {T : Nat → Nat → Nat} {G : gg_R} : ∀ (k k' : Nat) (p : List (Nat × Nat × Nat)) (R L : List Nat) (o o' : Option (List Nat × List Nat)), gd_res T G k p R L o → gd_res T G k' p R L o' → o = o'
  | 0, _, _, _, _, _, _, h, _ => h.elim
  | _ + 1, 0, _, _, _, _, _, _, h' => h'.elim
  | k + 1, k' + 1, [], R, L, o, o', h, h' => by
    have h : o = some (R, L) := h
    have h' : o' = some (R, L) := h'
    rw [h, h']
  | k + 1, k' + 1, e :: p, R, L, o, o', h, h' => by
    have h : if e.1 < 8 then ∃ q, gd_pk T G e.1 e.2.1 G.length 0 e.2.2 = some q ∧ (if R.length < 200 then gd_res T G k (gd_sp T (gg_y G q.1) e.2.1 q.2 ++ p) (R ++ [q.1]) L o else o = none) else gd_res T G k p R (L ++ [e.1]) o := h
    have h' : if e.1 < 8 then ∃ q, gd_pk T G e.1 e.2.1 G.length 0 e.2.2 = some q ∧ (if R.length < 200 then gd_res T G k' (gd_sp T (gg_y G q.1) e.2.1 q.2 ++ p) (R ++ [q.1]) L o' else o' = none) else gd_res T G k' p R (L ++ [e.1]) o' := h'
    by_cases c : e.1 < 8
    · rw [if_pos c] at h h'
      obtain ⟨q, h1, h2⟩ := h
      obtain ⟨q', h1', h2'⟩ := h'
      rw [h1] at h1'
      injection h1' with h1'
      subst h1'
      by_cases c2 : R.length < 200
      · rw [if_pos c2] at h2 h2'
        exact gd_res_one k k' _ _ _ _ _ h2 h2'
      · rw [if_neg c2] at h2 h2'
        rw [h2, h2']
    · rw [if_neg c] at h h'
      exact gd_res_one k k' _ _ _ _ _ h h'
theorem gd_res_nt {T : Nat → Nat → Nat} {G : gg_R} {k : Nat} {e : Nat × Nat × Nat} {p : List (Nat × Nat × Nat)} {R L : List Nat} {o : Option (List Nat × List Nat)} {r m : Nat} (he : e.1 < 8) (hq : gd_pk T G e.1 e.2.1 G.length 0 e.2.2 = some (r, m)) (hR : R.length < 200) (h : gd_res T G k (gd_sp T (gg_y G r) e.2.1 m ++ p) (R ++ [r]) L o) : gd_res T G (k + 1) (e :: p) R L o := by
  show if e.1 < 8 then ∃ q, gd_pk T G e.1 e.2.1 G.length 0 e.2.2 = some q ∧ (if R.length < 200 then gd_res T G k (gd_sp T (gg_y G q.1) e.2.1 q.2 ++ p) (R ++ [q.1]) L o else o = none) else gd_res T G k p R (L ++ [e.1]) o
  rw [if_pos he]
  refine ⟨(r, m), hq, ?_⟩
  rw [if_pos hR]
  exact h
theorem gd_res_full {T : Nat → Nat → Nat} {G : gg_R} {k : Nat} {e : Nat × Nat × Nat} {p : List (Nat × Nat × Nat)} {R L : List Nat} {q : Nat × Nat} (he : e.1 < 8) (hq : gd_pk T G e.1 e.2.1 G.length 0 e.2.2 = some q) (hR : ¬ R.length < 200) : gd_res T G (k + 1) (e :: p) R L none := by
  show if e.1 < 8 then ∃ q, gd_pk T G e.1 e.2.1 G.length 0 e.2.2 = some q ∧ (if R.length < 200 then gd_res T G k (gd_sp T (gg_y G q.1) e.2.1 q.2 ++ p) (R ++ [q.1]) L none else (none : Option (List Nat × List Nat)) = none) else gd_res T G k p R (L ++ [e.1]) none
  rw [if_pos he]
  refine ⟨q, hq, ?_⟩
  rw [if_neg hR]
theorem gd_res_t {T : Nat → Nat → Nat} {G : gg_R} {k : Nat} {e : Nat × Nat × Nat} {p : List (Nat × Nat × Nat)} {R L : List Nat} {o : Option (List Nat × List Nat)} (he : ¬ e.1 < 8) (h : gd_res T G k p R (L ++ [e.1]) o) : gd_res T G (k + 1) (e :: p) R L o := by
  show if e.1 < 8 then ∃ q, gd_pk T G e.1 e.2.1 G.length 0 e.2.2 = some q ∧ (if R.length < 200 then gd_res T G k (gd_sp T (gg_y G q.1) e.2.1 q.2 ++ p) (R ++ [q.1]) L o else o = none) else gd_res T G k p R (L ++ [e.1]) o
  rw [if_neg he]
  exact h
/-- the counts are those of the grammar, up to the length N -/
def gd_ok (G : gg_R) (T : Nat → Nat → Nat) (N : Nat) : Prop := ∀ A n, A < 8 → n < N → T A n = gc_cap (gc_pt T G (fun _ => true) A n G.length)
theorem gd_pick {T : Nat → Nat → Nat} {G : gg_R} {N : Nat} {e : Nat × Nat × Nat} (hok : gd_ok G T N) (he : e.1 < 8) (hn : e.2.1 < N) (hv : gd_v T e) : ∃ r m, gd_pk T G e.1 e.2.1 G.length 0 e.2.2 = some (r, m) ∧ r < G.length ∧ gg_l G r = e.1 ∧ m < gc_E T (gg_y G r) e.2.1 ∧ gc_E T (gg_y G r) e.2.1 ≤ 1000000000000000000 := by
  obtain ⟨h1, h2⟩ := hv.1 he
  rw [hok e.1 e.2.1 he hn] at h1 h2
  obtain ⟨c1, c2⟩ := gc_cap_small h2
  rw [c1] at h1
  obtain ⟨q, m, z1, z2, z3, z4, z5, z6⟩ := gd_pk_ok c2 G.length 0 e.2.2 (by omega) (by show e.2.2 + 0 < _; omega)
  exact ⟨q, m, z1, z3, z4, z5, z6⟩
theorem gd_ln_mem : ∀ (p : List (Nat × Nat × Nat)) (e : Nat × Nat × Nat), e ∈ p → e.2.1 ≤ gd_ln p
  | [], e, h => absurd h List.not_mem_nil
  | x :: p, e, h => by
    show e.2.1 ≤ x.2.1 + gd_ln p
    rcases List.mem_cons.mp h with z | z
    · rw [z]
      omega
    · have := gd_ln_mem p e z
      omega
theorem gd_nt_cons (e : Nat × Nat × Nat) (p : List (Nat × Nat × Nat)) : gd_nt (e :: p) = (if e.1 < 8 then 1 else 0) + gd_nt p := rfl
/-- with more nonterminals than rules may come, the row becomes too long -/
theorem gd_much {T : Nat → Nat → Nat} {G : gg_R} {N : Nat} (hok : gd_ok G T N) : ∀ (d : Nat) (p : List (Nat × Nat × Nat)) (R L : List Nat), 200 - R.length ≤ d → R.length ≤ 200 → (∀ e, e ∈ p → gd_v T e) → gd_ln p < N → 200 < R.length + gd_nt p → ∃ k, gd_res T G k p R L none := by
  intro d
  induction d with
  | zero =>
    intro p
    induction p with
    | nil =>
      intro R L hd hR2 _ _ h
      have h : 200 < R.length + 0 := h
      omega
    | cons e p ih =>
      intro R L hd hR2 hv hl h
      by_cases he : e.1 < 8
      · obtain ⟨r, m, z, -⟩ := gd_pick hok he (by have := gd_ln_mem (e :: p) e List.mem_cons_self; omega) (hv e List.mem_cons_self)
        exact ⟨1, gd_res_full he z (by omega)⟩
      · rw [gd_nt_cons, if_neg he] at h
        obtain ⟨k, hk⟩ := ih R (L ++ [e.1]) hd hR2 (fun x hx => hv x (List.mem_cons_of_mem _ hx)) (by have : gd_ln (e :: p) = e.2.1 + gd_ln p := rfl; omega) (by omega)
        exact ⟨k + 1, gd_res_t he hk⟩
  | succ d ihd =>
    intro p
    induction p with
    | nil =>
      intro R L hd hR2 _ _ h
      have h : 200 < R.length + 0 := h
      omega
    | cons e p ih =>
      intro R L hd hR2 hv hl h
      by_cases he : e.1 < 8
      · obtain ⟨r, m, z, z1, z2, z3, z4⟩ := gd_pick hok he (by have := gd_ln_mem (e :: p) e List.mem_cons_self; omega) (hv e List.mem_cons_self)
        by_cases hR : R.length < 200
        · obtain ⟨s1, s2, s3⟩ := gd_sp_ok _ _ _ z3 z4
          rw [gd_nt_cons, if_pos he] at h
          obtain ⟨k, hk⟩ := ihd (gd_sp T (gg_y G r) e.2.1 m ++ p) (R ++ [r]) L (by rw [List.length_append]; show 200 - (R.length + 1) ≤ d; omega) (by rw [List.length_append]; show R.length + 1 ≤ 200; omega) (fun x hx => (List.mem_append.mp hx).elim (s1 x) (fun y => hv x (List.mem_cons_of_mem _ y))) (by rw [gd_ln_app, s2]; exact hl) (by rw [gd_nt_app, List.length_append]; show 200 < (R.length + 1) + _; omega)
          exact ⟨k + 1, gd_res_nt he z hR hk⟩
        · exact ⟨1, gd_res_full he z hR⟩
      · rw [gd_nt_cons, if_neg he] at h
        obtain ⟨k, hk⟩ := ih R (L ++ [e.1]) hd hR2 (fun x hx => hv x (List.mem_cons_of_mem _ hx)) (by have : gd_ln (e :: p) = e.2.1 + gd_ln p := rfl; omega) (by omega)
        exact ⟨k + 1, gd_res_t he hk⟩
