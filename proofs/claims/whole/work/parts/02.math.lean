/-! Trees of a grammar, without trees: gm_D R k A m: nonterminal A has a tree of height at most k and of length m.
R is the list of the rules (left side, right side); symbols below 8 are nonterminals. DRAFT, not compiled yet. -/
theorem gm_ph : ∀ (n : Nat) (f : Nat → Nat), (∀ i, i ≤ n → f i < n) → ∃ i j, i < j ∧ j ≤ n ∧ f i = f j
  | 0, f, h => absurd (h 0 (Nat.le_refl 0)) (Nat.not_lt_zero _)
  | n + 1, f, h => by
    by_cases hx : ∃ i, i ≤ n ∧ f i = f (n + 1)
    · obtain ⟨i, h1, h2⟩ := hx
      exact ⟨i, n + 1, by omega, Nat.le_refl _, h2⟩
    · have hne : ∀ i, i ≤ n → f i ≠ f (n + 1) := fun i hi e => hx ⟨i, hi, e⟩
      obtain ⟨i, j, h1, h2, h3⟩ := gm_ph n (fun i => if f (n + 1) < f i then f i - 1 else f i) (fun i hi => by
        have a := h i (by omega)
        have b := h (n + 1) (Nat.le_refl _)
        have c := hne i hi
        show (if f (n + 1) < f i then f i - 1 else f i) < n
        split <;> omega)
      refine ⟨i, j, h1, by omega, ?_⟩
      have a := hne i (by omega)
      have b := hne j h2
      have h3 : (if f (n + 1) < f i then f i - 1 else f i) = (if f (n + 1) < f j then f j - 1 else f j) := h3
      split at h3 <;> split at h3 <;> omega
/-- the symbols xs together have a length m, D says which lengths a nonterminal has -/
def gm_S (D : Nat → Nat → Prop) : List Nat → Nat → Prop
  | [], m => m = 0
  | x :: xs, m => ∃ a b, m = a + b ∧ (x < 8 → D x a) ∧ (8 ≤ x → a = 1) ∧ gm_S D xs b
def gm_D (R : List (Nat × List Nat)) : Nat → Nat → Nat → Prop
  | 0, _, _ => False
  | k + 1, A, m => ∃ r, r ∈ R ∧ r.1 = A ∧ gm_S (gm_D R k) r.2 m
theorem gm_S_mono {D E : Nat → Nat → Prop} (h : ∀ x a, x < 8 → D x a → E x a) : ∀ (xs : List Nat) (m : Nat), gm_S D xs m → gm_S E xs m
  | [], _, hs => hs
  | _ :: xs, _, hs => by
    obtain ⟨a, b, e, h1, h2, h3⟩ := hs
    exact ⟨a, b, e, fun hx => h _ _ hx (h1 hx), h2, gm_S_mono h xs b h3⟩
theorem gm_D_up {R : List (Nat × List Nat)} : ∀ (k A m : Nat), gm_D R k A m → gm_D R (k + 1) A m
  | 0, _, _, h => h.elim
  | k + 1, _, _, h => by
    obtain ⟨r, h1, h2, h3⟩ := h
    exact ⟨r, h1, h2, gm_S_mono (fun x a _ hd => gm_D_up k x a hd) _ _ h3⟩
theorem gm_D_le {R : List (Nat × List Nat)} {k n A m : Nat} (h : gm_D R k A m) (hkn : k ≤ n) : gm_D R n A m := by
  induction n with
  | zero =>
    have e : k = 0 := by omega
    subst e
    exact h
  | succ n ih =>
    by_cases e : k = n + 1
    · subst e
      exact h
    · exact gm_D_up n A m (ih (by omega))
/-- m is the least length of A's trees -/
def gm_V (R : List (Nat × List Nat)) (A m : Nat) : Prop := (∃ k, gm_D R k A m) ∧ ∀ k n, gm_D R k A n → m ≤ n
theorem gm_V_uniq {R : List (Nat × List Nat)} {A m n : Nat} (h : gm_V R A m) (h' : gm_V R A n) : m = n := by
  obtain ⟨⟨k, hk⟩, h2⟩ := h
  obtain ⟨⟨k', hk'⟩, h2'⟩ := h'
  have a := h2 k' n hk'
  have b := h2' k m hk
  omega
theorem gm_V_ex {R : List (Nat × List Nat)} {k A n : Nat} (h : gm_D R k A n) : ∃ m, gm_V R A m ∧ m ≤ n := by
  obtain ⟨m, ⟨k', hk'⟩, hl⟩ := pk_least (fun m => ∃ k, gm_D R k A m) ⟨n, k, h⟩
  refine ⟨m, ⟨⟨k', hk'⟩, fun k2 n2 h2 => ?_⟩, ?_⟩
  · rcases Nat.lt_or_ge n2 m with q | q
    · exact absurd ⟨k2, h2⟩ (hl n2 q)
    · exact q
  · rcases Nat.lt_or_ge n m with q | q
    · exact absurd ⟨k, h⟩ (hl n q)
    · exact q
/-- a row of symbols at heights k: at least lengths it isn't longer; if it is as long, all were least -/
theorem gm_S_min {R : List (Nat × List Nat)} {k : Nat} : ∀ (xs : List Nat) (m : Nat), gm_S (gm_D R k) xs m → ∃ m', gm_S (gm_V R) xs m' ∧ m' ≤ m ∧ (m' = m → gm_S (fun x a => gm_D R k x a ∧ gm_V R x a) xs m)
  | [], m, h => ⟨m, h, Nat.le_refl _, fun _ => h⟩
  | x :: xs, m, h => by
    obtain ⟨a, b, e, h1, h2, h3⟩ := h
    obtain ⟨b', g1, g2, g3⟩ := gm_S_min xs b h3
    by_cases hx : x < 8
    · obtain ⟨a', q1, q2⟩ := gm_V_ex (h1 hx)
      refine ⟨a' + b', ⟨a', b', rfl, fun _ => q1, fun z => absurd z (by omega), g1⟩, by omega, fun eq => ?_⟩
      have ea : a' = a := by omega
      have eb : b' = b := by omega
      subst ea
      exact ⟨a', b, e, fun _ => ⟨h1 hx, q1⟩, h2, g3 eb⟩
    · refine ⟨a + b', ⟨a, b', rfl, fun z => absurd z hx, h2, g1⟩, by omega, fun eq => ?_⟩
      exact ⟨a, b, e, fun z => absurd z hx, h2, g3 (by omega)⟩
theorem gm_S_or {E F : Nat → Nat → Prop} : ∀ (xs : List Nat) (m : Nat), gm_S E xs m → gm_S F xs m ∨ ∃ x a, x < 8 ∧ E x a ∧ ¬ F x a
  | [], _, h => Or.inl h
  | x :: xs, m, h => by
    obtain ⟨a, b, e, h1, h2, h3⟩ := h
    rcases gm_S_or (F := F) xs b h3 with g | g
    · by_cases hx : x < 8
      · by_cases hf : F x a
        · exact Or.inl ⟨a, b, e, fun _ => hf, h2, g⟩
        · exact Or.inr ⟨x, a, hx, h1 hx, hf⟩
      · exact Or.inl ⟨a, b, e, fun z => absurd z hx, h2, g⟩
    · exact Or.inr g
/-- some height serves for all of a row -/
theorem gm_S_height {R : List (Nat × List Nat)} : ∀ (xs : List Nat) (m : Nat), gm_S (gm_V R) xs m → ∃ k, gm_S (gm_D R k) xs m
  | [], m, h => ⟨0, h⟩
  | x :: xs, m, h => by
    obtain ⟨a, b, e, h1, h2, h3⟩ := h
    obtain ⟨k, hk⟩ := gm_S_height xs b h3
    by_cases hx : x < 8
    · obtain ⟨⟨k2, hk2⟩, -⟩ := h1 hx
      refine ⟨k + k2, a, b, e, fun _ => gm_D_le hk2 (by omega), h2, gm_S_mono (fun y c _ hd => gm_D_le hd (by omega)) _ _ hk⟩
    · exact ⟨k, a, b, e, fun z => absurd z hx, h2, hk⟩
/-- A's least length is reached at height k and not below -/
def gm_H (R : List (Nat × List Nat)) (k A : Nat) : Prop := ∃ m, gm_V R A m ∧ gm_D R k A m ∧ ¬ gm_D R (k - 1) A m
theorem gm_H_down {R : List (Nat × List Nat)} {k A : Nat} (h : gm_H R (k + 2) A) : ∃ x, x < 8 ∧ gm_H R (k + 1) x := by
  obtain ⟨m, hv, hd, hn⟩ := h
  obtain ⟨r, h1, h2, h3⟩ := hd
  obtain ⟨m', g1, g2, g3⟩ := gm_S_min _ _ h3
  have hm : m ≤ m' := by
    obtain ⟨k2, hk2⟩ := gm_S_height _ _ g1
    exact hv.2 (k2 + 1) m' ⟨r, h1, h2, hk2⟩
  have h4 := g3 (by omega)
  rcases gm_S_or (F := gm_D R k) _ _ h4 with q | ⟨x, a, hx, ⟨q1, q2⟩, q3⟩
  · exact absurd (⟨r, h1, h2, q⟩ : gm_D R (k + 1) A m) hn
  · exact ⟨x, hx, a, q2, q1, q3⟩
theorem gm_H_le {R : List (Nat × List Nat)} {k A : Nat} (hA : A < 8) (h : gm_H R k A) : k ≤ 8 := by
  rcases Nat.lt_or_ge 8 k with q | q
  · have all : ∀ j, j + 1 ≤ k → ∃ x, x < 8 ∧ gm_H R (k - j) x := by
      intro j
      induction j with
      | zero => exact fun _ => ⟨A, hA, h⟩
      | succ j ih =>
        intro hj
        obtain ⟨x, hx, hh⟩ := ih (by omega)
        have e : k - j = (k - (j + 1) - 1) + 2 := by omega
        rw [e] at hh
        obtain ⟨y, hy, hh2⟩ := gm_H_down hh
        have e2 : k - (j + 1) - 1 + 1 = k - (j + 1) := by omega
        rw [e2] at hh2
        exact ⟨y, hy, hh2⟩
    have ex : ∀ i, ∃ x, i ≤ 8 → x < 8 ∧ gm_H R (i + 1) x := by
      intro i
      by_cases hi : i ≤ 8
      · obtain ⟨x, hx, hh⟩ := all (k - (i + 1)) (by omega)
        have e : k - (k - (i + 1)) = i + 1 := by omega
        rw [e] at hh
        exact ⟨x, fun _ => ⟨hx, hh⟩⟩
      · exact ⟨0, fun z => absurd z hi⟩
    obtain ⟨f, hf⟩ : ∃ f : Nat → Nat, ∀ i, i ≤ 8 → f i < 8 ∧ gm_H R (i + 1) (f i) := ⟨fun i => Classical.choose (ex i), fun i hi => Classical.choose_spec (ex i) hi⟩
    obtain ⟨i, j, hij, hj, e⟩ := gm_ph 8 f (fun i hi => (hf i hi).1)
    obtain ⟨-, m, v1, d1, n1⟩ := hf i (by omega)
    obtain ⟨-, m2, v2, d2, n2⟩ := hf j hj
    rw [e] at v1 d1
    have em := gm_V_uniq v1 v2
    subst em
    exact absurd (gm_D_le d1 (show i + 1 ≤ j + 1 - 1 by omega)) n2
  · exact q
/-- eight rounds reach every least length -/
theorem gm_eight {R : List (Nat × List Nat)} {A m : Nat} (hA : A < 8) (h : gm_V R A m) : gm_D R 8 A m := by
  obtain ⟨k, hk, hl⟩ := pk_least (fun k => gm_D R k A m) h.1
  have hH : gm_H R k A := by
    refine ⟨m, h, hk, ?_⟩
    cases k with
    | zero => exact hk.elim
    | succ k => exact hl k (by omega)
  exact gm_D_le hk (gm_H_le hA hH)
/-! Counts of trees, held at 10^18 + 1. T x p: how many trees of length p nonterminal x has. DRAFT, not compiled yet. -/
def gc_cap (n : Nat) : Nat := if n ≤ 1000000000000000000 then n else 1000000000000000001
def gc_sum (f : Nat → Nat) : Nat → Nat
  | 0 => 0
  | n + 1 => gc_sum f n + f n
theorem gc_sum_congr {f g : Nat → Nat} : ∀ (n : Nat), (∀ p, p < n → f p = g p) → gc_sum f n = gc_sum g n
  | 0, _ => rfl
  | n + 1, h => by
    show gc_sum f n + f n = gc_sum g n + g n
    rw [gc_sum_congr n (fun p hp => h p (by omega)), h n (by omega)]
/-- how many ways the symbols have to yield a length -/
def gc_E (T : Nat → Nat → Nat) : List Nat → Nat → Nat
  | [], n => if n = 0 then 1 else 0
  | x :: xs, n => if x < 8 then gc_cap (gc_sum (fun p => T x p * gc_E T xs (n - p)) (n + 1)) else (if n = 0 then 0 else gc_E T xs (n - 1))
/-- over the rules of A -/
def gc_tot (T : Nat → Nat → Nat) : List (Nat × List Nat) → Nat → Nat → Nat
  | [], _, _ => 0
  | r :: R, A, n => (if r.1 = A then gc_E T r.2 n else 0) + gc_tot T R A n
theorem gc_cap_add (a b : Nat) : gc_cap (gc_cap a + b) = gc_cap (a + b) := by
  unfold gc_cap
  split <;> split <;> (try split) <;> omega
theorem gc_cap_zero : gc_cap 0 = 0 := rfl
theorem gc_cap_le (a : Nat) : gc_cap a ≤ 1000000000000000001 := by
  unfold gc_cap
  split <;> omega
theorem gc_cap_cap (a : Nat) : gc_cap (gc_cap a) = gc_cap a := by
  unfold gc_cap
  split <;> (try split) <;> omega
theorem gc_cap_eq0 {a : Nat} : gc_cap a = 0 ↔ a = 0 := by
  unfold gc_cap
  split <;> omega
theorem gc_E_nt {T : Nat → Nat → Nat} {x : Nat} {xs : List Nat} {n : Nat} (h : x < 8) : gc_E T (x :: xs) n = gc_cap (gc_sum (fun p => T x p * gc_E T xs (n - p)) (n + 1)) := by
  show (if x < 8 then _ else _) = _
  rw [if_pos h]
theorem gc_E_t {T : Nat → Nat → Nat} {x : Nat} {xs : List Nat} {n : Nat} (h : ¬ x < 8) : gc_E T (x :: xs) n = if n = 0 then 0 else gc_E T xs (n - 1) := by
  show (if x < 8 then _ else _) = _
  rw [if_neg h]
/-- the table up to n alone counts -/
theorem gc_E_upto {T T' : Nat → Nat → Nat} : ∀ (xs : List Nat) (n : Nat), (∀ x p, x < 8 → p ≤ n → T x p = T' x p) → gc_E T xs n = gc_E T' xs n
  | [], _, _ => rfl
  | x :: xs, n, h => by
    by_cases hx : x < 8
    · rw [gc_E_nt hx, gc_E_nt hx]
      congr 1
      refine gc_sum_congr _ (fun p hp => ?_)
      rw [h x p hx (by omega), gc_E_upto xs (n - p) (fun y q hy hq => h y q hy (by omega))]
    · rw [gc_E_t hx, gc_E_t hx]
      by_cases hn : n = 0
      · rw [if_pos hn, if_pos hn]
      · rw [if_neg hn, if_neg hn, gc_E_upto xs (n - 1) (fun y q hy hq => h y q hy (by omega))]
/-- nothing but empty nonterminals yields nothing -/
theorem gc_E_zero {T : Nat → Nat → Nat} : ∀ (xs : List Nat), gc_E T xs 0 ≠ 0 → ∀ y ∈ xs, y < 8 ∧ T y 0 ≠ 0
  | [], _, _, hy => absurd hy List.not_mem_nil
  | x :: xs, h, y, hy => by
    by_cases hx : x < 8
    · rw [gc_E_nt hx] at h
      have h1 : T x 0 * gc_E T xs 0 ≠ 0 := by
        intro e
        apply h
        have e2 : gc_sum (fun p => T x p * gc_E T xs (0 - p)) (0 + 1) = 0 := by
          show 0 + T x 0 * gc_E T xs (0 - 0) = 0
          rw [Nat.sub_zero, e]
        rw [e2]
        rfl
      have h2 : T x 0 ≠ 0 := fun e => h1 (by rw [e, Nat.zero_mul])
      have h3 : gc_E T xs 0 ≠ 0 := fun e => h1 (by rw [e, Nat.mul_zero])
      rcases List.mem_cons.mp hy with e | e
      · subst e
        exact ⟨hx, h2⟩
      · exact gc_E_zero xs h3 y e
    · rw [gc_E_t hx, if_pos rfl] at h
      exact absurd rfl h
/-- two tables that are alike below n, sound at 0, and alike at n where a symbol stands alone among empty ones -/
theorem gc_E_congr {em : Nat → Prop} {T T' : Nat → Nat → Nat} {n : Nat} (ha : ∀ x p, x < 8 → p < n → T x p = T' x p) (hb : ∀ x, x < 8 → ¬ em x → T x 0 = 0 ∧ T' x 0 = 0) :
    ∀ (xs : List Nat), (∀ l1 x l2, xs = l1 ++ x :: l2 → x < 8 → (∀ y, y ∈ l1 ++ l2 → y < 8 ∧ em y) → T x n = T' x n) → gc_E T xs n = gc_E T' xs n
  | [], _ => rfl
  | x :: xs, hc => by
    by_cases hx : x < 8
    · rw [gc_E_nt hx, gc_E_nt hx]
      congr 1
      refine gc_sum_congr _ (fun p hp => ?_)
      have first : p = 0 → T x 0 * gc_E T xs n = T x 0 * gc_E T' xs n := by
        intro _
        by_cases hz : T x 0 = 0
        · rw [hz, Nat.zero_mul, Nat.zero_mul]
        · have hem : em x := Classical.byContradiction (fun q => hz (hb x hx q).1)
          rw [gc_E_congr ha hb xs (fun l1 z l2 e hz2 hall => hc (x :: l1) z l2 (by rw [e]; rfl) hz2 (fun y hy => by
            rcases List.mem_cons.mp hy with q | q
            · subst q
              exact ⟨hx, hem⟩
            · exact hall y q))]
      have last : gc_E T xs 0 = gc_E T' xs 0 → T x n * gc_E T xs 0 = T' x n * gc_E T' xs 0 := by
        intro e
        by_cases hz : gc_E T xs 0 = 0
        · rw [← e, hz, Nat.mul_zero, Nat.mul_zero]
        · rw [← e, hc [] x xs rfl hx (fun y hy => by
            obtain ⟨h1, h2⟩ := gc_E_zero xs hz y (by simpa using hy)
            exact ⟨h1, Classical.byContradiction (fun q => h2 (hb y h1 q).1)⟩)]
      show T x p * gc_E T xs (n - p) = T' x p * gc_E T' xs (n - p)
      by_cases hn : n = 0
      · subst hn
        have hp0 : p = 0 := by omega
        subst hp0
        by_cases hem : em x
        · exact last (gc_E_congr ha hb xs (fun l1 z l2 e hz2 hall => hc (x :: l1) z l2 (by rw [e]; rfl) hz2 (fun y hy => by
            rcases List.mem_cons.mp hy with q | q
            · subst q
              exact ⟨hx, hem⟩
            · exact hall y q)))
        · rw [(hb x hx hem).1, (hb x hx hem).2, Nat.zero_mul, Nat.zero_mul]
      · by_cases hp0 : p = 0
        · subst hp0
          rw [Nat.sub_zero, ← ha x 0 hx (by omega)]
          exact first rfl
        · by_cases hpn : p = n
          · subst hpn
            rw [Nat.sub_self]
            exact last (gc_E_upto xs 0 (fun y q hy hq => ha y q hy (by omega)))
          · rw [ha x p hx (by omega), gc_E_upto xs (n - p) (fun y q hy hq => ha y q hy (by omega))]
    · rw [gc_E_t hx, gc_E_t hx]
      by_cases hn : n = 0
      · rw [if_pos hn, if_pos hn]
      · rw [if_neg hn, if_neg hn, gc_E_upto xs (n - 1) (fun y q hy hq => ha y q hy (by omega))]
/-- A leads to x: a rule of A has x among empty nonterminals -/
def gc_leads (em : Nat → Prop) (R : List (Nat × List Nat)) (A x : Nat) : Prop := ∃ r, r ∈ R ∧ r.1 = A ∧ ∃ l1 l2, r.2 = l1 ++ x :: l2 ∧ ∀ y, y ∈ l1 ++ l2 → y < 8 ∧ em y
theorem gc_tot_congr {em : Nat → Prop} {T T' : Nat → Nat → Nat} {n A : Nat} (ha : ∀ x p, x < 8 → p < n → T x p = T' x p) (hb : ∀ x, x < 8 → ¬ em x → T x 0 = 0 ∧ T' x 0 = 0) :
    ∀ (R : List (Nat × List Nat)), (∀ x, x < 8 → gc_leads em R A x → T x n = T' x n) → gc_tot T R A n = gc_tot T' R A n
  | [], _ => rfl
  | r :: R, hc => by
    have h1 : gc_tot T R A n = gc_tot T' R A n := gc_tot_congr ha hb R (fun x hx hl => hc x hx (by
      obtain ⟨r2, q1, q2, q3⟩ := hl
      exact ⟨r2, List.mem_cons_of_mem _ q1, q2, q3⟩))
    show (if r.1 = A then gc_E T r.2 n else 0) + gc_tot T R A n = (if r.1 = A then gc_E T' r.2 n else 0) + gc_tot T' R A n
    rw [h1]
    by_cases hr : r.1 = A
    · rw [if_pos hr, if_pos hr, gc_E_congr ha hb r.2 (fun l1 x l2 e hx hall => hc x hx ⟨r, List.mem_cons_self, hr, l1, l2, e, hall⟩)]
    · rw [if_neg hr, if_neg hr]
/-- a table of counts for a grammar -/
def gc_ok (em : Nat → Prop) (R : List (Nat × List Nat)) (T : Nat → Nat → Nat) (N : Nat) : Prop :=
  (∀ A n, A < 8 → n ≤ N → T A n = gc_cap (gc_tot T R A n)) ∧ ∀ A, A < 8 → ¬ em A → T A 0 = 0
/-- there is one table only, where an order shows that there is no circle -/
theorem gc_one {em : Nat → Prop} {R : List (Nat × List Nat)} {T T' : Nat → Nat → Nat} {N : Nat} (rk : Nat → Nat) (hrk : ∀ A x, A < 8 → x < 8 → gc_leads em R A x → rk x < rk A) (h : gc_ok em R T N) (h' : gc_ok em R T' N) : ∀ n, n ≤ N → ∀ A, A < 8 → T A n = T' A n := by
  intro n
  induction n using Nat.strongRecOn with
  | _ n ihn =>
    intro hn
    have key : ∀ (k A : Nat), A < 8 → rk A < k → T A n = T' A n := by
      intro k
      induction k with
      | zero => exact fun A _ hk => absurd hk (Nat.not_lt_zero _)
      | succ k ih =>
        intro A hA hk
        rw [h.1 A n hA hn, h'.1 A n hA hn, gc_tot_congr (T := T) (T' := T') (em := em) (fun x p hx hp => ihn p hp (by omega) x hx) (fun x hx hem => ⟨h.2 x hx hem, h'.2 x hx hem⟩) R (fun x hx hl => ih x hx (by have := hrk A x hA hx hl; omega))]
    exact fun A hA => key (rk A + 1) A hA (Nat.lt_succ_self _)
