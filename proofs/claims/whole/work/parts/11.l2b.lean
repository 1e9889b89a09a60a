/-! Layer 2, part b: least lengths (the class's Lengths). D A: the length known of A. -/
def gg_add : Option Nat → Option Nat → Option Nat
  | some a, some b => some (a + b)
  | _, _ => none
/-- a symbol's length -/
def gg_len (D : Nat → Option Nat) (s : Nat) : Option Nat := if s < 8 then D s else some 1
/-- the lengths of a row of symbols together, all but the one at place x -/
def gg_but (D : Nat → Option Nat) (x : Int32) : Nat → List Nat → Option Nat
  | _, [] => some 0
  | i, s :: zs => if nI i = x then gg_but D x (i + 1) zs else gg_add (gg_len D s) (gg_but D x (i + 1) zs)
def gg_sum (D : Nat → Option Nat) : List Nat → Option Nat
  | [] => some 0
  | s :: zs => gg_add (gg_len D s) (gg_sum D zs)
theorem gg_but_no {D : Nat → Option Nat} : ∀ (zs : List Nat) (i : Nat), i + zs.length < 2 ^ 31 → gg_but D (-1) i zs = gg_sum D zs
  | [], _, _ => rfl
  | s :: zs, i, h => by
    have h : i + (zs.length + 1) < 2 ^ 31 := h
    show (if nI i = -1 then gg_but D (-1) (i + 1) zs else gg_add (gg_len D s) (gg_but D (-1) (i + 1) zs)) = gg_add (gg_len D s) (gg_sum D zs)
    have hne : ¬ nI i = -1 := fun e => absurd (e ▸ (by decide : (-1 : Int32) < 0)) (nI_pos (by omega))
    rw [if_neg hne, gg_but_no zs (i + 1) (by omega)]
/-- no known length is above B -/
def gg_bd (D : Nat → Option Nat) (B : Nat) : Prop := ∀ A, A < 8 → ∀ n, D A = some n → n ≤ B
theorem gg_len_le {D : Nat → Option Nat} {B s n : Nat} (hB : gg_bd D B) (h1 : 1 ≤ B) (h : gg_len D s = some n) : n ≤ B := by
  unfold gg_len at h
  split at h
  · exact hB s (by assumption) n h
  · injection h with h
    omega
theorem gg_but_le {D : Nat → Option Nat} {B : Nat} {x : Int32} (hB : gg_bd D B) (h1 : 1 ≤ B) : ∀ (zs : List Nat) (i n : Nat), gg_but D x i zs = some n → n ≤ zs.length * B
  | [], _, n, h => by
    injection h with h
    omega
  | s :: zs, i, n, h => by
    have h : (if nI i = x then gg_but D x (i + 1) zs else gg_add (gg_len D s) (gg_but D x (i + 1) zs)) = some n := h
    show n ≤ (zs.length + 1) * B
    rw [Nat.add_mul, Nat.one_mul]
    split at h
    · have := gg_but_le hB h1 zs (i + 1) n h
      omega
    · cases ha : gg_len D s with
      | none => rw [ha] at h; cases h
      | some a =>
        cases hb : gg_but D x (i + 1) zs with
        | none => rw [ha, hb] at h; cases h
        | some b =>
          rw [ha, hb] at h
          injection h with h
          have e1 := gg_len_le hB h1 ha
          have e2 := gg_but_le hB h1 zs (i + 1) b hb
          omega
/-- the field least holds D -/
def le_at (D : Nat → Option Nat) (σ : gs_St) : Prop := ∀ A, A < 8 → σ.2.1 4 A = gg_o (D A)
def ar_at (D : Nat → Option Nat) (σ : gs_St) : Prop := ∀ A, A < 8 → σ.2.1 5 A = gg_o (D A)
def gg_up (D : Nat → Option Nat) (A : Nat) (o : Option Nat) : Nat → Option Nat := fun x => if x = A then o else D x
theorem gg_up_s {D : Nat → Option Nat} {A : Nat} {o : Option Nat} : gg_up D A o A = o := if_pos rfl
theorem gg_up_n {D : Nat → Option Nat} {A x : Nat} {o : Option Nat} (h : x ≠ A) : gg_up D A o x = D x := if_neg h
/-- D or the new length, if it is shorter -/
def gg_low (D : Nat → Option Nat) (A : Nat) (o : Option Nat) : Nat → Option Nat :=
  match o, D A with
  | none, _ => D
  | some n, none => gg_up D A (some n)
  | some n, some m => if m ≤ n then D else gg_up D A (some n)
/-- how many lengths are known -/
def gg_cnt (D : Nat → Option Nat) : Nat → Nat
  | 0 => 0
  | n + 1 => gg_cnt D n + (if (D n).isSome then 1 else 0)
theorem gg_cnt_le (D : Nat → Option Nat) : ∀ n, gg_cnt D n ≤ n
  | 0 => Nat.le_refl 0
  | n + 1 => by
    have := gg_cnt_le D n
    show gg_cnt D n + (if (D n).isSome then 1 else 0) ≤ n + 1
    split <;> omega
theorem gg_cnt_o {D : Nat → Option Nat} {A : Nat} {o : Option Nat} : ∀ n, n ≤ A → gg_cnt (gg_up D A o) n = gg_cnt D n
  | 0, _ => rfl
  | n + 1, h => by
    show gg_cnt (gg_up D A o) n + (if (gg_up D A o n).isSome then 1 else 0) = gg_cnt D n + (if (D n).isSome then 1 else 0)
    rw [gg_cnt_o n (by omega), gg_up_n (by omega)]
theorem gg_cnt_new {D : Nat → Option Nat} {A m : Nat} (h0 : D A = none) : ∀ n, A < n → gg_cnt (gg_up D A (some m)) n = gg_cnt D n + 1
  | 0, h => absurd h (Nat.not_lt_zero _)
  | n + 1, h => by
    show gg_cnt (gg_up D A (some m)) n + (if (gg_up D A (some m) n).isSome then 1 else 0) = gg_cnt D n + (if (D n).isSome then 1 else 0) + 1
    by_cases e : n = A
    · subst e
      rw [gg_cnt_o n (Nat.le_refl _), gg_up_s, h0]
      rfl
    · rw [gg_cnt_new h0 n (by omega), gg_up_n e]
      omega
theorem gg_cnt_old {D : Nat → Option Nat} {A m k : Nat} (h0 : D A = some k) : ∀ n, gg_cnt (gg_up D A (some m)) n = gg_cnt D n
  | 0 => rfl
  | n + 1 => by
    show gg_cnt (gg_up D A (some m)) n + (if (gg_up D A (some m) n).isSome then 1 else 0) = gg_cnt D n + (if (D n).isSome then 1 else 0)
    by_cases e : n = A
    · subst e
      rw [gg_cnt_old h0 n, gg_up_s, h0]
      rfl
    · rw [gg_cnt_old h0 n, gg_up_n e]
/-- lengths that are known so far are small, by the number of known ones -/
def gg_sb (b : Nat → Nat) (D : Nat → Option Nat) : Prop := gg_bd D (b (gg_cnt D 8))
theorem gg_sb_low {b : Nat → Nat} {D : Nat → Option Nat} {A : Nat} {o : Option Nat} (hb : ∀ c, b c ≤ b (c + 1)) (hA : A < 8) (h : gg_sb b D) (ho : ∀ n, o = some n → n ≤ b (gg_cnt D 8 + 1)) : gg_sb b (gg_low D A o) := by
  unfold gg_low
  cases o with
  | none => exact h
  | some n =>
    cases hd : D A with
    | none =>
      show gg_sb b (gg_up D A (some n))
      intro B hB k hk
      rw [gg_cnt_new hd 8 hA]
      by_cases e : B = A
      · subst e
        rw [gg_up_s] at hk
        injection hk with hk
        exact hk ▸ ho n rfl
      · rw [gg_up_n e] at hk
        exact Nat.le_trans (h B hB k hk) (hb _)
    | some m =>
      show gg_sb b (if m ≤ n then D else gg_up D A (some n))
      split
      · exact h
      · intro B hB k hk
        rw [gg_cnt_old hd 8]
        by_cases e : B = A
        · subst e
          rw [gg_up_s] at hk
          injection hk with hk
          have h1 := h B hB m hd
          omega
        · rw [gg_up_n e] at hk
          exact h B hB k hk
theorem gg_mono {b : Nat → Nat} (hb : ∀ c, b c ≤ b (c + 1)) : ∀ {m n : Nat}, m ≤ n → b m ≤ b n := by
  intro m n h
  induction n with
  | zero => rw [show m = 0 by omega]; exact Nat.le_refl _
  | succ n ih =>
    by_cases e : m = n + 1
    · rw [e]; exact Nat.le_refl _
    · exact Nat.le_trans (ih (by omega)) (hb n)
theorem gg_sb_bd {b : Nat → Nat} {D : Nat → Option Nat} (hb : ∀ c, b c ≤ b (c + 1)) (h : gg_sb b D) : gg_bd D (b 8) := fun A hA n hn =>
  Nat.le_trans (h A hA n hn) (gg_mono hb (gg_cnt_le D 8))
section L2B
variable {G : gg_R} {σ : gs_St} {D : Nat → Option Nat}
theorem s_fill7 {x : Int32} {K : gs_St → Prop} (k : ∀ τ : gs_St, τ = gs_A σ 4 (fun j => if j < 8 then x else σ.2.1 4 j) → K τ) : C_Ar_fill_7 x σ K := by
  intro X5 h5
  have key : ∀ (n i : Nat) (f : Nat → Int32), i + n = 8 → (∀ j, f j = if j < i then x else σ.2.1 4 j) → X5 x (nI i) 8 (gs_A σ 4 f) := by
    intro n
    induction n with
    | zero =>
      intro i f hi hf
      have hi : i = 8 := hi
      subst hi
      apply h5
      exact br_t (by decide) (k _ (by rw [show f = (fun j => if j < 8 then x else σ.2.1 4 j) from funext hf]))
    | succ n ih =>
      intro i f hi hf
      apply h5
      refine pk_le 8 i (fun q => absurd q (by omega)) (fun _ => ⟨vp_in_nI (by omega) (by decide), ?_⟩)
      rw [nI_clamp (by omega)]
      intro τ hτ
      have e : τ = gs_A σ 4 (upd f i x) := by
        rw [hτ, gs_AA]
        rfl
      rw [e]
      refine nm_r (nI_1 i) ?_
      exact ih (i + 1) (upd f i x) (by omega) (fun j => by
        show (if j = i then x else f j) = _
        rw [hf j]
        split <;> split <;> (try split) <;> first | rfl | omega)
  have := key 8 0 (σ.2.1 4) rfl (fun j => by rw [if_neg (Nat.not_lt_zero _)])
  rw [gs_Aid] at this
  exact this
theorem s_fill8 {x : Int32} {K : gs_St → Prop} (k : ∀ τ : gs_St, τ = gs_A σ 5 (fun j => if j < 8 then x else σ.2.1 5 j) → K τ) : C_Ar_fill_8 x σ K := by
  intro X5 h5
  have key : ∀ (n i : Nat) (f : Nat → Int32), i + n = 8 → (∀ j, f j = if j < i then x else σ.2.1 5 j) → X5 x (nI i) 8 (gs_A σ 5 f) := by
    intro n
    induction n with
    | zero =>
      intro i f hi hf
      have hi : i = 8 := hi
      subst hi
      apply h5
      exact br_t (by decide) (k _ (by rw [show f = (fun j => if j < 8 then x else σ.2.1 5 j) from funext hf]))
    | succ n ih =>
      intro i f hi hf
      apply h5
      refine pk_le 8 i (fun q => absurd q (by omega)) (fun _ => ⟨vp_in_nI (by omega) (by decide), ?_⟩)
      rw [nI_clamp (by omega)]
      intro τ hτ
      have e : τ = gs_A σ 5 (upd f i x) := by
        rw [hτ, gs_AA]
        rfl
      rw [e]
      refine nm_r (nI_1 i) ?_
      exact ih (i + 1) (upd f i x) (by omega) (fun j => by
        show (if j = i then x else f j) = _
        rw [hf j]
        split <;> split <;> (try split) <;> first | rfl | omega)
  have := key 8 0 (σ.2.1 5) rfl (fun j => by rw [if_neg (Nat.not_lt_zero _)])
  rw [gs_Aid] at this
  exact this
theorem s_leastBut {r B : Nat} {x : Int32} {K : Int32 → gs_St → Prop} (h : gr_at G σ) (hr : r < G.length) (hD : le_at D σ) (hB : gg_bd D B) (hB1 : 1 ≤ B) (hB2 : B ≤ 100000000) (k : K (gg_o (gg_but D x 0 (gg_y G r))) σ) : C_Le_leastBut (nI r) x σ K := by
  intro X5 h5
  have hG := h.1.1
  have hz := (h.1.2 r hr).2.1
  have key : ∀ (zs : List Nat) (i a : Nat), (gg_y G r).drop i = zs → i + zs.length = (gg_y G r).length → gg_add (some a) (gg_but D x i zs) = gg_but D x 0 (gg_y G r) → a ≤ i * B → X5 (nI r) x (nI a) (nI i) σ := by
    intro zs
    induction zs with
    | nil =>
      intro i a hd hi ha hb
      have hi : i = (gg_y G r).length := hi
      have ha : some (a + 0) = gg_but D x 0 (gg_y G r) := ha
      apply h5
      refine s_sizeOf h hr ?_
      refine pk_le (gg_y G r).length i (fun _ => ?_) (fun q => absurd q (by omega))
      rw [← ha] at k
      exact k
    | cons s zs ih =>
      intro i a hd hi ha hb
      obtain ⟨h1, h2, h3⟩ := gg_cons hd
      have hi : i + (zs.length + 1) = (gg_y G r).length := hi
      have h24 := (h.1.2 r hr).2.2 i h1
      rw [h2] at h24
      have ha : gg_add (some a) (if nI i = x then gg_but D x (i + 1) zs else gg_add (gg_len D s) (gg_but D x (i + 1) zs)) = gg_but D x 0 (gg_y G r) := ha
      have hib : i * B ≤ 6 * B := Nat.mul_le_mul_right _ (by omega)
      have hi1 : (i + 1) * B = i * B + B := by rw [Nat.add_mul, Nat.one_mul]
      apply h5
      refine s_sizeOf h hr ?_
      refine pk_le (gg_y G r).length i (fun q => absurd q (by omega)) (fun _ => ?_)
      refine ⟨fun hne => ?_, fun he => ?_⟩
      · rw [if_neg hne] at ha
        refine s_symbolAt h hr h1 ?_
        rw [h2]
        refine s_isNtN (by omega) (fun q => ?_) (fun q => ?_)
        · refine br_f (by decide) ⟨vp_in_nI (by omega) (by decide), ?_⟩
          rw [nI_clamp (by omega), hD s q]
          have hl : gg_len D s = D s := if_pos q
          rw [hl] at ha
          cases hs : D s with
          | none =>
            rw [hs] at ha
            refine nm_e (br_f (fun z => z rfl) ?_)
            have ha : none = gg_but D x 0 (gg_y G r) := ha
            rw [← ha] at k
            exact k
          | some m =>
            have hm := hB s q m hs
            rw [hs] at ha
            refine nm_e (br_t (fun e => absurd ((gg_o_none (o := some m) (fun n e2 => by injection e2 with e2; omega)).mp e) (by intro z; cases z)) ?_)
            refine nm_r (nI_add a m) (nm_r (nI_1 i) (ih (i + 1) (a + m) h3 (by omega) ?_ (by omega)))
            rw [← ha]
            cases gg_but D x (i + 1) zs with
            | none => rfl
            | some b => exact congrArg some (Nat.add_assoc a m b)
        · refine br_t rfl (br_t (by decide) ?_)
          have hl : gg_len D s = some 1 := if_neg (by omega)
          rw [hl] at ha
          refine nm_r (nI_1 a) (nm_r (nI_1 i) (ih (i + 1) (a + 1) h3 (by omega) ?_ (by omega)))
          rw [← ha]
          cases gg_but D x (i + 1) zs with
          | none => rfl
          | some b => exact congrArg some (Nat.add_assoc a 1 b)
      · have he : nI i = x := Classical.byContradiction he
        rw [if_pos he] at ha
        exact nm_r (nI_1 i) (ih (i + 1) a h3 (by omega) ha (by omega))
  refine key (gg_y G r) 0 0 rfl (by omega) ?_ (by omega)
  cases gg_but D x 0 (gg_y G r) with
  | none => rfl
  | some b => exact congrArg some (Nat.zero_add b)
theorem s_lower7 {A : Nat} {o : Option Nat} {K : gs_St → Prop} (hA : A < 8) (hD : le_at D σ) (hs : ∀ n, D A = some n → n < 2 ^ 31) (ho : ∀ n, o = some n → n < 2 ^ 31) (k : ∀ f : Nat → Int32, (∀ B, B < 8 → f B = gg_o (gg_low D A o B)) → K (gs_A σ 4 f)) : C_Le_lower_7 (nI A) (gg_o o) σ K := by
  have same : gs_A σ 4 (σ.2.1 4) = σ := by
    refine Prod.ext rfl (Prod.ext (funext fun j => ?_) rfl)
    show (if j = 4 then σ.2.1 4 else σ.2.1 j) = σ.2.1 j
    split
    · subst j; rfl
    · rfl
  have stay : (∀ B, B < 8 → gg_low D A o B = D B) → K σ := fun e => by
    have := k (σ.2.1 4) (fun B hB => by rw [e B hB]; exact hD B hB)
    rw [same] at this
    exact this
  have set : ∀ n, o = some n → (∀ B, gg_low D A o B = gg_up D A (some n) B) → ∀ τ : gs_St, τ = gs_A σ 4 (upd (σ.2.1 4) A (gg_o o)) → K τ := fun n hn e => nm_e (k _ (fun B hB => by
    rw [e B]
    show (if B = A then gg_o o else σ.2.1 4 B) = gg_o (if B = A then some n else D B)
    split
    · rw [hn]
    · exact hD B hB))
  have hv : vp_in (nI A) 8 := vp_in_nI hA (by decide)
  refine ⟨hv, ?_⟩
  rw [nI_clamp (by omega), hD A hA]
  refine nm_e ?_
  cases ho' : o with
  | none =>
    subst ho'
    exact br_t rfl (stay (fun B _ => rfl))
  | some n =>
    subst ho'
    have hn := ho n rfl
    refine br_f (fun e => absurd ((gg_o_none (o := some n) (fun z e2 => by injection e2 with e2; omega)).mp e) (by intro z; cases z)) ?_
    cases hd : D A with
    | none =>
      refine br_t rfl ⟨hv, set n rfl (fun B => ?_)⟩
      unfold gg_low
      rw [hd]
    | some m =>
      have hm := hs m hd
      refine br_f (fun e => absurd ((gg_o_none (o := some m) (fun z e2 => by injection e2 with e2; omega)).mp e) (by intro z; cases z)) ?_
      refine pk_le m n (fun q => stay (fun B _ => ?_)) (fun q => ⟨hv, set n rfl (fun B => ?_)⟩)
      · unfold gg_low
        rw [hd]
        show (if m ≤ n then D else gg_up D A (some n)) B = D B
        rw [if_pos q]
      · unfold gg_low
        rw [hd]
        show (if m ≤ n then D else gg_up D A (some n)) B = gg_up D A (some n) B
        rw [if_neg (by omega)]
theorem s_lower8 {A : Nat} {o : Option Nat} {K : gs_St → Prop} (hA : A < 8) (hD : ar_at D σ) (hs : ∀ n, D A = some n → n < 2 ^ 31) (ho : ∀ n, o = some n → n < 2 ^ 31) (k : ∀ f : Nat → Int32, (∀ B, B < 8 → f B = gg_o (gg_low D A o B)) → K (gs_A σ 5 f)) : C_Le_lower_8 (nI A) (gg_o o) σ K := by
  have same : gs_A σ 5 (σ.2.1 5) = σ := by
    refine Prod.ext rfl (Prod.ext (funext fun j => ?_) rfl)
    show (if j = 5 then σ.2.1 5 else σ.2.1 j) = σ.2.1 j
    split
    · subst j; rfl
    · rfl
  have stay : (∀ B, B < 8 → gg_low D A o B = D B) → K σ := fun e => by
    have := k (σ.2.1 5) (fun B hB => by rw [e B hB]; exact hD B hB)
    rw [same] at this
    exact this
  have set : ∀ n, o = some n → (∀ B, gg_low D A o B = gg_up D A (some n) B) → ∀ τ : gs_St, τ = gs_A σ 5 (upd (σ.2.1 5) A (gg_o o)) → K τ := fun n hn e => nm_e (k _ (fun B hB => by
    rw [e B]
    show (if B = A then gg_o o else σ.2.1 5 B) = gg_o (if B = A then some n else D B)
    split
    · rw [hn]
    · exact hD B hB))
  have hv : vp_in (nI A) 8 := vp_in_nI hA (by decide)
  refine ⟨hv, ?_⟩
  rw [nI_clamp (by omega), hD A hA]
  refine nm_e ?_
  cases ho' : o with
  | none =>
    subst ho'
    exact br_t rfl (stay (fun B _ => rfl))
  | some n =>
    subst ho'
    have hn := ho n rfl
    refine br_f (fun e => absurd ((gg_o_none (o := some n) (fun z e2 => by injection e2 with e2; omega)).mp e) (by intro z; cases z)) ?_
    cases hd : D A with
    | none =>
      refine br_t rfl ⟨hv, set n rfl (fun B => ?_)⟩
      unfold gg_low
      rw [hd]
    | some m =>
      have hm := hs m hd
      refine br_f (fun e => absurd ((gg_o_none (o := some m) (fun z e2 => by injection e2 with e2; omega)).mp e) (by intro z; cases z)) ?_
      refine pk_le m n (fun q => stay (fun B _ => ?_)) (fun q => ⟨hv, set n rfl (fun B => ?_)⟩)
      · unfold gg_low
        rw [hd]
        show (if m ≤ n then D else gg_up D A (some n)) B = D B
        rw [if_pos q]
      · unfold gg_low
        rw [hd]
        show (if m ≤ n then D else gg_up D A (some n)) B = gg_up D A (some n) B
        rw [if_neg (by omega)]
end L2B
