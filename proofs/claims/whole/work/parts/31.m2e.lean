/-! Layer 2 of the reference, part e: circle. -/
def bI : Bool → Int32
  | true => 1
  | false => 0
theorem bI_0 (b : Bool) : bI b = 0 ↔ b = false := by cases b <;> decide
theorem bI_n0 (b : Bool) : ¬ bI b = 0 ↔ b = true := by cases b <;> decide
theorem bI_01 (b : Bool) : bI b = 0 ∨ bI b = 1 := by cases b <;> decide
theorem nar_0 : vp_nar .boolean (0 : Int32) = 0 := by decide +kernel
theorem nar_1 : vp_nar .boolean (1 : Int32) = 1 := by decide +kernel
theorem gm_L_ex (G : gg_R) : ∃ D, gm_L G D := by
  have ex : ∀ A, ∃ o : Option Nat, ∀ m, o = some m ↔ gm_V G A m := by
    intro A
    by_cases h : ∃ m, gm_V G A m
    · obtain ⟨m, hm⟩ := h
      refine ⟨some m, fun n => ⟨fun e => ?_, fun e => ?_⟩⟩
      · injection e with e
        exact e ▸ hm
      · rw [gm_V_uniq hm e]
    · exact ⟨none, fun n => ⟨(fun e => nomatch e), fun e => absurd ⟨n, e⟩ h⟩⟩
  exact ⟨fun A => Classical.choose (ex A), fun A _ m => Classical.choose_spec (ex A) m⟩
theorem gm_L_0 {G : gg_R} {D : Nat → Option Nat} (h : gm_L G D) {A : Nat} (hA : A < 8) : D A = some 0 ↔ ∃ k, gm_D G k A 0 := by
  rw [h A hA 0]
  exact ⟨fun z => z.1, fun z => ⟨z, fun _ _ _ => Nat.zero_le _⟩⟩
theorem gm_S_0 {P : Nat → Nat → Prop} : ∀ ys : List Nat, gm_S P ys 0 ↔ ∀ i, i < ys.length → ys.getD i 0 < 8 ∧ P (ys.getD i 0) 0
  | [] => ⟨fun _ i hi => absurd hi (Nat.not_lt_zero _), fun _ => rfl⟩
  | s :: ys => by
    show (∃ a b, 0 = a + b ∧ (s < 8 → P s a) ∧ (8 ≤ s → a = 1) ∧ gm_S P ys b) ↔ _
    constructor
    · rintro ⟨a, b, h1, h2, h3, h4⟩ i hi
      have ha : a = 0 := by omega
      have hb : b = 0 := by omega
      subst ha
      subst hb
      have hs : s < 8 := by
        rcases Nat.lt_or_ge s 8 with q | q
        · exact q
        · have := h3 q
          omega
      cases i with
      | zero => exact ⟨hs, h2 hs⟩
      | succ i => exact (gm_S_0 ys).mp h4 i (Nat.lt_of_succ_lt_succ hi)
    · intro h
      obtain ⟨h1, h2⟩ := h 0 (Nat.zero_lt_succ _)
      have h1 : s < 8 := h1
      exact ⟨0, 0, rfl, fun _ => h2, fun z => absurd z (by omega), (gm_S_0 ys).mpr (fun i hi => h (i + 1) (Nat.succ_lt_succ hi))⟩
theorem gg_to_congr {G : gg_R} {D D' : Nat → Option Nat} (h : ∀ A, A < 8 → D A = D' A) (A x : Nat) : gg_to G D A x ↔ gg_to G D' A x := by
  have e : ∀ (ys : List Nat) (z : Int32), gg_eb D ys z ↔ gg_eb D' ys z := fun ys z =>
    ⟨fun q j hj hne => ⟨(q j hj hne).1, by rw [← h _ (q j hj hne).1]; exact (q j hj hne).2⟩, fun q j hj hne => ⟨(q j hj hne).1, by rw [h _ (q j hj hne).1]; exact (q j hj hne).2⟩⟩
  constructor
  · rintro ⟨r, i, hr, h1, h2, h3, h4, h5⟩
    exact ⟨r, i, hr, h1, h2, h3, h4, (e _ _).mp h5⟩
  · rintro ⟨r, i, hr, h1, h2, h3, h4, h5⟩
    exact ⟨r, i, hr, h1, h2, h3, h4, (e _ _).mpr h5⟩
/-- leading in steps, by way of those below k -/
def wa_R (T : Nat → Nat → Prop) : Nat → Nat → Nat → Prop
  | 0, a, b => T a b
  | k + 1, a, b => wa_R T k a b ∨ (wa_R T k a k ∧ wa_R T k k b)
theorem wa_stk {T : Nat → Nat → Prop} {U : Nat → Prop} (hU : ∀ A, U A → A < 8 ∧ ∃ x, U x ∧ T A x) : ∀ k, (∃ n, n < 8 ∧ wa_R T k n n) ∨ ∀ A, U A → ∃ x, U x ∧ k ≤ x ∧ wa_R T k A x
  | 0 => Or.inr (fun A hA => by
    obtain ⟨x, h1, h2⟩ := (hU A hA).2
    exact ⟨x, h1, Nat.zero_le _, h2⟩)
  | k + 1 => by
    rcases wa_stk hU k with ⟨n, h1, h2⟩ | h
    · exact Or.inl ⟨n, h1, Or.inl h2⟩
    · by_cases c : wa_R T k k k ∧ k < 8
      · exact Or.inl ⟨k, c.2, Or.inl c.1⟩
      · refine Or.inr (fun A hA => ?_)
        obtain ⟨x, h1, h2, h3⟩ := h A hA
        by_cases e : x = k
        · subst e
          obtain ⟨y, g1, g2, g3⟩ := h x h1
          by_cases e2 : y = x
          · subst e2
            exact absurd ⟨g3, (hU y g1).1⟩ c
          · exact ⟨y, g1, by omega, Or.inr ⟨h3, g3⟩⟩
        · exact ⟨x, h1, by omega, Or.inl h3⟩
/-- b says whether there is a circle -/
def an_circM (G : gg_R) (b : Bool) : Prop := ∀ D o c, gm_L G D → gg_ord (gg_to G D) o c → (8 ≤ c ∨ gg_stk (gg_to G D) o c) → (b = true ↔ c < 8)
theorem gg_rank {T : Nat → Nat → Prop} {o : Nat → Nat} {c : Nat} (h : gg_ord T o c) (hc : 8 ≤ c) : ∃ rk : Nat → Nat, ∀ A x, A < 8 → x < 8 → T A x → rk x < rk A := by
  have all := gg_ord_all h hc
  have ex : ∀ A, ∃ j, A < 8 → j < c ∧ o j = A := fun A => by
    by_cases hA : A < 8
    · obtain ⟨j, h1, h2⟩ := all A hA
      exact ⟨j, fun _ => ⟨h1, h2⟩⟩
    · exact ⟨0, fun z => absurd z hA⟩
  refine ⟨fun A => Classical.choose (ex A), fun A x hA hx hT => ?_⟩
  obtain ⟨a1, a2⟩ := Classical.choose_spec (ex A) hA
  obtain ⟨b1, b2⟩ := Classical.choose_spec (ex x) hx
  show Classical.choose (ex x) < Classical.choose (ex A)
  revert a1 a2 b1 b2
  generalize Classical.choose (ex A) = i
  generalize Classical.choose (ex x) = j
  intro a1 a2 b1 b2
  rw [← a2] at hT
  obtain ⟨k, h1, h2⟩ := h.2.2 i a1 x hx hT
  rcases Nat.lt_or_ge k j with q | q
  · exact absurd (h2.trans b2.symm) (h.2.1 k j q b1)
  · omega
section M2E
variable {G : gg_R} {σ : gs_St} {E : Nat → Bool}
def mE_at (E : Nat → Bool) (σ : gs_St) : Prop := ∀ A, A < 8 → σ.2.1 7 A = bI (E A)
def gg_ebE (E : Nat → Bool) (ys : List Nat) (x : Int32) : Prop := ∀ j, j < ys.length → nI j ≠ x → ys.getD j 0 < 8 ∧ E (ys.getD j 0) = true
theorem n_isEmpty {s : Nat} {K : Int32 → gs_St → Prop} (hs : s < 2 ^ 31) (hE : mE_at E σ) (h1 : s < 8 ∧ E s = true → K 1 σ) (h0 : ¬ (s < 8 ∧ E s = true) → K 0 σ) : C_Mo_isEmpty (nI s) σ K := by
  refine n_isNtN hs (fun q => br_f (by decide) ⟨vp_in_nI q (by decide), ?_⟩) (fun q => br_t rfl (h0 (fun z => by omega)))
  rw [nI_clamp (by omega), hE s q, bI_0]
  exact ⟨fun z => h0 (fun y => by rw [z] at y; exact absurd y.2 Bool.false_ne_true), fun z => h1 ⟨q, by cases hh : E s with | true => rfl | false => exact absurd hh z⟩⟩
theorem n_allEmpty {r : Nat} {x : Int32} {K : Int32 → gs_St → Prop} (h : mr_at G σ) (hr : r < G.length) (hE : mE_at E σ) (h1 : gg_ebE E (gg_y G r) x → K 1 σ) (h0 : ¬ gg_ebE E (gg_y G r) x → K 0 σ) : C_Mo_allEmpty (nI r) x σ K := by
  intro X5 h5
  have hG := h.1.1
  obtain ⟨hl8, hz, h24⟩ := h.1.2 r hr
  have key : ∀ (n i : Nat) (b : Bool), i + n = (gg_y G r).length → (b = true ↔ ∀ j, j < i → nI j ≠ x → (gg_y G r).getD j 0 < 8 ∧ E ((gg_y G r).getD j 0) = true) → X5 (nI r) x (bI b) (nI i) σ := by
    intro n
    induction n with
    | zero =>
      intro i b hi hb
      have hi : i = (gg_y G r).length := hi
      apply h5
      refine ⟨vp_in_nI (by omega) (by decide), ?_⟩
      rw [nI_clamp (by omega), (h.2.2 r hr).2.1]
      refine pk_le (gg_y G r).length i (fun _ => ⟨bI_01 b, ?_⟩) (fun q => absurd q (by omega))
      rw [hi] at hb
      cases b with
      | true => exact h1 (hb.mp rfl)
      | false => exact h0 (fun z => absurd (hb.mpr z) Bool.false_ne_true)
    | succ n ih =>
      intro i b hi hb
      have hi' : i < (gg_y G r).length := by omega
      apply h5
      refine ⟨vp_in_nI (by omega) (by decide), ?_⟩
      rw [nI_clamp (by omega), (h.2.2 r hr).2.1]
      refine pk_le (gg_y G r).length i (fun q => absurd q (by omega)) (fun _ => ?_)
      have no : ¬ (∀ j, j < i + 1 → nI j ≠ x → (gg_y G r).getD j 0 < 8 ∧ E ((gg_y G r).getD j 0) = true) → ∀ v1 : Int32, v1 = nI i + 1 → X5 (nI r) x 0 v1 σ := fun z => nm_r (nI_1 i) (ih (i + 1) false (by omega) ⟨fun y => absurd y Bool.false_ne_true, fun y => absurd y z⟩)
      have yes : (∀ j, j < i + 1 → nI j ≠ x → (gg_y G r).getD j 0 < 8 ∧ E ((gg_y G r).getD j 0) = true) → ∀ v1 : Int32, v1 = nI i + 1 → X5 (nI r) x 1 v1 σ := fun z => nm_r (nI_1 i) (ih (i + 1) true (by omega) ⟨fun _ => z, fun _ => rfl⟩)
      refine ek_if (bI_0 b) (fun q => no (fun z => ?_)) (fun q => ?_)
      · have := hb.mpr (fun j hj => z j (by omega))
        rw [q] at this
        exact absurd this Bool.false_ne_true
      · have hb1 : b = true := by cases hh : b with | true => rfl | false => exact absurd hh q
        have hall := hb.mp hb1
        refine ⟨fun e => yes (fun j hj hne => ?_), fun e => ?_⟩
        · by_cases ej : j = i
          · subst ej
            exact absurd e hne
          · exact hall j (by omega) hne
        · have h24i := h24 i hi'
          refine n_at h hr hi' (n_isEmpty (by omega) hE (fun z => br_f (by decide) (yes (fun j hj hne => ?_))) (fun z => br_t rfl (no (fun y => z (y i (by omega) e)))))
          by_cases ej : j = i
          · subst ej
            exact z
          · exact hall j (by omega) hne
  exact key (gg_y G r).length 0 true (by omega) ⟨fun _ j hj => absurd hj (Nat.not_lt_zero _), fun _ => rfl⟩
def up_b (E : Nat → Bool) (A : Nat) (b : Bool) : Nat → Bool := fun x => if x = A then b else E x
theorem up_b_s {E : Nat → Bool} {A : Nat} {b : Bool} : up_b E A b A = b := if_pos rfl
theorem up_b_n {E : Nat → Bool} {A x : Nat} {b : Bool} (h : x ≠ A) : up_b E A b x = E x := if_neg h
theorem up_b_at {E : Nat → Bool} {f : Nat → Int32} {A N : Nat} {b : Bool} {v : Int32} (hf : ∀ B, B < N → f B = bI (E B)) (hv : v = bI b) : ∀ B, B < N → upd f A v B = bI (up_b E A b B) := fun B hB => by
  show (if B = A then v else f B) = bI (if B = A then b else E B)
  by_cases z : B = A
  · rw [if_pos z, if_pos z, hv]
  · rw [if_neg z, if_neg z]
    exact hf B hB
theorem n_circle {K : Int32 → gs_St → Prop} (h : mr_at G σ) (kk : ∀ (b : Bool) (e f : Nat → Int32), an_circM G b → K (bI b) (gs_A (gs_A σ 7 e) 8 f)) : C_Mo_circle σ K := by
  intro X2 X23 X31 X92 X113 X123 X190 X198 X274 h2 h23 h31 h92 h113 h123 h190 h198 h274
  have hG := h.1.1
  obtain ⟨D, hD⟩ := gm_L_ex G
  have g7 : ∀ e, mr_at G (gs_A σ 7 e) := fun e => h.of rfl rfl rfl rfl
  have g8 : ∀ e f, mr_at G (gs_A (gs_A σ 7 e) 8 f) := fun e f => h.of rfl rfl rfl rfl
  have p88 : ∀ a b : Nat, b < 8 → (a * 8 + b) / 8 = a ∧ (a * 8 + b) % 8 = b := fun a b hb => by omega
  -- the answer
  have ph6 : ∀ (e f : Nat → Int32) (B : Nat → Bool), (∀ p, p < 64 → f p = bI (B p)) → (∀ b : Bool, (b = true ↔ ∃ n, n < 8 ∧ B (n * 9) = true) → an_circM G b) → ∀ (n i : Nat) (b : Bool), i + n = 8 → (b = true ↔ ∃ m, m < i ∧ B (m * 9) = true) → X274 (bI b) (nI i) (gs_A (gs_A σ 7 e) 8 f) := by
    intro e f B hB han n
    induction n with
    | zero =>
      intro i b hi hb
      have hi : i = 8 := hi
      subst hi
      apply h274
      exact br_t (by decide) ⟨bI_01 b, kk b e f (han b hb)⟩
    | succ n ih =>
      intro i b hi hb
      apply h274
      refine pk_le 8 i (fun q => absurd q (by omega)) (fun _ => ek_if (bI_n0 b) (fun q => ?_) (fun q => ?_))
      · refine nm_r (nI_1 i) (ih (i + 1) true (by omega) ⟨fun _ => ?_, fun _ => rfl⟩)
        obtain ⟨m, m1, m2⟩ := hb.mp q
        exact ⟨m, by omega, m2⟩
      · have e9 : (9 : Int32) * nI i = nI (i * 9) := by rw [show (9 : Int32) = nI 9 from rfl, pk_mul, Nat.mul_comm]
        have ef : (gs_A (gs_A σ 7 e) 8 f).2.1 8 (i * 9) = bI (B (i * 9)) := hB _ (by omega)
        rw [e9]
        refine ⟨vp_in_nI (by omega) (by decide), ?_⟩
        rw [nI_clamp (by omega), ef]
        have hbf : ¬ ∃ m, m < i ∧ B (m * 9) = true := fun z => q (hb.mpr z)
        refine ek_if (bI_0 _) (fun z => nm_r (nI_1 i) (ih (i + 1) false (by omega) ⟨fun y => absurd y Bool.false_ne_true, fun ⟨m, m1, m2⟩ => ?_⟩)) (fun z => nm_r (nI_1 i) (ih (i + 1) true (by omega) ⟨fun _ => ⟨i, by omega, ?_⟩, fun _ => rfl⟩))
        · by_cases em : m = i
          · rw [em, z] at m2
            exact absurd m2 Bool.false_ne_true
          · exact absurd ⟨m, by omega, m2⟩ hbf
        · cases hh : B (i * 9) with
          | true => rfl
          | false => exact absurd hh z
  -- steps by way of others
  have ph5 : ∀ (e : Nat → Int32) (n k : Nat) (f : Nat → Int32) (B : Nat → Bool), k + n = 8 → (∀ p, p < 64 → f p = bI (B p)) → (∀ rk : Nat → Nat, (∀ A x, A < 8 → x < 8 → gg_to G D A x → rk x < rk A) → ∀ p, p < 64 → B p = true → rk (p % 8) < rk (p / 8)) → (∀ a b, a < 8 → b < 8 → wa_R (gg_to G D) k a b → B (a * 8 + b) = true) → X190 (nI k) (gs_A (gs_A σ 7 e) 8 f) := by
    intro e n
    induction n with
    | zero =>
      intro k f B hk hB hS hC
      have hk : k = 8 := hk
      subst hk
      apply h190
      refine br_t (by decide) (ph6 e f B hB ?_ 8 0 false rfl ⟨fun z => absurd z Bool.false_ne_true, fun ⟨m, m1, _⟩ => absurd m1 (Nat.not_lt_zero _)⟩)
      intro b hb D' o c hD' ho hst
      rw [hb]
      have hT : ∀ A x, gg_to G D' A x ↔ gg_to G D A x := gg_to_congr (gm_L_eq hD' hD)
      constructor
      · rintro ⟨m, m1, m2⟩
        rcases Nat.lt_or_ge c 8 with q | q
        · exact q
        · obtain ⟨rk, hrk⟩ := gg_rank ho q
          have := hS rk (fun A x hA hx hl => hrk A x hA hx ((hT A x).mpr hl)) (m * 9) (by omega) m2
          rw [show m * 9 % 8 = m by omega, show m * 9 / 8 = m by omega] at this
          omega
      · intro q
        have hstk : gg_stk (gg_to G D') o c := hst.resolve_left (by omega)
        rcases wa_stk (T := gg_to G D) (U := fun A => A < 8 ∧ ∀ j, j < c → o j ≠ A) (fun A hA => ⟨hA.1, by
          obtain ⟨x, x1, x2, x3⟩ := hstk A hA.1 hA.2
          exact ⟨x, ⟨x1, x3⟩, (hT A x).mp x2⟩⟩) 8 with ⟨m, m1, m2⟩ | hall
        · exact ⟨m, m1, by have := hC m m m1 m1 m2; rw [show m * 8 + m = m * 9 by omega] at this; exact this⟩
        · obtain ⟨A, a1, a2⟩ := gg_ord_miss (T := gg_to G D) (o := o) q
          obtain ⟨x, ⟨x1, -⟩, x2, -⟩ := hall A ⟨a1, a2⟩
          omega
    | succ n ih =>
      intro k f B hk hB hS hC
      have hk8 : k < 8 := by omega
      apply h190
      refine pk_le 8 k (fun q => absurd q (by omega)) (fun _ => ?_)
      have inner : ∀ (m p : Nat) (f2 : Nat → Int32) (B2 : Nat → Bool), p + m = 64 → (∀ q, q < 64 → f2 q = bI (B2 q)) → (∀ rk : Nat → Nat, (∀ A x, A < 8 → x < 8 → gg_to G D A x → rk x < rk A) → ∀ q, q < 64 → B2 q = true → rk (q % 8) < rk (q / 8)) → (∀ q, q < 64 → B q = true → B2 q = true) → (∀ q, q < p → B (q / 8 * 8 + k) = true → B (8 * k + q % 8) = true → B2 q = true) → X198 (nI k) (nI p) (gs_A (gs_A σ 7 e) 8 f2) := by
        intro m
        induction m with
        | zero =>
          intro p f2 B2 hp hB2 hS2 hm2 hd2
          have hp : p = 64 := hp
          subst hp
          apply h198
          refine br_t (by decide) (nm_r (nI_1 k) (ih (k + 1) f2 B2 (by omega) hB2 hS2 (fun a b ha hb hR => ?_)))
          rcases hR with z | ⟨z1, z2⟩
          · exact hm2 _ (by omega) (hC a b ha hb z)
          · obtain ⟨q1, q2⟩ := p88 a b hb
            refine hd2 (a * 8 + b) (by omega) ?_ ?_
            · rw [q1]
              exact hC a k ha hk8 z1
            · rw [q2, Nat.mul_comm]
              exact hC k b hk8 hb z2
        | succ m ihm =>
          intro p f2 B2 hp hB2 hS2 hm2 hd2
          have hp64 : p < 64 := by omega
          have vp : vp_in (nI p) 64 := vp_in_nI hp64 (by decide)
          have ef : ∀ q, q < 64 → (gs_A (gs_A σ 7 e) 8 f2).2.1 8 q = bI (B2 q) := fun q hq => hB2 q hq
          have ediv : nI p / (8 : Int32) = nI (p / 8) := pk_div (a := p) (d := 8) (by omega) (by decide) (by decide)
          have erem : nI p - nI p / (8 : Int32) * (8 : Int32) = nI (p % 8) := pk_rem (a := p) (d := 8) (by omega) (by decide) (by decide)
          have ei1 : nI p / (8 : Int32) * (8 : Int32) + nI k = nI (p / 8 * 8 + k) := by rw [ediv, show (8 : Int32) = nI 8 from rfl, pk_mul, nI_add]
          have ei2 : (8 : Int32) * nI k + (nI p - nI p / (8 : Int32) * (8 : Int32)) = nI (8 * k + p % 8) := by rw [erem, show (8 : Int32) = nI 8 from rfl, pk_mul, nI_add]
          -- what is stored
          have store : ∀ (b : Bool) (v : Int32), v = bI b → (B2 p = true → b = true) → (b = true → B2 p = true ∨ (B2 (p / 8 * 8 + k) = true ∧ B2 (8 * k + p % 8) = true)) → (B2 (p / 8 * 8 + k) = true → B2 (8 * k + p % 8) = true → b = true) → ∀ τ : gs_St, τ = gs_A (gs_A (gs_A σ 7 e) 8 f2) 8 (upd ((gs_A (gs_A σ 7 e) 8 f2).2.1 8) p v) → ∀ v29 : Int32, v29 = nI p + 1 → X198 (nI k) v29 τ := by
            intro b v hv hup hsd hcp τ hτ
            have eτ : τ = gs_A (gs_A σ 7 e) 8 (upd f2 p v) := by
              rw [hτ, gs_AA]
              rfl
            rw [eτ]
            refine nm_r (nI_1 p) (ihm (p + 1) _ (up_b B2 p b) (by omega) (up_b_at hB2 hv) (fun rk hrk q hq hb => ?_) (fun q hq hb => ?_) (fun q hq hb1 hb2 => ?_))
            · by_cases z : q = p
              · subst z
                rw [up_b_s] at hb
                rcases hsd hb with y | ⟨y1, y2⟩
                · exact hS2 rk hrk q hq y
                · have r1 := hS2 rk hrk _ (by omega) y1
                  have r2 := hS2 rk hrk _ (by omega) y2
                  rw [show (q / 8 * 8 + k) % 8 = k by omega, show (q / 8 * 8 + k) / 8 = q / 8 by omega] at r1
                  rw [show (8 * k + q % 8) % 8 = q % 8 by omega, show (8 * k + q % 8) / 8 = k by omega] at r2
                  omega
              · rw [up_b_n z] at hb
                exact hS2 rk hrk q hq hb
            · by_cases z : q = p
              · subst z
                rw [up_b_s]
                exact hup (hm2 q hq hb)
              · rw [up_b_n z]
                exact hm2 q hq hb
            · by_cases z : q = p
              · subst z
                rw [up_b_s]
                exact hcp (hm2 _ (by omega) hb1) (hm2 _ (by omega) hb2)
              · rw [up_b_n z]
                exact hd2 q (by omega) hb1 hb2
          apply h198
          refine pk_le 64 p (fun q => absurd q (by omega)) (fun _ => ⟨vp, ?_⟩)
          rw [ei1, ei2, nI_clamp (by omega), nI_clamp (by omega), nI_clamp (by omega), ef p hp64, ef _ (by omega), ef _ (by omega), nar_0, nar_1]
          refine ek_if (bI_n0 _) (fun q => ⟨vp, store true 1 rfl (fun _ => rfl) (fun _ => Or.inl q) (fun _ _ => rfl)⟩) (fun q => ⟨by decide, vp_in_nI (by omega) (by decide), ?_⟩)
          refine ek_if (bI_0 _) (fun z => ⟨vp, store false 0 rfl (fun y => absurd y q) (fun y => absurd y Bool.false_ne_true) (fun y _ => by rw [z] at y; exact absurd y Bool.false_ne_true)⟩) (fun z => ⟨by decide, vp_in_nI (by omega) (by decide), ?_⟩)
          have z : B2 (p / 8 * 8 + k) = true := by
            cases hh : B2 (p / 8 * 8 + k) with
            | true => rfl
            | false => exact absurd hh z
          refine ek_if (bI_0 _) (fun y => ⟨vp, store false 0 rfl (fun w => absurd w q) (fun w => absurd w Bool.false_ne_true) (fun _ w => by rw [y] at w; exact absurd w Bool.false_ne_true)⟩) (fun y => ⟨vp, store true 1 rfl (fun _ => rfl) (fun _ => Or.inr ⟨z, ?_⟩) (fun _ _ => rfl)⟩)
          cases hh : B2 (8 * k + p % 8) with
          | true => rfl
          | false => exact absurd hh y
      exact inner 64 0 f B rfl hB hS (fun q _ hb => hb) (fun q hq => absurd hq (Nat.not_lt_zero _))
  -- who leads to whom
  have ph4 : ∀ (e : Nat → Int32) (E : Nat → Bool), (∀ A, A < 8 → e A = bI (E A)) → (∀ A, A < 8 → (E A = true ↔ D A = some 0)) → ∀ (n r : Nat) (f : Nat → Int32) (B : Nat → Bool), r + n = G.length → (∀ p, p < 64 → f p = bI (B p)) → (∀ p, p < 64 → (B p = true ↔ ∃ r' i, r' < r ∧ gg_pl G D r' i (p / 8) (p % 8))) → X113 (nI r) (gs_A (gs_A σ 7 e) 8 f) := by
    intro e E he hED n
    have ebE : ∀ ys z, gg_ebE E ys z ↔ gg_eb D ys z := fun ys z => ⟨fun q j hj hne => ⟨(q j hj hne).1, (hED _ (q j hj hne).1).mp (q j hj hne).2⟩, fun q j hj hne => ⟨(q j hj hne).1, (hED _ (q j hj hne).1).mpr (q j hj hne).2⟩⟩
    induction n with
    | zero =>
      intro r f B hr hB hBl
      have hr : r = G.length := hr
      subst hr
      apply h113
      refine pk_le G.length G.length (fun _ => ?_) (fun q => absurd q (by omega)) h.2.1
      refine ph5 e 8 0 f B rfl hB (fun rk hrk p hp hb => ?_) (fun a b ha hb hR => ?_)
      · obtain ⟨r, i, hr, hp2⟩ := (hBl p hp).mp hb
        exact hrk _ _ (by omega) hp2.2.2.2.1 ⟨r, i, hr, hp2⟩
      · obtain ⟨r, i, hr, hp2⟩ := hR
        obtain ⟨q1, q2⟩ := p88 a b hb
        refine (hBl _ (by omega)).mpr ⟨r, i, hr, ?_⟩
        rw [q1, q2]
        exact hp2
    | succ n ih =>
      intro r f B hr hB hBl
      have hr' : r < G.length := by omega
      obtain ⟨hl8, hz, h24⟩ := h.1.2 r hr'
      apply h113
      refine pk_le G.length r (fun q => absurd q (by omega)) (fun _ => ?_) h.2.1
      have inner : ∀ (m i : Nat) (f : Nat → Int32) (B : Nat → Bool), i + m = (gg_y G r).length → (∀ p, p < 64 → f p = bI (B p)) → (∀ p, p < 64 → (B p = true ↔ ∃ r' i', (r' < r ∨ (r' = r ∧ i' < i)) ∧ gg_pl G D r' i' (p / 8) (p % 8))) → X123 (nI r) (nI i) (gs_A (gs_A σ 7 e) 8 f) := by
        intro m
        induction m with
        | zero =>
          intro i f B hi hB hBl
          have hi : i = (gg_y G r).length := hi
          apply h123
          refine ⟨vp_in_nI (by omega) (by decide), ?_⟩
          have e1 : (gs_A (gs_A σ 7 e) 8 f).2.1 1 r = nI (gg_y G r).length := (h.2.2 r hr').2.1
          rw [nI_clamp (by omega), e1]
          refine pk_le (gg_y G r).length i (fun _ => nm_r (nI_1 r) (ih (r + 1) f B (by omega) hB (fun p hp => ?_))) (fun q => absurd q (by omega))
          rw [hBl p hp]
          constructor
          · rintro ⟨r', i', q | ⟨q1, q2⟩, hp⟩
            · exact ⟨r', i', by omega, hp⟩
            · exact ⟨r', i', by omega, hp⟩
          · rintro ⟨r', i', q, hp⟩
            by_cases er : r' = r
            · refine ⟨r', i', Or.inr ⟨er, ?_⟩, hp⟩
              subst er
              have := hp.1
              omega
            · exact ⟨r', i', Or.inl (by omega), hp⟩
        | succ m ihm =>
          intro i f B hi hB hBl
          have hi' : i < (gg_y G r).length := by omega
          have h24i := h24 i hi'
          have nolead : (∀ A x, ¬ gg_pl G D r i A x) → ∀ p, p < 64 → (B p = true ↔ ∃ r' i', (r' < r ∨ (r' = r ∧ i' < i + 1)) ∧ gg_pl G D r' i' (p / 8) (p % 8)) := by
            intro hno p hp
            rw [hBl p hp]
            constructor
            · rintro ⟨r', i', q | ⟨q1, q2⟩, hp⟩
              · exact ⟨r', i', Or.inl q, hp⟩
              · exact ⟨r', i', Or.inr ⟨q1, by omega⟩, hp⟩
            · rintro ⟨r', i', q | ⟨q1, q2⟩, hp⟩
              · exact ⟨r', i', Or.inl q, hp⟩
              · refine ⟨r', i', Or.inr ⟨q1, ?_⟩, hp⟩
                by_cases ei : i' = i
                · rw [q1, ei] at hp
                  exact absurd hp (hno _ _)
                · omega
          apply h123
          refine ⟨vp_in_nI (by omega) (by decide), ?_⟩
          have e1 : (gs_A (gs_A σ 7 e) 8 f).2.1 1 r = nI (gg_y G r).length := (h.2.2 r hr').2.1
          have e0 : (gs_A (gs_A σ 7 e) 8 f).2.1 0 r = nI (gg_l G r) := (h.2.2 r hr').1
          rw [nI_clamp (by omega), e1]
          refine pk_le (gg_y G r).length i (fun q => absurd q (by omega)) (fun _ => ?_)
          refine n_at (g8 e f) hr' hi' ?_
          refine n_isNtN (by omega) (fun q => br_f (by decide) ?_) (fun q => br_t rfl (nm_r (nI_1 i) (ihm (i + 1) f B (by omega) hB (nolead (fun A x hp => by
              have h1 := hp.2.2.1
              have h2 := hp.2.2.2.1
              omega)))))
          refine n_allEmpty (E := E) (g8 e f) hr' he (fun hy => br_f (by decide) ⟨vp_in_nI (by omega) (by decide), ?_⟩) (fun hy => br_t rfl (nm_r (nI_1 i) (ihm (i + 1) f B (by omega) hB (nolead (fun A x hp => hy ((ebE _ _).mpr hp.2.2.2.2))))))
          refine n_at (g8 e f) hr' hi' ?_
          have e8 : (8 : Int32) * nI (gg_l G r) + nI ((gg_y G r).getD i 0) = nI (gg_l G r * 8 + (gg_y G r).getD i 0) := by rw [show (8 : Int32) = nI 8 from rfl, pk_mul, nI_add, Nat.mul_comm]
          rw [e0, e8, nar_1]
          refine ⟨vp_in_nI (by omega) (by decide), ?_⟩
          rw [nI_clamp (by omega)]
          intro τ hτ
          have eτ : τ = gs_A (gs_A σ 7 e) 8 (upd f (gg_l G r * 8 + (gg_y G r).getD i 0) 1) := by
            rw [hτ, gs_AA]
            rfl
          rw [eτ]
          have hpl : gg_pl G D r i (gg_l G r) ((gg_y G r).getD i 0) := ⟨hi', rfl, rfl, q, (ebE _ _).mp hy⟩
          obtain ⟨q1, q2⟩ := p88 (gg_l G r) ((gg_y G r).getD i 0) q
          refine nm_r (nI_1 i) (ihm (i + 1) _ (up_b B (gg_l G r * 8 + (gg_y G r).getD i 0) true) (by omega) (up_b_at hB rfl) (fun p hp => ?_))
          by_cases z : p = gg_l G r * 8 + (gg_y G r).getD i 0
          · subst z
            rw [up_b_s, q1, q2]
            exact ⟨fun _ => ⟨r, i, Or.inr ⟨rfl, by omega⟩, hpl⟩, fun _ => rfl⟩
          · rw [up_b_n z, hBl p hp]
            constructor
            · rintro ⟨r', i', y | ⟨y1, y2⟩, hp2⟩
              · exact ⟨r', i', Or.inl y, hp2⟩
              · exact ⟨r', i', Or.inr ⟨y1, by omega⟩, hp2⟩
            · rintro ⟨r', i', y | ⟨y1, y2⟩, hp2⟩
              · exact ⟨r', i', Or.inl y, hp2⟩
              · by_cases ei : i' = i
                · rw [y1, ei] at hp2
                  have a1 := hp2.2.1
                  have a2 := hp2.2.2.1
                  omega
                · exact ⟨r', i', Or.inr ⟨y1, by omega⟩, hp2⟩
      refine inner (gg_y G r).length 0 f B (by omega) hB (fun p hp => ?_)
      rw [hBl p hp]
      constructor
      · rintro ⟨r', i', z, hp2⟩
        exact ⟨r', i', Or.inl z, hp2⟩
      · rintro ⟨r', i', z | ⟨z1, z2⟩, hp2⟩
        · exact ⟨r', i', z, hp2⟩
        · exact absurd z2 (Nat.not_lt_zero _)
  have ph3 : ∀ (e : Nat → Int32) (E : Nat → Bool), (∀ A, A < 8 → e A = bI (E A)) → (∀ A, A < 8 → (E A = true ↔ D A = some 0)) → ∀ (n p : Nat) (f : Nat → Int32), p + n = 64 → (∀ q, q < p → f q = 0) → X92 (nI p) (gs_A (gs_A σ 7 e) 8 f) := by
    intro e E he hED n
    induction n with
    | zero =>
      intro p f hp hf
      have hp : p = 64 := hp
      subst hp
      apply h92
      exact br_t (by decide) (ph4 e E he hED G.length 0 f (fun _ => false) (by omega) (fun q hq => hf q hq) (fun q hq => ⟨fun z => absurd z Bool.false_ne_true, fun ⟨_, _, z, _⟩ => absurd z (Nat.not_lt_zero _)⟩))
    | succ n ih =>
      intro p f hp hf
      apply h92
      refine pk_le 64 p (fun q => absurd q (by omega)) (fun _ => ⟨vp_in_nI (by omega) (by decide), ?_⟩)
      rw [nI_clamp (by omega), nar_0]
      intro τ hτ
      have eτ : τ = gs_A (gs_A σ 7 e) 8 (upd f p 0) := by
        rw [hτ, gs_AA]
        rfl
      rw [eτ]
      refine nm_r (nI_1 p) (ih (p + 1) _ (by omega) (fun q hq => ?_))
      show (if q = p then (0 : Int32) else f q) = 0
      by_cases z : q = p
      · rw [if_pos z]
      · rw [if_neg z]
        exact hf q (by omega)
  -- which are empty
  have ph2 : ∀ (n k : Nat) (e : Nat → Int32) (E : Nat → Bool), k + n = 8 → (∀ A, A < 8 → e A = bI (E A)) → (∀ A, E A = true → ∃ j, gm_D G j A 0) → (∀ A, gm_D G k A 0 → E A = true) → X23 (nI k) (gs_A σ 7 e) := by
    intro n
    induction n with
    | zero =>
      intro k e E hk he hs hc
      have hk : k = 8 := hk
      subst hk
      apply h23
      refine br_t (by decide) ?_
      have := ph3 e E he (fun A hA => ⟨fun z => (gm_L_0 hD hA).mpr (hs A z), fun z => hc A (gm_eight hA ((hD A hA 0).mp z))⟩) 64 0 ((gs_A σ 7 e).2.1 8) rfl (fun q hq => absurd hq (Nat.not_lt_zero _))
      rw [gs_Aid] at this
      exact this
    | succ n ih =>
      intro k e E hk he hs hc
      apply h23
      refine pk_le 8 k (fun q => absurd q (by omega)) (fun _ => ?_)
      have inner : ∀ (m r : Nat) (e : Nat → Int32) (E : Nat → Bool), r + m = G.length → (∀ A, A < 8 → e A = bI (E A)) → (∀ A, E A = true → ∃ j, gm_D G j A 0) → (∀ A, gm_D G k A 0 → E A = true) → (∀ q, q < r → gm_S (gm_D G k) (gg_y G q) 0 → E (gg_l G q) = true) → X31 (nI k) (nI r) (gs_A σ 7 e) := by
        intro m
        induction m with
        | zero =>
          intro r e E hr he hs hc hdn
          have hr : r = G.length := hr
          subst hr
          apply h31
          refine pk_le G.length G.length (fun _ => nm_r (nI_1 k) (ih (k + 1) e E (by omega) he hs (fun A hd => ?_))) (fun q => absurd q (by omega)) h.2.1
          obtain ⟨z, z1, z2, z3⟩ := hd
          obtain ⟨r, hr, e1, e2⟩ := gg_idx z1
          rw [← e2] at z3
          have := hdn r hr z3
          rw [e1, z2] at this
          exact this
        | succ m ihm =>
          intro r e E hr he hs hc hdn
          have hr' : r < G.length := by omega
          obtain ⟨hl8, hz, h24⟩ := h.1.2 r hr'
          have vr : vp_in (nI r) 24 := vp_in_nI (by omega) (by decide)
          have v8 : vp_in (nI (gg_l G r)) 8 := vp_in_nI hl8 (by decide)
          have e0 : (gs_A σ 7 e).2.1 0 r = nI (gg_l G r) := (h.2.2 r hr').1
          have e7 : (gs_A σ 7 e).2.1 7 (gg_l G r) = bI (E (gg_l G r)) := he _ hl8
          have store : ∀ (b : Bool) (v : Int32), v = bI b → (E (gg_l G r) = true → b = true) → (b = true → ∃ j, gm_D G j (gg_l G r) 0) → (gm_S (gm_D G k) (gg_y G r) 0 → b = true) → ∀ τ : gs_St, τ = gs_A (gs_A σ 7 e) 7 (upd ((gs_A σ 7 e).2.1 7) (gg_l G r) v) → ∀ v5 : Int32, v5 = nI r + 1 → X31 (nI k) v5 τ := by
            intro b v hv hup hsd hcp τ hτ
            have eτ : τ = gs_A σ 7 (upd e (gg_l G r) v) := by
              rw [hτ, gs_AA]
              rfl
            rw [eτ]
            refine nm_r (nI_1 r) (ihm (r + 1) _ (up_b E (gg_l G r) b) (by omega) (up_b_at he hv) (fun A hA => ?_) (fun A hA => ?_) (fun q hq hS => ?_))
            · by_cases z : A = gg_l G r
              · rw [z] at hA ⊢
                rw [up_b_s] at hA
                exact hsd hA
              · rw [up_b_n z] at hA
                exact hs A hA
            · by_cases z : A = gg_l G r
              · rw [z, up_b_s]
                exact hup (z ▸ hc A hA)
              · rw [up_b_n z]
                exact hc A hA
            · by_cases zr : q = r
              · rw [zr, up_b_s]
                exact hcp (zr ▸ hS)
              · by_cases z : gg_l G q = gg_l G r
                · rw [z, up_b_s]
                  exact hup (z ▸ hdn q (by omega) hS)
                · rw [up_b_n z]
                  exact hdn q (by omega) hS
          apply h31
          refine pk_le G.length r (fun q => absurd q (by omega)) (fun _ => ?_) h.2.1
          rw [nI_clamp (by omega), e0, nI_clamp (by omega), e7, nar_0, nar_1]
          have noskip : ∀ j, j < (gg_y G r).length → nI j ≠ (-1 : Int32) := fun j hj z => absurd (z ▸ (by decide : (-1 : Int32) < 0)) (nI_pos (by omega))
          have Sk : gm_S (gm_D G k) (gg_y G r) 0 → gg_ebE E (gg_y G r) (-1) := fun hS j hj _ => by
            obtain ⟨a1, a2⟩ := (gm_S_0 _).mp hS j hj
            exact ⟨a1, hc _ a2⟩
          refine ⟨vr, vr, v8, ek_if (bI_n0 _) (fun q => ⟨v8, store true 1 rfl (fun _ => rfl) (fun _ => hs _ q) (fun _ => rfl)⟩) (fun q => ?_)⟩
          refine n_allEmpty (E := E) (g7 e) hr' he (fun hy => br_f (by decide) ⟨v8, store true 1 rfl (fun _ => rfl) (fun _ => ?_) (fun _ => rfl)⟩) (fun hy => br_t rfl ⟨v8, store false 0 rfl (fun z => absurd z q) (fun z => absurd z Bool.false_ne_true) (fun hS => absurd (Sk hS) hy)⟩)
          have hS : gm_S (fun x a => ∃ j, gm_D G j x a) (gg_y G r) 0 := (gm_S_0 _).mpr (fun j hj => ⟨(hy j hj (noskip j hj)).1, hs _ (hy j hj (noskip j hj)).2⟩)
          obtain ⟨j, hj⟩ := gm_S_some _ _ hS
          exact ⟨j + 1, _, gg_mem hr', rfl, hj⟩
      exact inner G.length 0 e E (by omega) he hs hc (fun q hq => absurd hq (Nat.not_lt_zero _))
  have ph1 : ∀ (n i : Nat) (e : Nat → Int32), i + n = 8 → (∀ j, j < i → e j = 0) → X2 (nI i) (gs_A σ 7 e) := by
    intro n
    induction n with
    | zero =>
      intro i e hi he
      have hi : i = 8 := hi
      subst hi
      apply h2
      exact br_t (by decide) (ph2 8 0 e (fun _ => false) rfl (fun A hA => he A hA) (fun A z => absurd z Bool.false_ne_true) (fun A z => z.elim))
    | succ n ih =>
      intro i e hi he
      apply h2
      refine pk_le 8 i (fun q => absurd q (by omega)) (fun _ => ⟨vp_in_nI (by omega) (by decide), ?_⟩)
      rw [nI_clamp (by omega), nar_0]
      intro τ hτ
      have eτ : τ = gs_A σ 7 (upd e i 0) := by
        rw [hτ, gs_AA]
        rfl
      rw [eτ]
      refine nm_r (nI_1 i) (ih (i + 1) _ (by omega) (fun j hj => ?_))
      show (if j = i then (0 : Int32) else e j) = 0
      by_cases z : j = i
      · rw [if_pos z]
      · rw [if_neg z]
        exact he j (by omega)
  have := ph1 8 0 (σ.2.1 7) rfl (fun j hj => absurd hj (Nat.not_lt_zero _))
  rw [gs_Aid] at this
  exact this
end M2E
