/-! Layer 2, part e: the class's Leads. Masks by their bits. -/
def gb (x : Int32) (i : Nat) : Bool := x.toBitVec.getLsbD i
theorem gb_or (x y : Int32) (i : Nat) : gb (x ||| y) i = (gb x i || gb y i) := by
  unfold gb
  rw [Int32.toBitVec_or, BitVec.getLsbD_or]
theorem gb_and (x y : Int32) (i : Nat) : gb (x &&& y) i = (gb x i && gb y i) := by
  unfold gb
  rw [Int32.toBitVec_and, BitVec.getLsbD_and]
theorem gb_xor (x y : Int32) (i : Nat) : gb (x ^^^ y) i = (gb x i ^^ gb y i) := by
  unfold gb
  rw [Int32.toBitVec_xor, BitVec.getLsbD_xor]
theorem gb_m1 : ∀ i, i < 32 → gb (-1) i = true := by decide +kernel
theorem gb_one : ∀ s, s < 8 → ∀ i, i < 32 → gb ((1 : Int32) <<< (nI s &&& 31)) i = decide (i = s) := by decide +kernel
theorem gb_0 (i : Nat) : gb 0 i = false := by
  unfold gb
  rw [show (0 : Int32).toBitVec = 0#32 from rfl, BitVec.getLsbD_zero]
theorem gb_zero {x : Int32} : x = 0 ↔ ∀ i, i < 32 → gb x i = false := by
  constructor
  · rintro rfl i -
    exact gb_0 i
  · intro h
    apply Int32.toBitVec_inj.mp
    apply BitVec.eq_of_getLsbD_eq
    intro i hi
    have h1 : x.toBitVec.getLsbD i = false := h i hi
    have h2 : (0 : Int32).toBitVec.getLsbD i = false := gb_0 i
    rw [h1, h2]
theorem gb_test {P : Int32} {A : Nat} (hA : A < 8) : P &&& ((1 : Int32) <<< (nI A &&& 31)) = 0 ↔ gb P A = false := by
  rw [gb_zero]
  constructor
  · intro h
    have h1 := h A (by omega)
    rw [gb_and, gb_one A hA A (by omega), decide_eq_true rfl, Bool.and_true] at h1
    exact h1
  · intro h i hi
    rw [gb_and, gb_one A hA i hi]
    by_cases e : i = A
    · rw [e, h, Bool.false_and]
    · rw [decide_eq_false e, Bool.and_false]
theorem gb_sub {t p : Int32} : t &&& (p ^^^ (-1 : Int32)) = 0 ↔ ∀ i, i < 32 → gb t i = true → gb p i = true := by
  rw [gb_zero]
  constructor
  · intro h i hi ht
    have h1 := h i hi
    rw [gb_and, gb_xor, gb_m1 i hi, ht] at h1
    cases hp : gb p i with
    | true => rfl
    | false => rw [hp] at h1; cases h1
  · intro h i hi
    rw [gb_and, gb_xor, gb_m1 i hi]
    cases ht : gb t i with
    | false => rfl
    | true => rw [h i hi ht]; rfl
/-- the other symbols of a right side are empty nonterminals -/
def gg_eb (D : Nat → Option Nat) (ys : List Nat) (x : Int32) : Prop := ∀ j, j < ys.length → nI j ≠ x → ys.getD j 0 < 8 ∧ D (ys.getD j 0) = some 0
/-- the place i of rule r leads from A to x -/
def gg_pl (G : gg_R) (D : Nat → Option Nat) (r i A x : Nat) : Prop := i < (gg_y G r).length ∧ gg_l G r = A ∧ (gg_y G r).getD i 0 = x ∧ x < 8 ∧ gg_eb D (gg_y G r) (nI i)
/-- A leads to x -/
def gg_to (G : gg_R) (D : Nat → Option Nat) (A x : Nat) : Prop := ∃ r i, r < G.length ∧ gg_pl G D r i A x
section L2E
variable {G : gg_R} {σ : gs_St} {D : Nat → Option Nat}
theorem gg_o_zero {o : Option Nat} (hb : ∀ n, o = some n → n < 2 ^ 31) : gg_o o = 0 ↔ o = some 0 := by
  cases o with
  | none => exact ⟨fun h => absurd h (by decide), fun h => by cases h⟩
  | some n =>
    constructor
    · intro h
      have h1 : nI n = nI 0 := h
      rw [(nI_eq (hb n rfl) (by decide)).mp h1]
    · intro h
      injection h with h
      rw [h]
      rfl
theorem s_leIsEmpty {s : Nat} {K : Int32 → gs_St → Prop} (hs : s < 2 ^ 31) (hD : le_at D σ) (hbd : gg_bd D 1679616) (h1 : s < 8 ∧ D s = some 0 → K 1 σ) (h0 : ¬ (s < 8 ∧ D s = some 0) → K 0 σ) : C_Le_isEmpty (nI s) σ K := by
  refine s_isNtN hs (fun q => br_f (by decide) ⟨vp_in_nI q (by decide), ?_⟩) (fun q => br_t rfl (h0 (fun z => by omega)))
  rw [nI_clamp (by omega), hD s q, gg_o_zero (fun n hn => by have := hbd s q n hn; omega)]
  exact ⟨fun z => h0 (fun y => z y.2), fun z => h1 ⟨q, Classical.byContradiction z⟩⟩
theorem s_isEmptyBut {r : Nat} {x : Int32} {K : Int32 → gs_St → Prop} (h : gr_at G σ) (hr : r < G.length) (hD : le_at D σ) (hbd : gg_bd D 1679616) (h1 : gg_eb D (gg_y G r) x → K 1 σ) (h0 : ¬ gg_eb D (gg_y G r) x → K 0 σ) : C_Ld_isEmptyBut (nI r) x σ K := by
  intro X2 h2
  have hG := h.1.1
  obtain ⟨hl8, hz, h24⟩ := h.1.2 r hr
  have key : ∀ (n i : Nat), i + n = (gg_y G r).length → (∀ j, j < i → nI j ≠ x → (gg_y G r).getD j 0 < 8 ∧ D ((gg_y G r).getD j 0) = some 0) → X2 (nI r) x (nI i) σ := by
    intro n
    induction n with
    | zero =>
      intro i hi ha
      have hi : i = (gg_y G r).length := hi
      apply h2
      refine s_sizeOf h hr ?_
      exact pk_le (gg_y G r).length i (fun _ => h1 (fun j hj => ha j (by omega))) (fun q => absurd q (by omega))
    | succ n ih =>
      intro i hi ha
      have hi' : i < (gg_y G r).length := by omega
      apply h2
      refine s_sizeOf h hr ?_
      refine pk_le (gg_y G r).length i (fun q => absurd q (by omega)) (fun _ => ?_)
      refine ⟨fun e => nm_r (nI_1 i) (ih (i + 1) (by omega) (fun j hj hne => ?_)), fun e => ?_⟩
      · by_cases ej : j = i
        · subst ej
          exact absurd e hne
        · exact ha j (by omega) hne
      · refine s_symbolAt h hr hi' ?_
        have h24i := h24 i hi'
        refine s_leIsEmpty (by omega) hD hbd (fun q => ?_) (fun q => ?_)
        · refine br_t (by decide) (nm_r (nI_1 i) (ih (i + 1) (by omega) (fun j hj hne => ?_)))
          by_cases ej : j = i
          · subst ej
            exact q
          · exact ha j (by omega) hne
        · exact br_f (fun z => z rfl) (h0 (fun w => q (w i hi' e)))
  exact key (gg_y G r).length 0 (by omega) (fun j hj => absurd hj (Nat.not_lt_zero _))
theorem s_fill10 {x : Int32} {K : gs_St → Prop} (k : ∀ τ : gs_St, τ = gs_A σ 6 (fun j => if j < 8 then x else σ.2.1 6 j) → K τ) : C_Ar_fill_10 x σ K := by
  intro X5 h5
  have key : ∀ (n i : Nat) (f : Nat → Int32), i + n = 8 → (∀ j, f j = if j < i then x else σ.2.1 6 j) → X5 x (nI i) 8 (gs_A σ 6 f) := by
    intro n
    induction n with
    | zero =>
      intro i f hi hf
      have hi : i = 8 := hi
      subst hi
      apply h5
      exact br_t (by decide) (k _ (by rw [show f = (fun j => if j < 8 then x else σ.2.1 6 j) from funext hf]))
    | succ n ih =>
      intro i f hi hf
      apply h5
      refine pk_le 8 i (fun q => absurd q (by omega)) (fun _ => ⟨vp_in_nI (by omega) (by decide), ?_⟩)
      rw [nI_clamp (by omega)]
      intro τ hτ
      have e : τ = gs_A σ 6 (upd f i x) := by
        rw [hτ, gs_AA]
        rfl
      rw [e]
      refine nm_r (nI_1 i) ?_
      exact ih (i + 1) (upd f i x) (by omega) (fun j => by
        show (if j = i then x else f j) = _
        rw [hf j]
        split <;> split <;> (try split) <;> first | rfl | omega)
  have := key 8 0 (σ.2.1 6) rfl (fun j => by rw [if_neg (Nat.not_lt_zero _)])
  rw [gs_Aid] at this
  exact this
/-- an order o of c nonterminals, each behind all that it leads to -/
def gg_ord (T : Nat → Nat → Prop) (o : Nat → Nat) (c : Nat) : Prop := (∀ j, j < c → o j < 8) ∧ (∀ i j, i < j → j < c → o i ≠ o j) ∧ ∀ j, j < c → ∀ x, x < 8 → T (o j) x → ∃ i, i < j ∧ o i = x
/-- what isn't in the order leads to something that isn't -/
def gg_stk (T : Nat → Nat → Prop) (o : Nat → Nat) (c : Nat) : Prop := ∀ A, A < 8 → (∀ j, j < c → o j ≠ A) → ∃ x, x < 8 ∧ T A x ∧ ∀ j, j < c → o j ≠ x
theorem gg_ord_lt {T : Nat → Nat → Prop} {o : Nat → Nat} {c A : Nat} (h : gg_ord T o c) (hA : A < 8) (hn : ∀ j, j < c → o j ≠ A) : c < 8 := by
  rcases Nat.lt_or_ge c 8 with q | q
  · exact q
  · obtain ⟨i, j, h1, h2, h3⟩ := gm_ph 8 (fun i => if i = 8 then A else o i) (fun i hi => by
      show (if i = 8 then A else o i) < 8
      split
      · exact hA
      · exact h.1 i (by omega))
    have h3 : (if i = 8 then A else o i) = (if j = 8 then A else o j) := h3
    rw [if_neg (by omega)] at h3
    split at h3
    · exact absurd h3 (hn i (by omega))
    · exact absurd h3 (h.2.1 i j h1 (by omega))
theorem gg_ord_all {T : Nat → Nat → Prop} {o : Nat → Nat} {c : Nat} (h : gg_ord T o c) (hc : 8 ≤ c) : ∀ A, A < 8 → ∃ j, j < c ∧ o j = A := fun A hA =>
  Classical.byContradiction (fun q => absurd (gg_ord_lt h hA (fun j hj e => q ⟨j, hj, e⟩)) (by omega))
theorem gg_ord_miss {T : Nat → Nat → Prop} {o : Nat → Nat} {c : Nat} (hc : c < 8) : ∃ A, A < 8 ∧ ∀ j, j < c → o j ≠ A := by
  refine Classical.byContradiction (fun q => ?_)
  have ex : ∀ A, ∃ j, A ≤ 7 → j < c ∧ o j = A := by
    intro A
    by_cases hA : A ≤ 7
    · refine Classical.byContradiction (fun z => q ⟨A, by omega, fun j hj e => z ⟨j, fun _ => ⟨hj, e⟩⟩⟩)
    · exact ⟨0, fun z => absurd z hA⟩
  obtain ⟨f, hf⟩ : ∃ f : Nat → Nat, ∀ A, A ≤ 7 → f A < c ∧ o (f A) = A := ⟨fun A => Classical.choose (ex A), fun A hA => Classical.choose_spec (ex A) hA⟩
  obtain ⟨i, j, h1, h2, h3⟩ := gm_ph 7 f (fun i hi => by have := (hf i hi).1; omega)
  have e1 := (hf i (by omega)).2
  have e2 := (hf j h2).2
  rw [h3] at e1
  omega
theorem gg_ord_add {T : Nat → Nat → Prop} {o : Nat → Nat} {c A : Nat} (h : gg_ord T o c) (hA : A < 8) (hn : ∀ j, j < c → o j ≠ A) (ht : ∀ x, x < 8 → T A x → ∃ j, j < c ∧ o j = x) : gg_ord T (fun j => if j = c then A else o j) (c + 1) := by
  refine ⟨fun j hj => ?_, fun i j hij hj => ?_, fun j hj x hx hT => ?_⟩
  · show (if j = c then A else o j) < 8
    split
    · exact hA
    · exact h.1 j (by omega)
  · show (if i = c then A else o i) ≠ (if j = c then A else o j)
    rw [if_neg (by omega)]
    split
    · exact hn i (by omega)
    · exact h.2.1 i j hij (by omega)
  · have hT : T (if j = c then A else o j) x := hT
    split at hT
    · obtain ⟨i, h1, h2⟩ := ht x hx hT
      exact ⟨i, by omega, by show (if i = c then A else o i) = x; rw [if_neg (by omega)]; exact h2⟩
    · obtain ⟨i, h1, h2⟩ := h.2.2 j (by omega) x hx hT
      exact ⟨i, h1, by show (if i = c then A else o i) = x; rw [if_neg (by omega)]; exact h2⟩
theorem s_putInOrder {T : Nat → Nat → Prop} {K : gs_St → Prop} (hT : ∀ A, A < 8 → ∀ x, x < 32 → (gb (σ.2.1 6 A) x = true ↔ x < 8 ∧ T A x))
    (kk : ∀ (o : Nat → Nat) (c : Nat) (f : Nat → Int32), gg_ord T o c → (8 ≤ c ∨ gg_stk T o c) → (∀ j, j < c → f j = nI (o j)) → K (gs_I (gs_A σ 7 f) 3 (nI c))) : C_Ld_putInOrder σ K := by
  intro X9 X17 X36 h9 h17 h36
  have outer : ∀ (n k : Nat) (o : Nat → Nat) (c : Nat) (f : Nat → Int32) (P : Int32), k + n = 8 → gg_ord T o c → (k ≤ c ∨ gg_stk T o c) → (∀ j, j < c → f j = nI (o j)) → (∀ x, x < 32 → (gb P x = true ↔ ∃ j, j < c ∧ o j = x)) → X9 P (nI k) (gs_I (gs_A σ 7 f) 3 (nI c)) := by
    intro n
    induction n with
    | zero =>
      intro k o c f P hk ho hp hf hP
      have hk : k = 8 := hk
      subst hk
      apply h9
      exact br_t (by decide) (kk o c f ho hp hf)
    | succ n ih =>
      intro k o c f P hk ho hp hf hP
      apply h9
      refine pk_le 8 k (fun q => absurd q (by omega)) (fun _ => ?_)
      have inner : ∀ (m A : Nat) (o2 : Nat → Nat) (c2 : Nat) (f2 : Nat → Int32) (P2 : Int32), A + m = 8 → gg_ord T o2 c2 → ((c < c2 ∧ ¬ gg_stk T o c) ∨ (c2 = c ∧ o2 = o ∧ ∀ x, x < A → (∀ j, j < c → o j ≠ x) → ∃ y, y < 8 ∧ T x y ∧ ∀ j, j < c → o j ≠ y)) → (∀ j, j < c2 → f2 j = nI (o2 j)) → (∀ x, x < 32 → (gb P2 x = true ↔ ∃ j, j < c2 ∧ o2 j = x)) → X17 P2 (nI k) (nI A) (gs_I (gs_A σ 7 f2) 3 (nI c2)) := by
        intro m
        induction m with
        | zero =>
          intro A o2 c2 f2 P2 hA ho2 hp2 hf2 hP2
          have hA : A = 8 := hA
          subst hA
          apply h17
          refine br_t (by decide) (nm_r (nI_1 k) (ih (k + 1) o2 c2 f2 P2 (by omega) ho2 ?_ hf2 hP2))
          rcases hp2 with ⟨q, qs⟩ | ⟨q1, q2, q3⟩
          · rcases hp with z | z
            · exact Or.inl (by omega)
            · exact absurd z qs
          · subst q1
            subst q2
            exact Or.inr (fun A hA => q3 A hA)
        | succ m ihm =>
          intro A o2 c2 f2 P2 hA ho2 hp2 hf2 hP2
          have hA8 : A < 8 := by omega
          apply h17
          refine pk_le 8 A (fun q => absurd q (by omega)) (fun _ => ?_)
          refine ek_if (not_congr (gb_test hA8)) (fun hb => ?_) (fun hb => ?_)
          · have hin : ∃ j, j < c2 ∧ o2 j = A := (hP2 A (by omega)).mp (by cases hz : gb P2 A with | true => rfl | false => exact absurd hz hb)
            apply h36
            refine br_t rfl (nm_r (nI_1 A) (ihm (A + 1) o2 c2 f2 P2 (by omega) ho2 ?_ hf2 hP2))
            rcases hp2 with q | ⟨q1, q2, q3⟩
            · exact Or.inl q
            · refine Or.inr ⟨q1, q2, fun x hx hno => ?_⟩
              by_cases e : x = A
              · subst e
                obtain ⟨j, hj, e2⟩ := hin
                rw [q2] at e2
                exact absurd e2 (hno j (by omega))
              · exact q3 x (by omega) hno
          · have hb : gb P2 A = false := Classical.byContradiction hb
            have hout : ∀ j, j < c2 → o2 j ≠ A := fun j hj e => by
              have := (hP2 A (by omega)).mpr ⟨j, hj, e⟩
              rw [hb] at this
              cases this
            apply h36
            refine br_f (by decide) ⟨vp_in_nI hA8 (by decide), ?_⟩
            rw [nI_clamp (by omega)]
            have et : (gs_I (gs_A σ 7 f2) 3 (nI c2)).2.1 6 A = σ.2.1 6 A := rfl
            rw [et]
            refine ek_if (not_congr gb_sub) (fun hb2 => ?_) (fun hb2 => ?_)
            · refine nm_r (nI_1 A) (ihm (A + 1) o2 c2 f2 P2 (by omega) ho2 ?_ hf2 hP2)
              rcases hp2 with q | ⟨q1, q2, q3⟩
              · exact Or.inl q
              · refine Or.inr ⟨q1, q2, fun x hx hno => ?_⟩
                by_cases e : x = A
                · subst e
                  refine Classical.byContradiction (fun z => hb2 (fun i hi hti => ?_))
                  obtain ⟨hi8, hTi⟩ := (hT x hA8 i hi).mp hti
                  refine (hP2 i hi).mpr (Classical.byContradiction (fun z2 => z ⟨i, hi8, hTi, fun j hj e => z2 ⟨j, by omega, by rw [q2]; exact e⟩⟩))
                · exact q3 x (by omega) hno
            · have hsub : ∀ i, i < 32 → gb (σ.2.1 6 A) i = true → gb P2 i = true := Classical.byContradiction hb2
              have hc2 : c2 < 8 := gg_ord_lt ho2 hA8 hout
              refine nm_e ⟨vp_in_nI hc2 (by decide), ?_⟩
              have e3 : (gs_I (gs_A σ 7 f2) 3 (nI c2)).1 3 = nI c2 := rfl
              rw [e3, nI_clamp (by omega)]
              intro σ6 e6 σ7 e7
              have es : σ7 = gs_I (gs_A σ 7 (upd f2 c2 (nI A))) 3 (nI (c2 + 1)) := by
                rw [e7, e6]
                refine Prod.ext (funext fun j => ?_) (Prod.ext (funext fun j => ?_) rfl)
                · show (if j = 3 then nI c2 + 1 else (if j = 3 then nI c2 else σ.1 j)) = (if j = 3 then nI (c2 + 1) else σ.1 j)
                  split
                  · exact nI_1 c2
                  · rfl
                · show (if j = 7 then upd f2 c2 (nI A) else (if j = 7 then f2 else σ.2.1 j)) = (if j = 7 then upd f2 c2 (nI A) else σ.2.1 j)
                  split <;> rfl
              rw [es]
              refine nm_r (nI_1 A) (ihm (A + 1) (fun j => if j = c2 then A else o2 j) (c2 + 1) _ _ (by omega) (gg_ord_add ho2 hA8 hout (fun x hx hTx => ?_)) ?_ (fun j hj => ?_) (fun x hx => ?_))
              · exact (hP2 x (by omega)).mp (hsub x (by omega) ((hT A hA8 x (by omega)).mpr ⟨hx, hTx⟩))
              · rcases hp2 with ⟨q, qs⟩ | ⟨q1, q2, -⟩
                · exact Or.inl ⟨by omega, qs⟩
                · refine Or.inl ⟨by omega, fun hs => ?_⟩
                  obtain ⟨x, hx, hTx, hno⟩ := hs A hA8 (fun j hj => by rw [← q2]; exact hout j (by omega))
                  obtain ⟨j, hj, e⟩ := (hP2 x (by omega)).mp (hsub x (by omega) ((hT A hA8 x (by omega)).mpr ⟨hx, hTx⟩))
                  rw [q2] at e
                  exact hno j (by omega) e
              · show (if j = c2 then nI A else f2 j) = nI (if j = c2 then A else o2 j)
                by_cases e : j = c2
                · rw [if_pos e, if_pos e]
                · rw [if_neg e, if_neg e]
                  exact hf2 j (by omega)
              · rw [gb_or, gb_one A hA8 x hx, Bool.or_eq_true, hP2 x hx, decide_eq_true_iff]
                constructor
                · rintro (⟨j, hj, e⟩ | e)
                  · exact ⟨j, by omega, by show (if j = c2 then A else o2 j) = x; rw [if_neg (by omega)]; exact e⟩
                  · exact ⟨c2, by omega, by show (if c2 = c2 then A else o2 c2) = x; rw [if_pos rfl]; exact e.symm⟩
                · rintro ⟨j, hj, e⟩
                  have e : (if j = c2 then A else o2 j) = x := e
                  split at e
                  · exact Or.inr e.symm
                  · exact Or.inl ⟨j, by omega, e⟩
      exact inner 8 0 o c f P rfl ho (Or.inr ⟨rfl, rfl, fun x hx => absurd hx (Nat.not_lt_zero _)⟩) hf hP
  have e1 : ∀ τ : gs_St, τ = gs_I σ 3 0 → X9 0 0 τ := by
    intro τ hτ
    have := outer 8 0 (fun _ => 0) 0 (σ.2.1 7) 0 rfl ⟨fun j hj => absurd hj (Nat.not_lt_zero _), fun i j _ hj => absurd hj (Nat.not_lt_zero _), fun j hj => absurd hj (Nat.not_lt_zero _)⟩ (Or.inl (Nat.le_refl 0)) (fun j hj => absurd hj (Nat.not_lt_zero _)) (fun x hx => by
      rw [gb_0]
      exact ⟨fun z => absurd z Bool.false_ne_true, fun ⟨j, hj, _⟩ => absurd hj (Nat.not_lt_zero _)⟩)
    rw [gs_Aid] at this
    rw [hτ]
    exact this
  exact e1
/-- the masks of Leads.targets, an order -/
theorem s_ldFind {K : gs_St → Prop} (h : gr_at G σ) (hD : le_at D σ) (hbd : gg_bd D 1679616)
    (kk : ∀ (o : Nat → Nat) (c : Nat) (t f : Nat → Int32), gg_ord (gg_to G D) o c → (8 ≤ c ∨ gg_stk (gg_to G D) o c) → (∀ j, j < c → f j = nI (o j)) → K (gs_I (gs_A (gs_A σ 6 t) 7 f) 3 (nI c))) : C_Ld_find σ K := by
  intro X10 X23 h10 h23
  have hG := h.1.1
  have g6 : ∀ t, gr_at G (gs_A σ 6 t) := fun t => h.of rfl rfl rfl rfl
  have d6 : ∀ t, le_at D (gs_A σ 6 t) := fun t => hD
  have outer : ∀ (n r : Nat) (t : Nat → Int32), r + n = G.length → (∀ A, A < 8 → ∀ x, x < 32 → (gb (t A) x = true ↔ ∃ r' i, r' < r ∧ gg_pl G D r' i A x)) → X10 (nI r) (gs_A σ 6 t) := by
    intro n
    induction n with
    | zero =>
      intro r t hr ht
      have hr : r = G.length := hr
      subst hr
      apply h10
      refine pk_le G.length G.length (fun _ => ?_) (fun q => absurd q (by omega)) h.2.1
      refine s_putInOrder (T := gg_to G D) (fun A hA x hx => ?_) (fun o c f ho hp hf => kk o c t f ho hp hf)
      show gb (t A) x = true ↔ _
      rw [ht A hA x hx]
      constructor
      · rintro ⟨r, i, h1, h2⟩
        exact ⟨h2.2.2.2.1, r, i, h1, h2⟩
      · rintro ⟨-, r, i, h1, h2⟩
        exact ⟨r, i, h1, h2⟩
    | succ n ih =>
      intro r t hr ht
      have hr' : r < G.length := by omega
      obtain ⟨hl8, hz, h24⟩ := h.1.2 r hr'
      apply h10
      refine pk_le G.length r (fun q => absurd q (by omega)) (fun _ => ?_) h.2.1
      have inner : ∀ (m i : Nat) (t : Nat → Int32), i + m = (gg_y G r).length → (∀ A, A < 8 → ∀ x, x < 32 → (gb (t A) x = true ↔ ∃ r' i', (r' < r ∨ (r' = r ∧ i' < i)) ∧ gg_pl G D r' i' A x)) → X23 (nI r) (nI i) (gs_A σ 6 t) := by
        intro m
        induction m with
        | zero =>
          intro i t hi ht
          have hi : i = (gg_y G r).length := hi
          apply h23
          refine s_sizeOf (g6 t) hr' ?_
          refine pk_le (gg_y G r).length i (fun _ => nm_r (nI_1 r) (ih (r + 1) t (by omega) (fun A hA x hx => ?_))) (fun q => absurd q (by omega))
          rw [ht A hA x hx]
          constructor
          · rintro ⟨r', i', q | ⟨q1, q2⟩, hp⟩
            · exact ⟨r', i', by omega, hp⟩
            · exact ⟨r', i', by omega, hp⟩
          · rintro ⟨r', i', q, hp⟩
            by_cases e : r' = r
            · refine ⟨r', i', Or.inr ⟨e, ?_⟩, hp⟩
              subst e
              have := hp.1
              omega
            · exact ⟨r', i', Or.inl (by omega), hp⟩
        | succ m ihm =>
          intro i t hi ht
          have hi' : i < (gg_y G r).length := by omega
          have h24i := h24 i hi'
          have nolead : (∀ A x, ¬ gg_pl G D r i A x) → ∀ A, A < 8 → ∀ x, x < 32 → (gb (t A) x = true ↔ ∃ r' i', (r' < r ∨ (r' = r ∧ i' < i + 1)) ∧ gg_pl G D r' i' A x) := by
            intro hno A hA x hx
            rw [ht A hA x hx]
            constructor
            · rintro ⟨r', i', q | ⟨q1, q2⟩, hp⟩
              · exact ⟨r', i', Or.inl q, hp⟩
              · exact ⟨r', i', Or.inr ⟨q1, by omega⟩, hp⟩
            · rintro ⟨r', i', q | ⟨q1, q2⟩, hp⟩
              · exact ⟨r', i', Or.inl q, hp⟩
              · refine ⟨r', i', Or.inr ⟨q1, ?_⟩, hp⟩
                by_cases e : i' = i
                · subst q1
                  subst e
                  exact absurd hp (hno A x)
                · omega
          apply h23
          refine s_sizeOf (g6 t) hr' ?_
          refine pk_le (gg_y G r).length i (fun q => absurd q (by omega)) (fun _ => ?_)
          refine s_symbolAt (g6 t) hr' hi' ?_
          refine s_isNtN (by omega) (fun q => ?_) (fun q => ?_)
          · refine br_f (by decide) ?_
            refine s_isEmptyBut (g6 t) hr' (d6 t) hbd (fun he => ?_) (fun he => ?_)
            · refine br_f (by decide) ?_
              refine s_leftOf (g6 t) hr' ⟨vp_in_nI hl8 (by decide), vp_in_nI hl8 (by decide), ?_⟩
              rw [nI_clamp (by omega)]
              intro τ hτ
              have e : τ = gs_A σ 6 (upd t (gg_l G r) (t (gg_l G r) ||| ((1 : Int32) <<< (nI ((gg_y G r).getD i 0) &&& 31)))) := by
                rw [hτ, gs_AA]
                rfl
              rw [e]
              refine nm_r (nI_1 i) (ihm (i + 1) _ (by omega) (fun A hA x hx => ?_))
              have hpl : gg_pl G D r i (gg_l G r) ((gg_y G r).getD i 0) := ⟨hi', rfl, rfl, q, he⟩
              show gb (if A = gg_l G r then t (gg_l G r) ||| ((1 : Int32) <<< (nI ((gg_y G r).getD i 0) &&& 31)) else t A) x = true ↔ _
              have back : (gb (t A) x = true ∨ (A = gg_l G r ∧ x = (gg_y G r).getD i 0)) ↔ ∃ r' i', (r' < r ∨ (r' = r ∧ i' < i + 1)) ∧ gg_pl G D r' i' A x := by
                rw [ht A hA x hx]
                constructor
                · rintro (⟨r', i', z | ⟨z1, z2⟩, hp⟩ | ⟨z1, z2⟩)
                  · exact ⟨r', i', Or.inl z, hp⟩
                  · exact ⟨r', i', Or.inr ⟨z1, by omega⟩, hp⟩
                  · rw [z1, z2]
                    exact ⟨r, i, Or.inr ⟨rfl, by omega⟩, hpl⟩
                · rintro ⟨r', i', z | ⟨z1, z2⟩, hp⟩
                  · exact Or.inl ⟨r', i', Or.inl z, hp⟩
                  · by_cases e : i' = i
                    · rw [z1, e] at hp
                      exact Or.inr ⟨hp.2.1.symm, hp.2.2.1.symm⟩
                    · exact Or.inl ⟨r', i', Or.inr ⟨z1, by omega⟩, hp⟩
              rw [← back]
              by_cases eA : A = gg_l G r
              · rw [if_pos eA, gb_or, gb_one _ q x hx, Bool.or_eq_true, decide_eq_true_iff, eA]
                exact or_congr Iff.rfl ⟨fun z => ⟨rfl, z⟩, fun z => z.2⟩
              · rw [if_neg eA]
                exact ⟨Or.inl, fun z => z.elim id (fun y => absurd y.1 eA)⟩
            · exact br_t rfl (nm_r (nI_1 i) (ihm (i + 1) t (by omega) (nolead (fun A x hp => he hp.2.2.2.2))))
          · exact br_t rfl (nm_r (nI_1 i) (ihm (i + 1) t (by omega) (nolead (fun A x hp => by
              have h1 := hp.2.2.1
              have h2 := hp.2.2.2.1
              omega))))
      refine inner (gg_y G r).length 0 t (by omega) (fun A hA x hx => ?_)
      rw [ht A hA x hx]
      constructor
      · rintro ⟨r', i', z, hp⟩
        exact ⟨r', i', Or.inl z, hp⟩
      · rintro ⟨r', i', z | ⟨z1, z2⟩, hp⟩
        · exact ⟨r', i', z, hp⟩
        · exact absurd z2 (Nat.not_lt_zero _)
  refine s_fill10 (fun τ hτ => ?_)
  subst hτ
  refine outer G.length 0 _ (by omega) (fun A hA x hx => ?_)
  show gb (if A < 8 then (0 : Int32) else σ.2.1 6 A) x = true ↔ _
  rw [if_pos hA, gb_0]
  exact ⟨fun z => absurd z Bool.false_ne_true, fun ⟨_, _, hj, _⟩ => absurd hj (Nat.not_lt_zero _)⟩
end L2E
