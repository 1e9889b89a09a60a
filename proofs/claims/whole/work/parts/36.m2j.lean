/-! Layer 2: the number of a tree, as a function. -/
/-- the symbols of a right side take their trees from the pile, its top first: (length, number) of each, and the rest -/
def nt_tk : List Nat → List (Nat × Nat × Nat) → Option (List (Nat × Nat) × List (Nat × Nat × Nat))
  | [], P => some ([], P)
  | s :: ys, P => if s < 8 then
      (match P with
      | [] => none
      | e :: P' => if e.1 = s then
          (match nt_tk ys P' with
          | none => none
          | some q => some ((e.2.1, e.2.2) :: q.1, q.2))
        else none)
    else
      (match nt_tk ys P with
      | none => none
      | some q => some ((1, 0) :: q.1, q.2))
def nt_ln : List (Nat × Nat) → Nat
  | [] => 0
  | q :: ps => q.1 + nt_ln ps
def nt_nb (T : Nat → Nat → Nat) : List Nat → List (Nat × Nat) → Nat → Nat
  | s :: ys, q :: ps, n => gc_sum (fun p => gd_w T s ys n p) q.1 + q.2 * gc_E T ys (n - q.1) + nt_nb T ys ps (n - q.1)
  | _, _, _ => 0
def nt_fd (T : Nat → Nat → Nat) (G : gg_R) (r : Nat) (P : List (Nat × Nat × Nat)) : Option (List (Nat × Nat × Nat)) :=
  match nt_tk (gg_y G r) P with
  | none => none
  | some q => some ((gg_l G r, nt_ln q.1, gc_pt T G (fun _ => true) (gg_l G r) (nt_ln q.1) r + nt_nb T (gg_y G r) q.1 (nt_ln q.1)) :: q.2)
def nt_nf (T : Nat → Nat → Nat) (G : gg_R) : List Nat → Option (List (Nat × Nat × Nat))
  | [] => some []
  | r :: rs =>
    match nt_nf T G rs with
    | none => none
    | some P => nt_fd T G r P
/-- terminals of a row of symbols, of the rules of a list -/
def nt_tm : List Nat → Nat
  | [] => 0
  | s :: ys => (if s < 8 then 0 else 1) + nt_tm ys
def nt_tt (G : gg_R) : List Nat → Nat
  | [] => 0
  | r :: rs => nt_tm (gg_y G r) + nt_tt G rs
theorem nt_tm_eq : ∀ ys : List Nat, nt_tm ys + gg_ntn ys = ys.length
  | [] => rfl
  | s :: ys => by
    have := nt_tm_eq ys
    show ((if s < 8 then 0 else 1) + nt_tm ys) + ((if s < 8 then 1 else 0) + gg_ntn ys) = ys.length + 1
    split <;> omega
theorem nt_tk_nt {s : Nat} {ys : List Nat} {e : Nat × Nat × Nat} {P : List (Nat × Nat × Nat)} (hs : s < 8) (he : e.1 = s) : nt_tk (s :: ys) (e :: P) = match nt_tk ys P with | none => none | some q => some ((e.2.1, e.2.2) :: q.1, q.2) := by
  show (if s < 8 then (if e.1 = s then (match nt_tk ys P with | none => none | some q => some ((e.2.1, e.2.2) :: q.1, q.2)) else none) else _) = _
  rw [if_pos hs, if_pos he]
theorem nt_tk_ne {s : Nat} {ys : List Nat} {e : Nat × Nat × Nat} {P : List (Nat × Nat × Nat)} (hs : s < 8) (he : e.1 ≠ s) : nt_tk (s :: ys) (e :: P) = none := by
  show (if s < 8 then (if e.1 = s then _ else none) else _) = _
  rw [if_pos hs, if_neg he]
theorem nt_tk_no {s : Nat} {ys : List Nat} (hs : s < 8) : nt_tk (s :: ys) [] = none := by
  show (if s < 8 then none else _) = _
  rw [if_pos hs]
theorem nt_tk_t {s : Nat} {ys : List Nat} {P : List (Nat × Nat × Nat)} (hs : ¬ s < 8) : nt_tk (s :: ys) P = match nt_tk ys P with | none => none | some q => some ((1, 0) :: q.1, q.2) := by
  cases P with
  | nil =>
    show (if s < 8 then none else _) = _
    rw [if_neg hs]
  | cons e P =>
    show (if s < 8 then _ else _) = _
    rw [if_neg hs]
/-- what a taking shows -/
theorem nt_tk_ok {T : Nat → Nat → Nat} : ∀ (ys : List Nat) (P : List (Nat × Nat × Nat)) (ps : List (Nat × Nat)) (R : List (Nat × Nat × Nat)), nt_tk ys P = some (ps, R) →
    ps.length = ys.length ∧ nt_ln ps + gd_ln R = gd_ln P + nt_tm ys ∧ P.length = R.length + gg_ntn ys ∧ (∀ e, e ∈ R → e ∈ P)
  | [], P, ps, R, h => by
    injection h with h
    injection h with h1 h2
    subst h1
    subst h2
    exact ⟨rfl, by show 0 + gd_ln P = gd_ln P + 0; omega, rfl, fun e he => he⟩
  | s :: ys, P, ps, R, h => by
    by_cases hs : s < 8
    · cases P with
      | nil => rw [nt_tk_no hs] at h; cases h
      | cons e P =>
        by_cases he : e.1 = s
        · rw [nt_tk_nt hs he] at h
          cases hq : nt_tk ys P with
          | none => rw [hq] at h; cases h
          | some q =>
            rw [hq] at h
            injection h with h
            injection h with h1 h2
            obtain ⟨a1, a2, a3, a4⟩ := nt_tk_ok (T := T) ys P q.1 q.2 hq
            subst h1
            subst h2
            refine ⟨congrArg (· + 1) a1, ?_, ?_, fun x hx => List.mem_cons_of_mem _ (a4 x hx)⟩
            · show (e.2.1 + nt_ln q.1) + gd_ln q.2 = (e.2.1 + gd_ln P) + ((if s < 8 then 0 else 1) + nt_tm ys)
              rw [if_pos hs]
              omega
            · show P.length + 1 = q.2.length + ((if s < 8 then 1 else 0) + gg_ntn ys)
              rw [if_pos hs]
              omega
        · rw [nt_tk_ne hs he] at h
          cases h
    · rw [nt_tk_t hs] at h
      cases hq : nt_tk ys P with
      | none => rw [hq] at h; cases h
      | some q =>
        rw [hq] at h
        injection h with h
        injection h with h1 h2
        obtain ⟨a1, a2, a3, a4⟩ := nt_tk_ok (T := T) ys P q.1 q.2 hq
        subst h1
        subst h2
        refine ⟨congrArg (· + 1) a1, ?_, ?_, a4⟩
        · show (1 + nt_ln q.1) + gd_ln q.2 = gd_ln P + ((if s < 8 then 0 else 1) + nt_tm ys)
          rw [if_neg hs]
          omega
        · show P.length = q.2.length + ((if s < 8 then 1 else 0) + gg_ntn ys)
          rw [if_neg hs]
          omega
/-- an entry that is a tree's, if there aren't too many -/
def nt_v (T : Nat → Nat → Nat) (e : Nat × Nat × Nat) : Prop := e.1 < 8 ∧ 1 ≤ T e.1 e.2.1 ∧ (T e.1 e.2.1 ≤ 1000000000000000000 → e.2.2 < T e.1 e.2.1)
def nt_pv (T : Nat → Nat → Nat) : List Nat → List (Nat × Nat) → Prop
  | s :: ys, q :: ps => 1 ≤ gd_F T s q.1 ∧ (gd_F T s q.1 ≤ 1000000000000000000 → q.2 < gd_F T s q.1) ∧ nt_pv T ys ps
  | _, _ => True
theorem nt_tk_pv {T : Nat → Nat → Nat} : ∀ (ys : List Nat) (P : List (Nat × Nat × Nat)) (ps : List (Nat × Nat)) (R : List (Nat × Nat × Nat)), nt_tk ys P = some (ps, R) → (∀ e, e ∈ P → nt_v T e) → nt_pv T ys ps
  | [], P, ps, R, h, _ => by
    injection h with h
    injection h with h1 h2
    subst h1
    trivial
  | s :: ys, P, ps, R, h, hv => by
    by_cases hs : s < 8
    · cases P with
      | nil => rw [nt_tk_no hs] at h; cases h
      | cons e P =>
        by_cases he : e.1 = s
        · rw [nt_tk_nt hs he] at h
          cases hq : nt_tk ys P with
          | none => rw [hq] at h; cases h
          | some q =>
            rw [hq] at h
            injection h with h
            injection h with h1 h2
            subst h1
            obtain ⟨v1, v2, v3⟩ := hv e List.mem_cons_self
            have hF : gd_F T s e.2.1 = T e.1 e.2.1 := by unfold gd_F; rw [if_pos hs, he]
            refine ⟨?_, fun z => ?_, nt_tk_pv ys P q.1 q.2 hq (fun x hx => hv x (List.mem_cons_of_mem _ hx))⟩
            · show 1 ≤ gd_F T s e.2.1
              rw [hF]
              exact v2
            · show e.2.2 < gd_F T s e.2.1
              rw [hF]
              have z : gd_F T s e.2.1 ≤ 1000000000000000000 := z
              rw [hF] at z
              exact v3 z
        · rw [nt_tk_ne hs he] at h
          cases h
    · rw [nt_tk_t hs] at h
      cases hq : nt_tk ys P with
      | none => rw [hq] at h; cases h
      | some q =>
        rw [hq] at h
        injection h with h
        injection h with h1 h2
        subst h1
        have hF : gd_F T s 1 = 1 := by unfold gd_F; rw [if_neg hs, if_pos rfl]
        refine ⟨?_, fun _ => ?_, nt_tk_pv ys P q.1 q.2 hq hv⟩
        · show 1 ≤ gd_F T s 1
          rw [hF]
          exact Nat.le_refl 1
        · show 0 < gd_F T s 1
          rw [hF]
          exact Nat.zero_lt_one
theorem gc_cap_pos {a : Nat} (h : 1 ≤ a) : 1 ≤ gc_cap a := by
  unfold gc_cap
  split <;> omega
/-- there is a way, and the number of this one is below their count -/
theorem nt_nb_lt {T : Nat → Nat → Nat} : ∀ (ys : List Nat) (ps : List (Nat × Nat)) (n : Nat), ps.length = ys.length → nt_ln ps = n → nt_pv T ys ps → 1 ≤ gc_E T ys n ∧ (gc_E T ys n ≤ 1000000000000000000 → nt_nb T ys ps n < gc_E T ys n)
  | [], [], n, _, hn, _ => by
    have hn : 0 = n := hn
    subst hn
    exact ⟨Nat.le_refl 1, fun _ => Nat.zero_lt_one⟩
  | s :: ys, q :: ps, n, hl, hn, hv => by
    have hl : ps.length + 1 = ys.length + 1 := hl
    have hn : q.1 + nt_ln ps = n := hn
    obtain ⟨v1, v2, v3⟩ := hv
    obtain ⟨i1, i2⟩ := nt_nb_lt ys ps (n - q.1) (by omega) (by omega) v3
    have hmono := gc_sum_mono (fun p => gd_F T s p * gc_E T ys (n - p)) (q.1 + 1) (n + 1) (by omega)
    have hs1 : gc_sum (fun p => gd_F T s p * gc_E T ys (n - p)) (q.1 + 1) = gc_sum (fun p => gd_F T s p * gc_E T ys (n - p)) q.1 + gd_F T s q.1 * gc_E T ys (n - q.1) := rfl
    have hprod : 1 ≤ gd_F T s q.1 * gc_E T ys (n - q.1) := Nat.mul_pos v1 i1
    rw [gc_E_sum]
    refine ⟨gc_cap_pos (by omega), fun hb => ?_⟩
    obtain ⟨c1, c2⟩ := gc_cap_small hb
    rw [c1]
    have hF2 : gd_F T s q.1 ≤ gd_F T s q.1 * gc_E T ys (n - q.1) := Nat.le_mul_of_pos_right _ i1
    have hE2 : gc_E T ys (n - q.1) ≤ gd_F T s q.1 * gc_E T ys (n - q.1) := Nat.le_mul_of_pos_left _ v1
    have hm := v2 (by omega)
    have hnb := i2 (by omega)
    have hw : gc_sum (fun p => gd_w T s ys n p) q.1 = gc_sum (fun p => gd_F T s p * gc_E T ys (n - p)) q.1 := gc_sum_congr _ (fun p hp => by
      have a := gc_sum_mono (fun p => gd_F T s p * gc_E T ys (n - p)) (p + 1) (n + 1) (by omega)
      have b : gc_sum (fun p => gd_F T s p * gc_E T ys (n - p)) (p + 1) = gc_sum (fun p => gd_F T s p * gc_E T ys (n - p)) p + gd_F T s p * gc_E T ys (n - p) := rfl
      unfold gd_w gc_cap
      rw [if_pos (by omega)])
    show gc_sum (fun p => gd_w T s ys n p) q.1 + q.2 * gc_E T ys (n - q.1) + nt_nb T ys ps (n - q.1) < _
    rw [hw]
    have hmul : (q.2 + 1) * gc_E T ys (n - q.1) ≤ gd_F T s q.1 * gc_E T ys (n - q.1) := Nat.mul_le_mul_right _ hm
    rw [Nat.add_mul, Nat.one_mul] at hmul
    omega
/-- a step keeps what holds -/
theorem nt_fd_ok {T : Nat → Nat → Nat} {G : gg_R} {r N : Nat} {P P' : List (Nat × Nat × Nat)} (hG : gg_ok G) (hr : r < G.length) (hok : gd_ok G T N) (h : nt_fd T G r P = some P') (hv : ∀ e, e ∈ P → nt_v T e) (hN : gd_ln P + nt_tm (gg_y G r) < N) : (∀ e, e ∈ P' → nt_v T e) ∧ gd_ln P' = gd_ln P + nt_tm (gg_y G r) ∧ P'.length ≤ P.length + 1 ∧ 1 ≤ P'.length := by
  unfold nt_fd at h
  cases hq : nt_tk (gg_y G r) P with
  | none => rw [hq] at h; cases h
  | some q =>
    rw [hq] at h
    injection h with h
    obtain ⟨a1, a2, a3, a4⟩ := nt_tk_ok (T := T) _ _ _ _ hq
    have hpv := nt_tk_pv _ _ _ _ hq hv
    obtain ⟨b1, b2⟩ := nt_nb_lt _ _ (nt_ln q.1) a1 rfl hpv
    have hl8 := (hG.2 r hr).1
    have hTe := hok (gg_l G r) (nt_ln q.1) hl8 (by omega)
    have hnx : gc_pt T G (fun _ => true) (gg_l G r) (nt_ln q.1) (r + 1) = gc_pt T G (fun _ => true) (gg_l G r) (nt_ln q.1) r + (if true = true ∧ gg_l G r = gg_l G r then gc_E T (gg_y G r) (nt_ln q.1) else 0) := rfl
    rw [if_pos ⟨rfl, rfl⟩] at hnx
    have hle := gc_pt_true_mono T G (gg_l G r) (nt_ln q.1) (r + 1) G.length (by omega)
    subst h
    refine ⟨fun e he => ?_, ?_, ?_, Nat.le_add_left 1 _⟩
    · rcases List.mem_cons.mp he with z | z
      · subst z
        refine ⟨hl8, ?_, fun hb => ?_⟩
        · show 1 ≤ T (gg_l G r) (nt_ln q.1)
          rw [hTe]
          exact gc_cap_pos (by omega)
        · show _ < T (gg_l G r) (nt_ln q.1)
          have hb : T (gg_l G r) (nt_ln q.1) ≤ 1000000000000000000 := hb
          rw [hTe] at hb ⊢
          obtain ⟨c1, c2⟩ := gc_cap_small hb
          rw [c1]
          have := b2 (by omega)
          show gc_pt T G (fun _ => true) (gg_l G r) (nt_ln q.1) r + nt_nb T (gg_y G r) q.1 (nt_ln q.1) < _
          omega
      · exact hv e (a4 e z)
    · show nt_ln q.1 + gd_ln q.2 = _
      omega
    · show q.2.length + 1 ≤ P.length + 1
      omega
theorem nt_nf_ok {T : Nat → Nat → Nat} {G : gg_R} {N : Nat} (hG : gg_ok G) (hok : gd_ok G T N) : ∀ (rs : List Nat) (P : List (Nat × Nat × Nat)), (∀ r, r ∈ rs → r < G.length) → nt_nf T G rs = some P → nt_tt G rs < N → (∀ e, e ∈ P → nt_v T e) ∧ gd_ln P = nt_tt G rs ∧ P.length ≤ rs.length
  | [], P, _, h, _ => by
    injection h with h
    subst h
    exact ⟨fun e he => absurd he List.not_mem_nil, rfl, Nat.le_refl 0⟩
  | r :: rs, P, hr, h, hN => by
    have h : (match nt_nf T G rs with | none => none | some P => nt_fd T G r P) = some P := h
    have hN : nt_tm (gg_y G r) + nt_tt G rs < N := hN
    cases hq : nt_nf T G rs with
    | none => rw [hq] at h; cases h
    | some Q =>
      rw [hq] at h
      obtain ⟨a1, a2, a3⟩ := nt_nf_ok hG hok rs Q (fun x hx => hr x (List.mem_cons_of_mem _ hx)) hq (by omega)
      obtain ⟨b1, b2, b3, -⟩ := nt_fd_ok hG (hr r List.mem_cons_self) hok h a1 (by omega)
      refine ⟨b1, ?_, ?_⟩
      · show _ = nt_tm (gg_y G r) + nt_tt G rs
        omega
      · show _ ≤ rs.length + 1
        omega
theorem nt_nf_none {T : Nat → Nat → Nat} {G : gg_R} : ∀ (i : Nat) (rs : List Nat), nt_nf T G (rs.drop i) = none → nt_nf T G rs = none
  | 0, _, h => h
  | i + 1, [], h => h
  | i + 1, r :: rs, h => by
    have := nt_nf_none i rs h
    show (match nt_nf T G rs with | none => none | some P => nt_fd T G r P) = none
    rw [this]
theorem nt_tt_drop {G : gg_R} : ∀ (i : Nat) (rs : List Nat), nt_tt G (rs.drop i) ≤ nt_tt G rs
  | 0, _ => Nat.le_refl _
  | i + 1, [] => Nat.le_refl _
  | i + 1, r :: rs => by
    have := nt_tt_drop (G := G) i rs
    show nt_tt G (rs.drop i) ≤ nt_tm (gg_y G r) + nt_tt G rs
    omega
section NTC
variable {T T' : Nat → Nat → Nat} {M : Nat}
theorem nt_nb_eq (hT : ∀ x p, x < 8 → p ≤ M → T x p = T' x p) : ∀ (ys : List Nat) (ps : List (Nat × Nat)) (n : Nat), nt_ln ps = n → n ≤ M → nt_nb T ys ps n = nt_nb T' ys ps n
  | [], _, _, _, _ => rfl
  | _ :: _, [], _, _, _ => rfl
  | s :: ys, q :: ps, n, hn, h => by
    have hn : q.1 + nt_ln ps = n := hn
    show gc_sum (fun p => gd_w T s ys n p) q.1 + q.2 * gc_E T ys (n - q.1) + nt_nb T ys ps (n - q.1) = gc_sum (fun p => gd_w T' s ys n p) q.1 + q.2 * gc_E T' ys (n - q.1) + nt_nb T' ys ps (n - q.1)
    rw [gc_sum_congr q.1 (fun p hp => gd_w_eq hT s ys n p h (by omega)), gc_E_upto ys (n - q.1) (fun x p hx hp => hT x p hx (by omega)), nt_nb_eq hT ys ps (n - q.1) (by omega) (by omega)]
theorem nt_fd_eq (hT : ∀ x p, x < 8 → p ≤ M → T x p = T' x p) {G : gg_R} {r : Nat} {P : List (Nat × Nat × Nat)} (h : gd_ln P + nt_tm (gg_y G r) ≤ M) : nt_fd T G r P = nt_fd T' G r P := by
  unfold nt_fd
  cases hq : nt_tk (gg_y G r) P with
  | none => rfl
  | some q =>
    obtain ⟨a1, a2, a3, a4⟩ := nt_tk_ok (T := T) _ _ _ _ hq
    show some ((gg_l G r, nt_ln q.1, gc_pt T G (fun _ => true) (gg_l G r) (nt_ln q.1) r + nt_nb T (gg_y G r) q.1 (nt_ln q.1)) :: q.2) = some ((gg_l G r, nt_ln q.1, gc_pt T' G (fun _ => true) (gg_l G r) (nt_ln q.1) r + nt_nb T' (gg_y G r) q.1 (nt_ln q.1)) :: q.2)
    rw [gc_pt_upto (T := T) (T' := T') (fun x p hx hp => hT x p hx (by omega)), nt_nb_eq hT _ _ (nt_ln q.1) rfl (by omega)]
theorem nt_nf_eq (hT : ∀ x p, x < 8 → p ≤ M → T x p = T' x p) {G : gg_R} {N : Nat} (hG : gg_ok G) (hok : gd_ok G T N) (hMN : M < N) : ∀ rs : List Nat, (∀ r, r ∈ rs → r < G.length) → nt_tt G rs ≤ M → nt_nf T G rs = nt_nf T' G rs
  | [], _, _ => rfl
  | r :: rs, hr, h => by
    have h : nt_tm (gg_y G r) + nt_tt G rs ≤ M := h
    have ih := nt_nf_eq hT hG hok hMN rs (fun x hx => hr x (List.mem_cons_of_mem _ hx)) (by omega)
    show (match nt_nf T G rs with | none => none | some P => nt_fd T G r P) = (match nt_nf T' G rs with | none => none | some P => nt_fd T' G r P)
    rw [← ih]
    cases hq : nt_nf T G rs with
    | none => rfl
    | some P =>
      obtain ⟨a1, a2, a3⟩ := nt_nf_ok hG hok rs P (fun x hx => hr x (List.mem_cons_of_mem _ hx)) hq (by omega)
      exact nt_fd_eq hT (by omega)
end NTC
/-- the list is rules, short enough, and the row of the tree with the number m among those of A -/
def an_nr (G : gg_R) (A : Nat) (l : List Int32) (m : Nat) : Prop := ∃ rs T D o N, l = rs.map nI ∧ (∀ r, r ∈ rs → r < G.length) ∧ nt_tt G rs ≤ 16 ∧ gm_L G D ∧ gg_ord (gg_to G D) o 8 ∧ gc_okk (fun y => D y = some 0) G (fun _ => true) T N ∧ nt_tt G rs < N ∧ T A (nt_tt G rs) ≤ 1000000000000000000 ∧ nt_nf T G rs = some [(A, nt_tt G rs, m)]
theorem nI_map_inj {G : gg_R} (hG : G.length ≤ 24) : ∀ (a b : List Nat), (∀ r, r ∈ a → r < G.length) → (∀ r, r ∈ b → r < G.length) → a.map nI = b.map nI → a = b
  | [], [], _, _, _ => rfl
  | [], _ :: _, _, _, h => by cases h
  | _ :: _, [], _, _, h => by cases h
  | x :: a, y :: b, ha, hb, h => by
    injection h with h1 h2
    have hx := ha x List.mem_cons_self
    have hy := hb y List.mem_cons_self
    rw [(nI_eq (by omega) (by omega)).mp h1, nI_map_inj hG a b (fun r hr => ha r (List.mem_cons_of_mem _ hr)) (fun r hr => hb r (List.mem_cons_of_mem _ hr)) h2]
theorem an_nr_one {G : gg_R} {A m m' : Nat} {l : List Int32} (hG : gg_ok G) (h : an_nr G A l m) (h' : an_nr G A l m') : m = m' := by
  obtain ⟨rs, T, D, o, N, h1, h2, h3, h4, h5, h6, h7, h8, h9⟩ := h
  obtain ⟨rs', T', D', o', N', g1, g2, g3, g4, g5, g6, g7, g8, g9⟩ := h'
  have e : rs = rs' := nI_map_inj hG.1 rs rs' h2 g2 (h1.symm.trans g1)
  subst e
  have hT : ∀ x p, x < 8 → p ≤ nt_tt G rs → T x p = T' x p := fun x p hx hp => gc_two hG h4 g4 h5 h6 g6 p (by omega) (by omega) x hx
  rw [nt_nf_eq hT hG h6.1 h7 rs h2 (Nat.le_refl _), g9] at h9
  injection h9 with h9
  injection h9 with h9 _
  injection h9 with _ h9
  injection h9 with _ h9
  exact h9.symm
