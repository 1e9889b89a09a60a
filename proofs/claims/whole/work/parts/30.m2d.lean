/-! Layer 2 of the reference, part d: shortestWith. -/
def gm_B (G : gg_R) (D : Nat → Option Nat) (q : Nat) : gg_R := (match gg_sum D (gg_y G q) with | some a => [(gg_l G q, List.replicate a 8)] | none => []) ++ (List.range G.length).flatMap (fun r => (List.range (gg_y G r).length).filterMap (fun i => if (gg_y G r).getD i 0 < 8 then (gg_but D (nI i) 0 (gg_y G r)).map (fun w => (gg_l G r, (gg_y G r).getD i 0 :: List.replicate w 8)) else none))
/-- A's rule has x, with w beside it -/
def gm_e (G : gg_R) (D : Nat → Option Nat) (A x w : Nat) : Prop := ∃ r i, r < G.length ∧ i < (gg_y G r).length ∧ gg_l G r = A ∧ (gg_y G r).getD i 0 = x ∧ x < 8 ∧ gg_but D (nI i) 0 (gg_y G r) = some w
theorem gm_B_mem {G : gg_R} {D : Nat → Option Nat} {q : Nat} {z : Nat × List Nat} : z ∈ gm_B G D q ↔ (∃ a, gg_sum D (gg_y G q) = some a ∧ z = (gg_l G q, List.replicate a 8)) ∨ ∃ A x w, gm_e G D A x w ∧ z = (A, x :: List.replicate w 8) := by
  unfold gm_B
  rw [List.mem_append, List.mem_flatMap]
  refine or_congr ?_ ?_
  · cases gg_sum D (gg_y G q) with
    | none => exact ⟨fun h => absurd h List.not_mem_nil, fun ⟨a, h, _⟩ => by cases h⟩
    | some a => exact ⟨fun h => ⟨a, rfl, List.mem_singleton.mp h⟩, fun ⟨b, h1, h2⟩ => by injection h1 with h1; rw [h1, h2]; exact List.mem_singleton.mpr rfl⟩
  · constructor
    · rintro ⟨r, hr, h⟩
      rw [List.mem_filterMap] at h
      obtain ⟨i, hi, h⟩ := h
      split at h
      · rename_i hs
        cases hb : gg_but D (nI i) 0 (gg_y G r) with
        | none => rw [hb] at h; cases h
        | some w =>
          rw [hb] at h
          injection h with h
          exact ⟨_, _, w, ⟨r, i, List.mem_range.mp hr, List.mem_range.mp hi, rfl, rfl, hs, hb⟩, h.symm⟩
      · cases h
    · rintro ⟨A, x, w, ⟨r, i, hr, hi, e1, e2, hs, hb⟩, rfl⟩
      refine ⟨r, List.mem_range.mpr hr, List.mem_filterMap.mpr ⟨i, List.mem_range.mpr hi, ?_⟩⟩
      rw [e2, if_pos hs, hb, e1]
      rfl
/-- a way of k steps from A down to x, with w beside it -/
def gm_p (G : gg_R) (D : Nat → Option Nat) : Nat → Nat → Nat → Nat → Prop
  | 0, A, x, w => A = x ∧ w = 0
  | k + 1, A, x, w => ∃ B u v, gm_e G D A B u ∧ gm_p G D k B x v ∧ w = u + v
theorem gm_p_snoc {G : gg_R} {D : Nat → Option Nat} : ∀ (k A x y u v : Nat), gm_p G D k A x u → gm_e G D x y v → gm_p G D (k + 1) A y (u + v)
  | 0, A, x, y, u, v, h, he => by
    obtain ⟨h1, h2⟩ := h
    subst h1
    exact ⟨y, v, 0, he, ⟨rfl, rfl⟩, by omega⟩
  | k + 1, A, x, y, u, v, h, he => by
    obtain ⟨B, a, b, h1, h2, h3⟩ := h
    exact ⟨B, a, b + v, h1, gm_p_snoc k B x y b v h2 he, by omega⟩
theorem gm_p_last {G : gg_R} {D : Nat → Option Nat} : ∀ (k A x w : Nat), gm_p G D (k + 1) A x w → ∃ B u v, gm_p G D k A B u ∧ gm_e G D B x v ∧ w = u + v
  | 0, A, x, w, h => by
    obtain ⟨B, u, v, h1, ⟨h2, h3⟩, h4⟩ := h
    subst h2
    exact ⟨A, 0, u, ⟨rfl, rfl⟩, h1, by omega⟩
  | k + 1, A, x, w, h => by
    obtain ⟨B, u, v, h1, h2, h3⟩ := h
    obtain ⟨C, a, b, g1, g2, g3⟩ := gm_p_last k B x v h2
    exact ⟨C, u + a, b, ⟨B, u, a, h1, g1, rfl⟩, g2, by omega⟩
theorem gm_e_lt {G : gg_R} {D : Nat → Option Nat} {A x w : Nat} (hG : gg_ok G) (h : gm_e G D A x w) : A < 8 ∧ x < 8 := by
  obtain ⟨r, i, hr, hi, e1, e2, hx, hb⟩ := h
  exact ⟨e1 ▸ (hG.2 r hr).1, hx⟩
theorem gm_A_p {G : gg_R} {D : Nat → Option Nat} (hG : gg_ok G) : ∀ (k x m : Nat), gm_D (gm_A G D) k x m → ∃ j, gm_p G D j 0 x m
  | 0, x, m, h => h.elim
  | k + 1, x, m, h => by
    obtain ⟨z, h1, h2, h3⟩ := h
    rcases gm_A_mem.mp h1 with e | ⟨r, i, w, hr, hi, hx, hw, e⟩
    · subst e
      exact ⟨0, h2, h3⟩
    · subst e
      obtain ⟨a, g1, g2⟩ := (gm_S_arw (hG.2 r hr).1).mp h3
      obtain ⟨j, hj⟩ := gm_A_p hG k _ a g1
      have h2 : (gg_y G r).getD i 0 = x := h2
      rw [g2]
      exact ⟨j + 1, gm_p_snoc j 0 _ x a w hj ⟨r, i, hr, hi, rfl, h2, h2 ▸ hx, hw⟩⟩
theorem gm_p_A {G : gg_R} {D : Nat → Option Nat} (hG : gg_ok G) : ∀ (j x m : Nat), gm_p G D j 0 x m → gm_D (gm_A G D) (j + 1) x m
  | 0, x, m, h => by
    obtain ⟨h1, h2⟩ := h
    exact ⟨(0, []), gm_A_mem.mpr (Or.inl rfl), h1, h2⟩
  | j + 1, x, m, h => by
    obtain ⟨B, u, v, h1, ⟨r, i, hr, hi, e1, e2, hx, hw⟩, h3⟩ := gm_p_last j 0 x m h
    have hd := gm_p_A hG j B u h1
    rw [← e1] at hd
    exact ⟨_, gm_A_mem.mpr (Or.inr ⟨r, i, v, hr, hi, e2 ▸ hx, hw, rfl⟩), e2, (gm_S_arw (hG.2 r hr).1).mpr ⟨u, hd, h3⟩⟩
theorem gm_B_p {G : gg_R} {D : Nat → Option Nat} {q s : Nat} (hG : gg_ok G) (hs : gg_sum D (gg_y G q) = some s) : ∀ (k A m : Nat), gm_D (gm_B G D q) k A m → ∃ j p, gm_p G D j A (gg_l G q) p ∧ m = s + p
  | 0, A, m, h => h.elim
  | k + 1, A, m, h => by
    obtain ⟨z, h1, h2, h3⟩ := h
    rcases gm_B_mem.mp h1 with ⟨a, ha, e⟩ | ⟨B, x, w, he, e⟩
    · subst e
      rw [hs] at ha
      injection ha with ha
      have := (gm_S_rep a m).mp h3
      exact ⟨0, 0, ⟨h2.symm, rfl⟩, by omega⟩
    · subst e
      obtain ⟨a, g1, g2⟩ := (gm_S_arw (gm_e_lt hG he).2).mp h3
      obtain ⟨j, p, hj, hp⟩ := gm_B_p hG hs k x a g1
      have h2 : B = A := h2
      subst h2
      exact ⟨j + 1, w + p, ⟨x, w, p, he, hj, rfl⟩, by omega⟩
theorem gm_p_B {G : gg_R} {D : Nat → Option Nat} {q s : Nat} (hG : gg_ok G) (hs : gg_sum D (gg_y G q) = some s) : ∀ (j A p : Nat), gm_p G D j A (gg_l G q) p → gm_D (gm_B G D q) (j + 1) A (s + p)
  | 0, A, p, h => by
    obtain ⟨h1, h2⟩ := h
    refine ⟨_, gm_B_mem.mpr (Or.inl ⟨s, hs, rfl⟩), h1.symm, ?_⟩
    rw [h2]
    exact (gm_S_rep s _).mpr rfl
  | j + 1, A, p, h => by
    obtain ⟨B, u, v, h1, h2, h3⟩ := h
    exact ⟨_, gm_B_mem.mpr (Or.inr ⟨A, B, u, h1, rfl⟩), rfl, (gm_S_arw (gm_e_lt hG h1).2).mpr ⟨s + v, gm_p_B hG hs j B v h2, by omega⟩⟩
theorem gm_B_no {G : gg_R} {D : Nat → Option Nat} {q : Nat} (hG : gg_ok G) (hs : gg_sum D (gg_y G q) = none) : ∀ (k A m : Nat), ¬ gm_D (gm_B G D q) k A m
  | 0, A, m => fun h => h.elim
  | k + 1, A, m => fun h => by
    obtain ⟨z, h1, h2, h3⟩ := h
    rcases gm_B_mem.mp h1 with ⟨a, ha, e⟩ | ⟨B, x, w, he, e⟩
    · rw [hs] at ha
      cases ha
    · subst e
      obtain ⟨a, g1, g2⟩ := (gm_S_arw (gm_e_lt hG he).2).mp h3
      exact gm_B_no hG hs k x a g1
theorem gm_AB {G : gg_R} {D O W : Nat → Option Nat} {q : Nat} (hG : gg_ok G) (hq : q < G.length) (hO : gm_L (gm_A G D) O) (hW : gm_L (gm_B G D q) W) : W 0 = gg_add (gg_sum D (gg_y G q)) (O (gg_l G q)) := by
  have hl8 := (hG.2 q hq).1
  cases hs : gg_sum D (gg_y G q) with
  | none =>
    cases hw : W 0 with
    | none => rfl
    | some m =>
      obtain ⟨⟨k, hk⟩, -⟩ := (hW 0 (by decide) m).mp hw
      exact absurd hk (gm_B_no hG hs k 0 m)
  | some s =>
    cases ho : O (gg_l G q) with
    | none =>
      cases hw : W 0 with
      | none => rfl
      | some m =>
        obtain ⟨⟨k, hk⟩, -⟩ := (hW 0 (by decide) m).mp hw
        obtain ⟨j, p, hj, -⟩ := gm_B_p hG hs k 0 m hk
        obtain ⟨m', hm', -⟩ := gm_V_ex (gm_p_A hG j _ p hj)
        have := (hO _ hl8 m').mpr hm'
        rw [ho] at this
        cases this
    | some o =>
      obtain ⟨⟨k, hk⟩, hmin⟩ := (hO _ hl8 o).mp ho
      obtain ⟨j, hj⟩ := gm_A_p hG k _ o hk
      show W 0 = some (s + o)
      refine (hW 0 (by decide) _).mpr ⟨⟨j + 1, gm_p_B hG hs j 0 o hj⟩, fun k2 n hn => ?_⟩
      obtain ⟨j2, p, hj2, hp⟩ := gm_B_p hG hs k2 0 n hn
      have := hmin _ p (gm_p_A hG j2 _ p hj2)
      omega
/-- W knows what the places before (r, i) give, out of height k -/
def gm_bn (G : gg_R) (D : Nat → Option Nat) (q k r i : Nat) (W : Nat → Option Nat) : Prop := ∀ r' i', (r' < r ∨ (r' = r ∧ i' < i)) → r' < G.length → i' < (gg_y G r').length → (gg_y G r').getD i' 0 < 8 → ∀ a w, gm_D (gm_B G D q) k ((gg_y G r').getD i' 0) a → gg_but D (nI i') 0 (gg_y G r') = some w → ∃ n, n ≤ a + w ∧ W (gg_l G r') = some n
theorem gm_bn.mono {G : gg_R} {D W W' : Nat → Option Nat} {q k r i : Nat} (hl : gg_le W' W) (h : gm_bn G D q k r i W) : gm_bn G D q k r i W' := fun r' i' a1 a2 a3 a4 a w a5 a6 => by
  obtain ⟨n, h1, h2⟩ := h r' i' a1 a2 a3 a4 a w a5 a6
  obtain ⟨n', h3, h4⟩ := hl _ n h2
  exact ⟨n', by omega, h4⟩
theorem gm_bn.next {G : gg_R} {D W : Nat → Option Nat} {q k : Nat} (hG : gg_ok G) (hc : gm_cpl (gm_B G D q) (k + 1) W) (h : gm_bn G D q (k + 1) G.length 0 W) : gm_cpl (gm_B G D q) (k + 1 + 1) W := fun A m hd => by
  obtain ⟨z, h1, h2, h3⟩ := hd
  rcases gm_B_mem.mp h1 with ⟨a, ha, e⟩ | ⟨B, x, w, he, e⟩
  · refine hc A m ⟨z, h1, h2, ?_⟩
    subst e
    exact (gm_S_rep a m).mpr ((gm_S_rep a m).mp h3)
  · subst e
    obtain ⟨a, g1, g2⟩ := (gm_S_arw (gm_e_lt hG he).2).mp h3
    obtain ⟨r, i, hr, hi, e1, e2, hx, hw⟩ := he
    have h2 : B = A := h2
    rw [← e2] at g1
    obtain ⟨n, n1, n2⟩ := h r i (Or.inl hr) hr hi (e2 ▸ hx) a w g1 hw
    rw [e1, h2] at n2
    exact ⟨n, by omega, n2⟩
def an_withB (G : gg_R) (q : Nat) (r : Int32) : Prop := ∃ D W, gm_L G D ∧ gm_L (gm_B G D q) W ∧ r = gg_o (W 0)
theorem gg_sum_congr {D D' : Nat → Option Nat} (h : ∀ A, A < 8 → D A = D' A) : ∀ zs : List Nat, gg_sum D zs = gg_sum D' zs
  | [] => rfl
  | s :: zs => by
    show gg_add (gg_len D s) (gg_sum D zs) = gg_add (gg_len D' s) (gg_sum D' zs)
    have hl : gg_len D s = gg_len D' s := by
      unfold gg_len
      split
      · exact h s (by assumption)
      · rfl
    rw [gg_sum_congr h zs, hl]
theorem gm_A_congr {G : gg_R} {D D' : Nat → Option Nat} (h : ∀ A, A < 8 → D A = D' A) : gm_A G D = gm_A G D' := by
  unfold gm_A
  have e : gg_but D = gg_but D' := funext fun x => funext fun i => funext fun zs => gg_but_congr h zs i
  rw [e]
theorem an_with_eq {G : gg_R} {q : Nat} {r r' : Int32} (hG : gg_ok G) (hq : q < G.length) (h : an_with G q r) (h' : an_withB G q r') : r = r' := by
  obtain ⟨D, O, h1, h2, h3⟩ := h
  obtain ⟨D', W, g1, g2, g3⟩ := h'
  have hD := gm_L_eq h1 g1
  rw [gm_A_congr hD] at h2
  rw [h3, g3, gm_AB hG hq h2 g2, gg_sum_congr hD]
theorem an_short_eq {G : gg_R} {A : Nat} {r r' : Int32} (hA : A < 8) (h : an_short G A r) (h' : an_short G A r') : r = r' := by
  obtain ⟨D, h1, -, h3⟩ := h
  obtain ⟨D', g1, -, g3⟩ := h'
  rw [h3, g3, gm_L_eq h1 g1 A hA]
section M2D
variable {G : gg_R} {σ : gs_St} {t : List Nat} {l : List Int32} {d v : List Nat}
theorem n_shortestWith {x : Int32} {K : Int32 → gs_St → Prop} (h : ml_at t G l d v σ) (k0 : (∀ q, q < G.length → x ≠ nI q) → K (-1) σ) (k1 : ∀ q, q < G.length → x = nI q → ∀ r τ, ml_at t G l d v τ → an_withB G q r → K r τ) : C_Mo_shortestWith x σ K := by
  intro X16 X56 X64 X75 h16 h56 h64 h75
  refine n_isRule h.2.1 (fun q hq e => ?_) (fun hno => br_f (fun z => z rfl) (k0 hno))
  subst e
  refine br_t (by decide) (n_shorten h.2.1 (fun D f hf hL hbd => ?_))
  have hG := h.2.1.1.1
  obtain ⟨hl8q, hzq, h24q⟩ := h.2.1.1.2 q hq
  have gr : ∀ g, mr_at G (gs_L (gs_L σ 0 f) 1 g) := fun g => h.2.1.of rfl rfl rfl rfl
  have gD : ∀ g, me_at D (gs_L (gs_L σ 0 f) 1 g) := fun g => hf
  have hml : ∀ g, ml_at t G l d v (gs_L (gs_L σ 0 f) 1 g) := fun g => ⟨h.1.of rfl rfl, h.2.1.of rfl rfl rfl rfl, h.2.2.1.of rfl rfl, h.2.2.2.1.of rfl rfl rfl rfl, h.2.2.2.2.elim Or.inl (fun z => Or.inr ⟨z.1, z.2.of rfl rfl⟩)⟩
  have rounds : ∀ (n k : Nat) (W : Nat → Option Nat) (g : Nat → Int64), k + n = 8 → (∀ A, A < 8 → g A = lN (mo (W A))) → gg_sb gg_b2 W → gm_snd (gm_B G D q) W → gm_cpl (gm_B G D q) (k + 1) W → X56 (nI k) (gs_L (gs_L σ 0 f) 1 g) := by
    intro n
    induction n with
    | zero =>
      intro k W g hk hg hsb hsn hcp
      have hk : k = 8 := hk
      subst hk
      apply h56
      have v0 : vp_in (0 : Int32) 8 := vp_in_nI (n := 0) (by decide) (by decide)
      refine br_t (by decide) ⟨v0, ?_⟩
      have e0 : (gs_L (gs_L σ 0 f) 1 g).2.2 1 ((0 : Int32).toNatClampNeg) = lN (mo (W 0)) := hg 0 (by decide)
      rw [e0, gl_far]
      have hLW : gm_L (gm_B G D q) W := gm_L_of hsn (fun A m hd => hcp A m (gm_D_le hd (by omega)))
      have fin : ∀ r, r = gg_o (W 0) → K r (gs_L (gs_L σ 0 f) 1 g) := fun r hr => k1 q hq rfl r _ (hml g) ⟨D, W, hL, hLW, hr⟩
      have hbW := gg_sb_bd gg_b2_up hsb
      cases hd : W 0 with
      | none => exact br_t (by decide) (fin _ (by rw [hd]; rfl))
      | some m =>
        have hm := hbW 0 (by decide) m hd
        unfold gg_b2 at hm
        refine ek_if (pk_lLE (by decide) (show m < 2 ^ 63 by omega)) (fun z => absurd (show 1152921504606846976 ≤ m from z) (by omega)) (fun _ => ⟨v0, fin _ ?_⟩)
        rw [hd]
        exact lN_i m
    | succ n ih =>
      intro k W g hk hg hsb hsn hcp
      apply h56
      refine pk_le 8 k (fun z => absurd z (by omega)) (fun _ => ?_)
      have rules : ∀ (m r : Nat) (W : Nat → Option Nat) (g : Nat → Int64), r + m = G.length → (∀ A, A < 8 → g A = lN (mo (W A))) → gg_sb gg_b2 W → gm_snd (gm_B G D q) W → gm_cpl (gm_B G D q) (k + 1) W → gm_bn G D q (k + 1) r 0 W → X64 (nI k) (nI r) (gs_L (gs_L σ 0 f) 1 g) := by
        intro m
        induction m with
        | zero =>
          intro r W g hr hg hsb hsn hcp hbn
          have hr : r = G.length := hr
          subst hr
          apply h64
          exact pk_le G.length G.length (fun _ => nm_r (nI_1 k) (ih (k + 1) W g (by omega) hg hsb hsn (hbn.next h.2.1.1 hcp))) (fun z => absurd z (by omega)) h.2.1.2.1
        | succ m ihm =>
          intro r W g hr hg hsb hsn hcp hbn
          have hr' : r < G.length := by omega
          obtain ⟨hl8, hz, h24⟩ := h.2.1.1.2 r hr'
          apply h64
          refine pk_le G.length r (fun z => absurd z (by omega)) (fun _ => ?_) h.2.1.2.1
          have hvr : vp_in (nI r) 24 := vp_in_nI (by omega) (by decide)
          have hv8 : vp_in (nI (gg_l G r)) 8 := vp_in_nI hl8 (by decide)
          have places : ∀ (m2 i : Nat) (W : Nat → Option Nat) (g : Nat → Int64), i + m2 = (gg_y G r).length → (∀ A, A < 8 → g A = lN (mo (W A))) → gg_sb gg_b2 W → gm_snd (gm_B G D q) W → gm_cpl (gm_B G D q) (k + 1) W → gm_bn G D q (k + 1) r i W → X75 (nI k) (nI r) (nI i) (gs_L (gs_L σ 0 f) 1 g) := by
            intro m2
            induction m2 with
            | zero =>
              intro i W g hi hg hsb hsn hcp hbn
              have hi : i = (gg_y G r).length := hi
              apply h75
              refine ⟨hvr, ?_⟩
              have e1 : (gs_L (gs_L σ 0 f) 1 g).2.1 1 r = nI (gg_y G r).length := (h.2.1.2.2 r hr').2.1
              rw [nI_clamp (by omega), e1]
              refine pk_le (gg_y G r).length i (fun _ => nm_r (nI_1 r) (ihm (r + 1) W g (by omega) hg hsb hsn hcp (fun r' i' a1 a2 a3 a4 a w a5 a6 => ?_))) (fun z => absurd z (by omega))
              rcases a1 with z | ⟨z1, z2⟩
              · by_cases er : r' = r
                · refine hbn r' i' (Or.inr ⟨er, ?_⟩) a2 a3 a4 a w a5 a6
                  rw [er] at a3
                  omega
                · exact hbn r' i' (Or.inl (by omega)) a2 a3 a4 a w a5 a6
              · exact absurd z2 (Nat.not_lt_zero _)
            | succ m2 ihp =>
              intro i W g hi hg hsb hsn hcp hbn
              have hi' : i < (gg_y G r).length := by omega
              have h24i := h24 i hi'
              apply h75
              refine ⟨hvr, ?_⟩
              have e1 : (gs_L (gs_L σ 0 f) 1 g).2.1 1 r = nI (gg_y G r).length := (h.2.1.2.2 r hr').2.1
              have e0 : (gs_L (gs_L σ 0 f) 1 g).2.1 0 r = nI (gg_l G r) := (h.2.1.2.2 r hr').1
              rw [nI_clamp (by omega), e1]
              refine pk_le (gg_y G r).length i (fun z => absurd z (by omega)) (fun _ => ?_)
              refine n_at (gr g) hr' hi' ?_
              refine n_isNtN (by omega) (fun hx => br_f (by decide) ?_) (fun hx => br_t rfl (nm_r (nI_1 i) (ihp (i + 1) W g (by omega) hg hsb hsn hcp (fun r' i' a1 a2 a3 a4 a w a5 a6 => ?_))))
              · refine n_leastBut (D := D) (gr g) hr' (gD g) hbd ?_
                refine n_at (gr g) hr' hi' ⟨vp_in_nI hx (by decide), ?_⟩
                have ew : (gs_L (gs_L σ 0 f) 1 g).2.2 1 ((gg_y G r).getD i 0) = lN (mo (W ((gg_y G r).getD i 0))) := hg _ hx
                have el : (gs_L (gs_L σ 0 f) 1 g).2.2 1 (gg_l G r) = lN (mo (W (gg_l G r))) := hg _ hl8
                rw [nI_clamp (by omega), ew]
                refine nm_r (lN_add _ _) ?_
                rw [e0, nI_clamp (by omega), el]
                have hbW := gg_sb_bd gg_b2_up hsb
                have hc8 := gg_cnt_le W 8
                have hWb : ∀ B, B < 8 → ∀ n, W B = some n → n ≤ 80621568 := fun B hB n hn => hbW B hB n hn
                have hbu : ∀ w, gg_but D (nI i) 0 (gg_y G r) = some w → w ≤ 10077696 := fun w hw => Nat.le_trans (gg_but_le hbd (by decide) _ _ _ hw) (Nat.le_trans (Nat.mul_le_mul_right _ hz) (by decide))
                have m1 : mo (W (gg_l G r)) ≤ 1152921504606846976 := mo_le (fun n hn => by have := hWb _ hl8 n hn; omega)
                have m2' : mo (W ((gg_y G r).getD i 0)) ≤ 1152921504606846976 := mo_le (fun n hn => by have := hWb _ hx n hn; omega)
                have m3 : mo (gg_but D (nI i) 0 (gg_y G r)) ≤ 1152921504606846976 := mo_le (fun n hn => by have := hbu n hn; omega)
                -- W after this place
                have next : ∀ (W' : Nat → Option Nat) (g2 : Nat → Int64), (∀ B, B < 8 → g2 B = lN (mo (W' B))) → gg_sb gg_b2 W' → gg_le W' W → gm_snd (gm_B G D q) W' → (∀ a w, gm_D (gm_B G D q) (k + 1) ((gg_y G r).getD i 0) a → gg_but D (nI i) 0 (gg_y G r) = some w → ∃ n, n ≤ a + w ∧ W' (gg_l G r) = some n) → ∀ v7 : Int32, v7 = nI i + 1 → X75 (nI k) (nI r) v7 (gs_L (gs_L σ 0 f) 1 g2) := by
                  intro W' g2 hg2 hsb2 hle2 hsn2 hnew
                  refine nm_r (nI_1 i) (ihp (i + 1) W' g2 (by omega) hg2 hsb2 hsn2 (hcp.mono hle2) (fun r' i' a1 a2 a3 a4 a w a5 a6 => ?_))
                  by_cases er : r' = r ∧ i' = i
                  · obtain ⟨er1, er2⟩ := er
                    subst er1
                    subst er2
                    exact hnew a w a5 a6
                  · exact (hbn.mono hle2) r' i' (by omega) a2 a3 a4 a w a5 a6
                have keep : ∀ τ : gs_St, τ = gs_L (gs_L (gs_L σ 0 f) 1 g) 1 (vp_updL ((gs_L (gs_L σ 0 f) 1 g).2.2 1) (gg_l G r) (lN (mo (W (gg_l G r))))) → (∀ a w, gm_D (gm_B G D q) (k + 1) ((gg_y G r).getD i 0) a → gg_but D (nI i) 0 (gg_y G r) = some w → ∃ n, n ≤ a + w ∧ W (gg_l G r) = some n) → ∀ v7 : Int32, v7 = nI i + 1 → X75 (nI k) (nI r) v7 τ := by
                  intro τ hτ hnew
                  rw [gs_LL] at hτ
                  rw [hτ]
                  refine next W _ (fun B hB => ?_) hsb gg_le.rfl' hsn hnew
                  show (if B = gg_l G r then lN (mo (W (gg_l G r))) else g B) = _
                  by_cases z : B = gg_l G r
                  · rw [if_pos z, z]
                  · rw [if_neg z]
                    exact hg B hB
                cases hw : gg_but D (nI i) 0 (gg_y G r) with
                | none =>
                  refine ⟨hvr, hvr, hv8, ek_if (pk_lLE (by omega) (by rw [hw] at m3; omega)) (fun z => ⟨hvr, hv8, hv8, fun τ hτ => keep τ hτ (fun a w _ e => by rw [hw] at e; cases e)⟩) (fun z => absurd ?_ z)⟩
                  show mo (W (gg_l G r)) ≤ 1152921504606846976 + _
                  omega
                | some w =>
                  have hw6 := hbu w hw
                  cases hWx : W ((gg_y G r).getD i 0) with
                  | none =>
                    refine ⟨hvr, hvr, hv8, ek_if (pk_lLE (by omega) (by show w + 1152921504606846976 < _; omega)) (fun z => ⟨hvr, hv8, hv8, fun τ hτ => keep τ hτ (fun a w' ha e => ?_)⟩) (fun z => absurd ?_ z)⟩
                    · obtain ⟨n', -, e2⟩ := hcp _ a ha
                      rw [hWx] at e2
                      cases e2
                    · show mo (W (gg_l G r)) ≤ w + 1152921504606846976
                      omega
                  | some u =>
                    have hu := hsb _ hx u hWx
                    have hnew : w + u ≤ gg_b2 (gg_cnt W 8 + 1) := by
                      unfold gg_b2 at hu ⊢
                      omega
                    have hnb : w + u < 1152921504606846976 := by
                      unfold gg_b2 at hu
                      omega
                    obtain ⟨l1, l2⟩ := mo_low (W := W) (A := gg_l G r) (o := some (w + u)) (fun n hn => by have := hWb _ hl8 n hn; omega) (fun n hn => by injection hn with hn; omega)
                    have hsd : gm_snd (gm_B G D q) (gg_low W (gg_l G r) (some (w + u))) := gg_low_snd hsn (fun n hn => by
                      injection hn with hn
                      obtain ⟨k2, hk2⟩ := hsn _ u hWx
                      exact ⟨k2 + 1, _, gm_B_mem.mpr (Or.inr ⟨_, _, w, ⟨r, i, hr', hi', rfl, rfl, hx, hw⟩, rfl⟩), rfl, (gm_S_arw hx).mpr ⟨u, hk2, by omega⟩⟩)
                    have hhit : ∀ a w', gm_D (gm_B G D q) (k + 1) ((gg_y G r).getD i 0) a → gg_but D (nI i) 0 (gg_y G r) = some w' → ∃ n, n ≤ a + w' ∧ gg_low W (gg_l G r) (some (w + u)) (gg_l G r) = some n := fun a w' ha e => by
                      rw [hw] at e
                      injection e with e
                      obtain ⟨n', n1, n2⟩ := hcp _ a ha
                      rw [hWx] at n2
                      injection n2 with n2
                      obtain ⟨n3, n4, n5⟩ := gg_low_hit (D := W) (A := gg_l G r) (n := w + u)
                      exact ⟨n3, by omega, n5⟩
                    refine ⟨hvr, hvr, hv8, ek_if (pk_lLE (by omega) (by show w + u < _; omega)) (fun z => ⟨hvr, hv8, hv8, fun τ hτ => ?_⟩) (fun z => ⟨hv8, fun τ hτ => ?_⟩)⟩
                    · refine keep τ hτ (fun a w' ha e => ?_)
                      obtain ⟨n3, n4, n5⟩ := hhit a w' ha e
                      rw [l1 z] at n5
                      exact ⟨n3, n4, n5⟩
                    · rw [gs_LL] at hτ
                      rw [hτ]
                      refine next (gg_low W (gg_l G r) (some (w + u))) _ (fun B hB => ?_) (gg_sb_low gg_b2_up hl8 hsb (fun n hn => by injection hn with hn; omega)) gg_low_le hsd hhit
                      rw [(l2 z).2 B]
                      show (if B = gg_l G r then lN (w + u) else g B) = lN (mo (if B = gg_l G r then some (w + u) else W B))
                      by_cases y : B = gg_l G r
                      · rw [if_pos y, if_pos y]
                        rfl
                      · rw [if_neg y, if_neg y]
                        exact hg B hB
              · by_cases er : r' = r ∧ i' = i
                · obtain ⟨er1, er2⟩ := er
                  subst er1
                  subst er2
                  omega
                · exact hbn r' i' (by omega) a2 a3 a4 a w a5 a6
          exact places (gg_y G r).length 0 W g (by omega) hg hsb hsn hcp hbn
      exact rules G.length 0 W g (by omega) hg hsb hsn hcp (fun r' i' a1 => by omega)
  have fill : ∀ (n i : Nat) (g : Nat → Int64), i + n = 8 → (∀ j, j < i → g j = lN 1152921504606846976) → X16 (nI q) (nI i) (gs_L (gs_L σ 0 f) 1 g) := by
    intro n
    induction n with
    | zero =>
      intro i g hi hg
      have hi : i = 8 := hi
      subst hi
      apply h16
      refine br_t (by decide) ⟨vp_in_nI (by omega) (by decide), ?_⟩
      have e0 : (gs_L (gs_L σ 0 f) 1 g).2.1 0 q = nI (gg_l G q) := (h.2.1.2.2 q hq).1
      rw [nI_clamp (by omega), e0]
      refine n_leastBut (D := D) (gr g) hq (gD g) hbd ⟨vp_in_nI hl8q (by decide), ?_⟩
      rw [nI_clamp (by omega), gg_but_no _ 0 (by omega)]
      intro τ hτ
      rw [gs_LL] at hτ
      rw [hτ]
      have hsb : ∀ s, gg_sum D (gg_y G q) = some s → s ≤ 10077696 := fun s hs => by
        rw [← gg_but_no _ 0 (by omega)] at hs
        exact Nat.le_trans (gg_but_le hbd (by decide) _ _ _ hs) (Nat.le_trans (Nat.mul_le_mul_right _ hzq) (by decide))
      refine rounds 8 0 (gg_up (fun _ => none) (gg_l G q) (gg_sum D (gg_y G q))) _ rfl (fun A hA => ?_) (fun A hA n hn => ?_) (fun A m hm => ?_) (fun A m hm => ?_)
      · show (if A = gg_l G q then lN (mo (gg_sum D (gg_y G q))) else g A) = lN (mo (if A = gg_l G q then gg_sum D (gg_y G q) else none))
        by_cases z : A = gg_l G q
        · rw [if_pos z, if_pos z]
        · rw [if_neg z, if_neg z]
          exact hg A hA
      · by_cases z : A = gg_l G q
        · subst z
          rw [gg_up_s] at hn
          have hs := hsb n hn
          have hcnt : gg_cnt (gg_up (fun _ => none) (gg_l G q) (gg_sum D (gg_y G q))) 8 = gg_cnt (fun _ => none) 8 + 1 := by
            rw [hn]
            exact gg_cnt_new rfl 8 hl8q
          rw [hcnt]
          unfold gg_b2
          have : gg_cnt (fun _ => none) 8 = 0 := rfl
          rw [this]
          omega
        · rw [gg_up_n z] at hn
          cases hn
      · by_cases z : A = gg_l G q
        · subst z
          rw [gg_up_s] at hm
          exact ⟨1, _, gm_B_mem.mpr (Or.inl ⟨m, hm, rfl⟩), rfl, (gm_S_rep m m).mpr rfl⟩
        · rw [gg_up_n z] at hm
          cases hm
      · obtain ⟨z, z1, z2, z3⟩ := hm
        rcases gm_B_mem.mp z1 with ⟨a, ha, e⟩ | ⟨B, x, w, he, e⟩
        · subst e
          have z2 : gg_l G q = A := z2
          subst z2
          have := (gm_S_rep a m).mp z3
          exact ⟨a, by omega, by rw [gg_up_s]; exact ha⟩
        · subst e
          obtain ⟨a, a1, a2⟩ := (gm_S_arw (gm_e_lt h.2.1.1 he).2).mp z3
          exact a1.elim
    | succ n ih =>
      intro i g hi hg
      apply h16
      refine pk_le 8 i (fun z => absurd z (by omega)) (fun _ => ⟨vp_in_nI (by omega) (by decide), ?_⟩)
      rw [nI_clamp (by omega)]
      intro τ hτ
      have e : τ = gs_L (gs_L σ 0 f) 1 (vp_updL g i (lN 1152921504606846976)) := by
        rw [hτ, gs_LL]
        rfl
      rw [e]
      refine nm_r (nI_1 i) (ih (i + 1) _ (by omega) (fun j hj => ?_))
      show (if j = i then lN 1152921504606846976 else g j) = _
      by_cases z : j = i
      · rw [if_pos z]
      · rw [if_neg z]
        exact hg j (by omega)
  have := fill 8 0 ((gs_L σ 0 f).2.2 1) rfl (fun j hj => absurd hj (Nat.not_lt_zero _))
  rw [gs_Lid] at this
  exact this
end M2D
