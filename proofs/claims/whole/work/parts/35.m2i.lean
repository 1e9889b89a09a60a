/-! Layer 2, part i of the reference: draw, of both. -/
/-- the number a is that of a tree: of j, of the length n -/
def an_dr (G : gg_R) (x y : Int32) (a : Int64) (j n m : Nat) (T : Nat → Nat → Nat) : Prop := x = nI j ∧ j < 8 ∧ y = nI n ∧ n ≤ 16 ∧ a = lN m ∧ m < 2 ^ 63 ∧ (∃ D o N, gm_L G D ∧ gg_ord (gg_to G D) o 8 ∧ gc_okk (fun y => D y = some 0) G (fun _ => true) T N ∧ n < N) ∧ T j n ≤ 1000000000000000000 ∧ m < T j n
theorem gd_pt_le {T : Nat → Nat → Nat} {s n : Nat} {ys : List Nat} : ∀ (k p m : Nat), (gd_pt T s ys n k p m).1 ≤ p + k
  | 0, p, m => Nat.le_refl p
  | k + 1, p, m => by
    show (if m < gd_w T s ys n p then (p, m) else gd_pt T s ys n k (p + 1) (m - gd_w T s ys n p)).1 ≤ p + (k + 1)
    split
    · show p ≤ _
      omega
    · have := gd_pt_le (T := T) (s := s) (n := n) (ys := ys) k (p + 1) (m - gd_w T s ys n p)
      omega
section GDC
variable {T T' : Nat → Nat → Nat} {M : Nat}
theorem gd_w_eq (hT : ∀ x p, x < 8 → p ≤ M → T x p = T' x p) (s : Nat) (ys : List Nat) (n p : Nat) (hn : n ≤ M) (hp : p ≤ n) : gd_w T s ys n p = gd_w T' s ys n p := by
  unfold gd_w
  have hF : gd_F T s p = gd_F T' s p := by
    unfold gd_F
    by_cases hs : s < 8
    · rw [if_pos hs, if_pos hs, hT s p hs (by omega)]
    · rw [if_neg hs, if_neg hs]
  rw [hF, gc_E_upto ys (n - p) (fun x q hx hq => hT x q hx (by omega))]
theorem gd_pt_eq (hT : ∀ x p, x < 8 → p ≤ M → T x p = T' x p) (s : Nat) (ys : List Nat) (n : Nat) (hn : n ≤ M) : ∀ (k p m : Nat), p + k = n → gd_pt T s ys n k p m = gd_pt T' s ys n k p m
  | 0, _, _, _ => rfl
  | k + 1, p, m, h => by
    show (if m < gd_w T s ys n p then (p, m) else gd_pt T s ys n k (p + 1) (m - gd_w T s ys n p)) = (if m < gd_w T' s ys n p then (p, m) else gd_pt T' s ys n k (p + 1) (m - gd_w T' s ys n p))
    rw [gd_w_eq hT s ys n p hn (by omega), gd_pt_eq hT s ys n hn k (p + 1) _ (by omega)]
theorem gd_sp_eq (hT : ∀ x p, x < 8 → p ≤ M → T x p = T' x p) : ∀ (ys : List Nat) (n m : Nat), n ≤ M → gd_sp T ys n m = gd_sp T' ys n m
  | [], _, _, _ => rfl
  | s :: ys, n, m, h => by
    show (s, (gd_pt T s ys n n 0 m).1, (gd_pt T s ys n n 0 m).2 / max 1 (gc_E T ys (n - (gd_pt T s ys n n 0 m).1))) :: gd_sp T ys (n - (gd_pt T s ys n n 0 m).1) ((gd_pt T s ys n n 0 m).2 % max 1 (gc_E T ys (n - (gd_pt T s ys n n 0 m).1))) = (s, (gd_pt T' s ys n n 0 m).1, (gd_pt T' s ys n n 0 m).2 / max 1 (gc_E T' ys (n - (gd_pt T' s ys n n 0 m).1))) :: gd_sp T' ys (n - (gd_pt T' s ys n n 0 m).1) ((gd_pt T' s ys n n 0 m).2 % max 1 (gc_E T' ys (n - (gd_pt T' s ys n n 0 m).1)))
    rw [gd_pt_eq hT s ys n h n 0 m (by omega), gc_E_upto ys (n - (gd_pt T' s ys n n 0 m).1) (fun x q hx hq => hT x q hx (by omega)), gd_sp_eq hT ys (n - (gd_pt T' s ys n n 0 m).1) _ (by omega)]
theorem gd_sp_le : ∀ (ys : List Nat) (n m : Nat) (e : Nat × Nat × Nat), e ∈ gd_sp T ys n m → e.2.1 ≤ n
  | [], _, _, _, h => absurd h List.not_mem_nil
  | s :: ys, n, m, e, h => by
    have hp := gd_pt_le (T := T) (s := s) (n := n) (ys := ys) n 0 m
    rcases List.mem_cons.mp h with z | z
    · rw [z]
      show (gd_pt T s ys n n 0 m).1 ≤ n
      omega
    · have := gd_sp_le ys _ _ e z
      omega
theorem gd_pk_eq (hT : ∀ x p, x < 8 → p ≤ M → T x p = T' x p) (G : gg_R) (A n : Nat) (hn : n ≤ M) : ∀ (k r m : Nat), gd_pk T G A n k r m = gd_pk T' G A n k r m
  | 0, _, _ => rfl
  | k + 1, r, m => by
    show (if gg_l G r = A then (if m < gc_E T (gg_y G r) n then some (r, m) else gd_pk T G A n k (r + 1) (m - gc_E T (gg_y G r) n)) else gd_pk T G A n k (r + 1) m) = (if gg_l G r = A then (if m < gc_E T' (gg_y G r) n then some (r, m) else gd_pk T' G A n k (r + 1) (m - gc_E T' (gg_y G r) n)) else gd_pk T' G A n k (r + 1) m)
    rw [gc_E_upto (gg_y G r) n (fun x q hx hq => hT x q hx (by omega)), gd_pk_eq hT G A n hn k (r + 1), gd_pk_eq hT G A n hn k (r + 1)]
theorem gd_res_eq (hT : ∀ x p, x < 8 → p ≤ M → T x p = T' x p) (G : gg_R) : ∀ (k : Nat) (p : List (Nat × Nat × Nat)) (R L : List Nat) (o : Option (List Nat × List Nat)), (∀ e, e ∈ p → e.2.1 ≤ M) → gd_res T G k p R L o → gd_res T' G k p R L o
  | 0, _, _, _, _, _, h => h.elim
  | _ + 1, [], _, _, _, _, h => h
  | k + 1, e :: p, R, L, o, hp, h => by
    have he := hp e List.mem_cons_self
    have h : if e.1 < 8 then ∃ q, gd_pk T G e.1 e.2.1 G.length 0 e.2.2 = some q ∧ (if R.length < 200 then gd_res T G k (gd_sp T (gg_y G q.1) e.2.1 q.2 ++ p) (R ++ [q.1]) L o else o = none) else gd_res T G k p R (L ++ [e.1]) o := h
    show if e.1 < 8 then ∃ q, gd_pk T' G e.1 e.2.1 G.length 0 e.2.2 = some q ∧ (if R.length < 200 then gd_res T' G k (gd_sp T' (gg_y G q.1) e.2.1 q.2 ++ p) (R ++ [q.1]) L o else o = none) else gd_res T' G k p R (L ++ [e.1]) o
    by_cases c : e.1 < 8
    · rw [if_pos c] at h ⊢
      obtain ⟨q, h1, h2⟩ := h
      refine ⟨q, by rw [← gd_pk_eq hT G e.1 e.2.1 he]; exact h1, ?_⟩
      by_cases c2 : R.length < 200
      · rw [if_pos c2] at h2 ⊢
        rw [← gd_sp_eq hT _ _ _ he]
        refine gd_res_eq hT G k _ _ _ _ (fun x hx => ?_) h2
        rcases List.mem_append.mp hx with z | z
        · have := gd_sp_le _ _ _ x z
          omega
        · exact hp x (List.mem_cons_of_mem _ z)
      · rw [if_neg c2] at h2 ⊢
        exact h2
    · rw [if_neg c] at h ⊢
      exact gd_res_eq hT G k _ _ _ _ (fun x hx => hp x (List.mem_cons_of_mem _ hx)) h
end GDC
/-- class and reference draw the same tree -/
theorem an_dr_one {G : gg_R} {x y : Int32} {a : Int64} {j n m j' n' m' : Nat} {T T' : Nat → Nat → Nat} {k k' : Nat} {o o' : Option (List Nat × List Nat)} (hG : gg_ok G) (h : an_dr G x y a j n m T) (h' : an_dr G x y a j' n' m' T') (hr : gd_res T G k [(j, n, m)] [] [] o) (hr' : gd_res T' G k' [(j', n', m')] [] [] o') : o = o' := by
  obtain ⟨h1, h2, h3, h4, h5, h6, ⟨D, od, N, h7, h8, h9, h10⟩, h11, h12⟩ := h
  obtain ⟨g1, g2, g3, g4, g5, g6, ⟨D', od', N', g7, g8, g9, g10⟩, g11, g12⟩ := h'
  have e1 : j = j' := (nI_eq (by omega) (by omega)).mp (h1.symm.trans g1)
  have e2 : n = n' := (nI_eq (by omega) (by omega)).mp (h3.symm.trans g3)
  have e3 : m = m' := (pk_lEQ h6 g6).mp (h5.symm.trans g5)
  subst e1
  subst e2
  subst e3
  have hT : ∀ x p, x < 8 → p ≤ n → T x p = T' x p := fun x p hx hp => gc_two hG h7 g7 h8 h9 g9 p (by omega) (by omega) x hx
  have := gd_res_eq hT G k _ _ _ _ (fun e he => by
    rcases List.mem_cons.mp he with z | z
    · rw [z]
      exact Nat.le_refl n
    · exact absurd z List.not_mem_nil) hr
  exact gd_res_one k k' _ _ _ _ _ this hr'
/-- where there is no such tree for one table, there is none for another -/
theorem an_dr_no {G : gg_R} {x y : Int32} {a : Int64} {D : Nat → Option Nat} {o : Nat → Nat} {T : Nat → Nat → Nat} {N j n : Nat} (hG : gg_ok G) (hx : x = nI j) (hj : j < 8) (hy : y = nI n) (hn : n ≤ 16) (hD : gm_L G D) (ho : gg_ord (gg_to G D) o 8) (hok : gc_okk (fun y => D y = some 0) G (fun _ => true) T N) (hnN : n < N) (hb : T j n ≤ 1000000000000000001) (hno : ¬ (¬ a < 0 ∧ a < (if T j n ≤ 1000000000000000000 then lN (T j n) else -2))) : ∀ j' n' m' T', ¬ an_dr G x y a j' n' m' T' := by
  rintro j' n' m' T' ⟨g1, g2, g3, g4, g5, g6, ⟨D', od', N', g7, g8, g9, g10⟩, g11, g12⟩
  have e1 : j = j' := (nI_eq (by omega) (by omega)).mp (hx.symm.trans g1)
  have e2 : n = n' := (nI_eq (by omega) (by omega)).mp (hy.symm.trans g3)
  subst e1
  subst e2
  have eT := gc_two hG hD g7 ho hok g9 n hnN g10 j hj
  rw [← eT] at g11 g12
  refine hno ⟨?_, ?_⟩
  · rw [g5]
    intro z
    have := (pk_lLT (a := m') (b := 0) g6 (by decide)).mp z
    omega
  · rw [if_pos g11, g5]
    exact (pk_lLT g6 (by omega)).mpr g12
section M2I
variable {G : gg_R} {σ : gs_St} {t : List Nat} {l : List Int32} {d v : List Nat}
theorem s_draw {x y : Int32} {a : Int64} {K : Int32 → (gs_St × Bool) → Prop} (h : cl_at t G l d v σ)
    (k0 : ∀ τ, cl_at t G l d v τ → ((a < 0 ∨ (∀ j, j < 8 → x ≠ nI j) ∨ (∀ n, n ≤ 16 → y ≠ nI n) ∨ an_circ G True) ∨ ∀ j n m T, ¬ an_dr G x y a j n m T) → K (-1) (τ, false))
    (k1 : ∀ j n m T k τ, an_dr G x y a j n m T → gd_res T G k [(j, n, m)] [] [] none → cl_at t G l d v τ → K (-2) (τ, false))
    (k2 : ∀ j n m T k R L τ, an_dr G x y a j n m T → gd_res T G k [(j, n, m)] [] [] (some (R, L)) → cl_at t G l R L τ → K (nI R.length) (τ, true)) : C_Gl_draw x y a σ K := by
  refine ⟨fun ha => k0 σ h (Or.inl (Or.inl ha)), fun ha => ?_⟩
  have neg1 : ¬ a < (-1 : Int64) := fun z => ha (by
    rw [Int64.lt_iff_toInt_lt] at z ⊢
    rw [show (-1 : Int64).toInt = -1 by decide] at z
    rw [show (0 : Int64).toInt = 0 by decide]
    omega)
  refine s_trees h (fun τ hτ hno => br_f neg1 (k0 τ hτ (Or.inl (Or.inr hno)))) (fun j hj ex n hn ey D O o T T' N N' τ hτ hw hnN => ?_)
  obtain ⟨h1, h2, h3, h4, h5, h6, h7, h8, h9, h10, h11, h12, h13, h14, h15, h16, h17⟩ := id hw
  have hcl : cl_at t G l d v τ := hτ.cl ⟨D, O, o, 8, T, T', N, N', hw⟩
  have hb := h14.1 j n
  refine ⟨fun hlt => ?_, fun hlt => k0 τ hcl (Or.inr (an_dr_no hτ.2.1.1 ex hj ey hn h3 h7 h14.2.2.1 hnN hb (fun z => hlt z.2)))⟩
  by_cases q : T j n ≤ 1000000000000000000
  · rw [if_pos q] at hlt
    obtain ⟨m, hm, rfl⟩ := pk_lOf ha
    have hmT : m < T j n := (pk_lLT hm (by omega)).mp hlt
    subst ex
    subst ey
    have hdr : an_dr G (nI j) (nI n) (lN m) j n m T := ⟨rfl, hj, rfl, hn, rfl, hm, ⟨D, o, N, h3, h7, h14.2.2.1, hnN⟩, q, hmT⟩
    refine s_weave (T := T) (N := N) hτ.2.1 hj hnN h13 h14.2.1 h14.1 (fun r hr => h14.2.2.2 r hr rfl) h14.2.2.1.1 hmT q (fun k τ2 hres f2 => k1 j n m T k τ2 hdr hres ?_) (fun k R L τ2 hres f2 hR hL i12 i13 aR aL => k2 j n m T k R L (gs_sS τ2) hdr hres ?_)
    · have fI := fun k a b c e => f2.1 k a b c e
      have fA := fun k a b c e => f2.2.1 k a b c e
      refine ⟨hτ.1.of (fI 0 (by decide) (by decide) (by decide) (by decide)) (fA 0 (by decide) (by decide) (by decide) (by decide)), f2.gr hτ.2.1, hτ.2.2.1.of (fI 14 (by decide) (by decide) (by decide) (by decide)) (fA 14 (by decide) (by decide) (by decide) (by decide)), hτ.2.2.2.1.of (fI 10 (by decide) (by decide) (by decide) (by decide)) (fI 11 (by decide) (by decide) (by decide) (by decide)) (fA 10 (by decide) (by decide) (by decide) (by decide)) (fA 11 (by decide) (by decide) (by decide) (by decide)), (fI 4 (by decide) (by decide) (by decide) (by decide)).trans hτ.2.2.2.2.1, Or.inr ⟨(fI 1 (by decide) (by decide) (by decide) (by decide)).trans hτ.2.2.2.2.2, ?_⟩⟩
      exact st_at.of ⟨D, O, o, 8, T, T', N, N', hw⟩ (fA 4 (by decide) (by decide) (by decide) (by decide)) (fA 5 (by decide) (by decide) (by decide) (by decide)) (fA 7 (by decide) (by decide) (by decide) (by decide)) (fI 3 (by decide) (by decide) (by decide) (by decide)) (fI 5 (by decide) (by decide) (by decide) (by decide)) (fI 6 (by decide) (by decide) (by decide) (by decide)) (fI 7 (by decide) (by decide) (by decide) (by decide)) (f2.2.2 0 (by decide)) (f2.2.2 1 (by decide)) (f2.2.2 2 (by decide)) (f2.2.2 3 (by decide))
    · have fI := fun k a b c e => f2.1 k a b c e
      have fA := fun k a b c e => f2.2.1 k a b c e
      refine ⟨hτ.1.of (fI 0 (by decide) (by decide) (by decide) (by decide)) (fA 0 (by decide) (by decide) (by decide) (by decide)), (f2.gr hτ.2.1).of rfl rfl rfl rfl, hτ.2.2.1.of (fI 14 (by decide) (by decide) (by decide) (by decide)) (fA 14 (by decide) (by decide) (by decide) (by decide)), ⟨hR, hL, i12, i13, aR, aL⟩, (fI 4 (by decide) (by decide) (by decide) (by decide)).trans hτ.2.2.2.2.1, Or.inr ⟨(fI 1 (by decide) (by decide) (by decide) (by decide)).trans hτ.2.2.2.2.2, ?_⟩⟩
      exact st_at.of ⟨D, O, o, 8, T, T', N, N', hw⟩ (fA 4 (by decide) (by decide) (by decide) (by decide)) (fA 5 (by decide) (by decide) (by decide) (by decide)) (fA 7 (by decide) (by decide) (by decide) (by decide)) (fI 3 (by decide) (by decide) (by decide) (by decide)) (fI 5 (by decide) (by decide) (by decide) (by decide)) (fI 6 (by decide) (by decide) (by decide) (by decide)) (fI 7 (by decide) (by decide) (by decide) (by decide)) (f2.2.2 0 (by decide)) (f2.2.2 1 (by decide)) (f2.2.2 2 (by decide)) (f2.2.2 3 (by decide))
  · rw [if_neg q] at hlt
    exact absurd (show a < 0 by
      rw [Int64.lt_iff_toInt_lt] at hlt ⊢
      rw [show (-2 : Int64).toInt = -2 by decide] at hlt
      rw [show (0 : Int64).toInt = 0 by decide]
      omega) ha
theorem n_draw {x y : Int32} {a : Int64} {K : Int32 → gs_St → Prop} (h : ml_at t G l d v σ)
    (k0 : ∀ τ, ml_at t G l d v τ → ((a < 0 ∨ (∀ j, j < 8 → x ≠ nI j) ∨ (∀ n, n ≤ 16 → y ≠ nI n) ∨ an_circM G true) ∨ ∀ j n m T, ¬ an_dr G x y a j n m T) → K (-1) τ)
    (k1 : ∀ j n m T k τ, an_dr G x y a j n m T → gd_res T G k [(j, n, m)] [] [] none → ml_at t G l d v τ → K (-2) τ)
    (k2 : ∀ j n m T k R L τ, an_dr G x y a j n m T → gd_res T G k [(j, n, m)] [] [] (some (R, L)) → ml_at t G l R L τ → K (nI R.length) τ) : C_Mo_draw x y a σ K := by
  intro X48 X162 X194 h48 h162 h194
  refine n_trees h (fun τ hτ hno => br_t (by decide) (k0 τ hτ (Or.inl (Or.inr hno)))) (fun j hj ex n hn ey hc D o T τ hτ hD ho hb hok hm => ?_)
  have hG := hτ.2.1.1.1
  by_cases q : T j n ≤ 1000000000000000000
  · rw [if_pos q]
    have hn0 : ¬ lN (T j n) < (0 : Int64) := fun z => by
      have := (pk_lLT (a := T j n) (b := 0) (by omega) (by decide)).mp z
      omega
    refine br_f hn0 ⟨fun ha => k0 τ hτ (Or.inl (Or.inl ha)), fun ha => ⟨fun hlt => ?_, fun hlt => k0 τ hτ (Or.inr (an_dr_no hτ.2.1.1 ex hj ey hn hD ho hok (by omega) (hb j n) (fun z => hlt (by have := z.2; rw [if_pos q] at this; exact this))))⟩⟩
    obtain ⟨m, hm63, rfl⟩ := pk_lOf ha
    have hmT : m < T j n := (pk_lLT hm63 (by omega)).mp hlt
    subst ex
    subst ey
    have hdr : an_dr G (nI j) (nI n) (lN m) j n m T := ⟨rfl, hj, rfl, hn, rfl, hm63, ⟨D, o, 17, hD, ho, hok, by omega⟩, q, hmT⟩
    have hgok : gd_ok G T 17 := hok.1
    -- copies
    have cpL : ∀ (R L : List Nat) (ρ : gs_St), (∀ f, ml_at t G l R L (gs_A ρ 6 f) ∨ True) → R.length ≤ 200 → L.length ≤ 16 → ρ.1 3 = nI R.length → ρ.1 4 = nI L.length → (∀ i, i < L.length → ρ.2.1 12 i = nI (L.getD i 0)) → (∀ f : Nat → Int32, (∀ i, i < L.length → f i = nI (L.getD i 0)) → K (nI R.length) (gs_A ρ 6 f)) → ∀ (c i : Nat) (f : Nat → Int32), i + c = L.length → (∀ k, k < i → f k = nI (L.getD k 0)) → X194 (nI i) (gs_A ρ 6 f) := by
      intro R L ρ _ hR hL h3 h4 h12 hK c
      induction c with
      | zero =>
        intro i f hi hf
        have hi : i = L.length := hi
        apply h194
        have e3 : (gs_A ρ 6 f).1 3 = nI R.length := h3
        rw [e3]
        exact pk_le L.length i (fun _ => hK f (fun k hk => hf k (by omega))) (fun z => absurd z (by omega)) h4
      | succ c ih =>
        intro i f hi hf
        apply h194
        refine pk_le L.length i (fun z => absurd z (by omega)) (fun _ => ⟨vp_in_nI (by omega) (by decide), vp_in_nI (by omega) (by decide), ?_⟩) h4
        have e12 : (gs_A ρ 6 f).2.1 12 i = nI (L.getD i 0) := h12 i (by omega)
        rw [nI_clamp (by omega), e12]
        intro τ2 hτ2
        have e : τ2 = gs_A ρ 6 (upd f i (nI (L.getD i 0))) := by
          rw [hτ2, gs_AA]
          rfl
        rw [e]
        refine nm_r (nI_1 i) (ih (i + 1) _ (by omega) (fun k hk => ?_))
        show (if k = i then nI (L.getD i 0) else f k) = _
        by_cases z : k = i
        · rw [if_pos z, z]
        · rw [if_neg z]
          exact hf k (by omega)
    have cpR : ∀ (R L : List Nat) (ρ : gs_St), R.length ≤ 200 → L.length ≤ 16 → ρ.1 3 = nI R.length → ρ.1 4 = nI L.length → (∀ i, i < R.length → ρ.2.1 11 i = nI (R.getD i 0)) → (∀ i, i < L.length → ρ.2.1 12 i = nI (L.getD i 0)) → (∀ e f : Nat → Int32, (∀ i, i < R.length → e i = nI (R.getD i 0)) → (∀ i, i < L.length → f i = nI (L.getD i 0)) → K (nI R.length) (gs_A (gs_A ρ 5 e) 6 f)) → ∀ (c i : Nat) (e : Nat → Int32), i + c = R.length → (∀ k, k < i → e k = nI (R.getD k 0)) → X162 (nI i) (gs_A ρ 5 e) := by
      intro R L ρ hR hL h3 h4 h11 h12 hK c
      induction c with
      | zero =>
        intro i e hi he
        have hi : i = R.length := hi
        apply h162
        refine pk_le R.length i (fun _ => ?_) (fun z => absurd z (by omega)) h3
        have := cpL R L (gs_A ρ 5 e) (fun _ => Or.inr trivial) hR hL h3 h4 h12 (fun f hf => hK e f (fun k hk => he k (by omega)) hf) L.length 0 ((gs_A ρ 5 e).2.1 6) (by omega) (fun k hk => absurd hk (Nat.not_lt_zero _))
        rw [gs_Aid] at this
        exact this
      | succ c ih =>
        intro i e hi he
        apply h162
        refine pk_le R.length i (fun z => absurd z (by omega)) (fun _ => ⟨vp_in_nI (by omega) (by decide), vp_in_nI (by omega) (by decide), ?_⟩) h3
        have e11 : (gs_A ρ 5 e).2.1 11 i = nI (R.getD i 0) := h11 i (by omega)
        rw [nI_clamp (by omega), e11]
        intro τ2 hτ2
        have e2 : τ2 = gs_A ρ 5 (upd e i (nI (R.getD i 0))) := by
          rw [hτ2, gs_AA]
          rfl
        rw [e2]
        refine nm_r (nI_1 i) (ih (i + 1) _ (by omega) (fun k hk => ?_))
        show (if k = i then nI (R.getD i 0) else e k) = _
        by_cases z : k = i
        · rw [if_pos z, z]
        · rw [if_neg z]
          exact he k (by omega)
    -- what lasts
    have lasts : ∀ ρ : gs_St, (∀ k, k ≠ 7 → ρ.1 k = τ.1 k) → (∀ k, k ≠ 9 → k ≠ 10 → k ≠ 11 → k ≠ 12 → k ≠ 13 → ρ.2.1 k = τ.2.1 k) → (∀ k, k ≠ 3 → k ≠ 4 → k ≠ 5 → ρ.2.2 k = τ.2.2 k) → ml_at t G l d v ρ := fun ρ hI hA hL => ⟨hτ.1.of (hI 1 (by decide)) (hA 3 (by decide) (by decide) (by decide) (by decide) (by decide)), hτ.2.1.of (hI 0 (by decide)) (hA 0 (by decide) (by decide) (by decide) (by decide) (by decide)) (hA 1 (by decide) (by decide) (by decide) (by decide) (by decide)) (hA 2 (by decide) (by decide) (by decide) (by decide) (by decide)), hτ.2.2.1.of (hI 2 (by decide)) (hA 4 (by decide) (by decide) (by decide) (by decide) (by decide)), hτ.2.2.2.1.of (hI 3 (by decide)) (hI 4 (by decide)) (hA 5 (by decide) (by decide) (by decide) (by decide) (by decide)) (hA 6 (by decide) (by decide) (by decide) (by decide) (by decide)), hτ.2.2.2.2.elim (fun z => Or.inl ((hI 5 (by decide)).trans z)) (fun z => Or.inr ⟨(hI 5 (by decide)).trans z.1, z.2.of (hI 6 (by decide)) (hL 2 (by decide) (by decide) (by decide))⟩)⟩
    have key : ∀ (c step : Nat) (p : List (Nat × Nat × Nat)) (R L : List Nat) (ρ : gs_St), step + c = 216 → (∀ k, k ≠ 7 → ρ.1 k = τ.1 k) → (∀ k, k ≠ 9 → k ≠ 10 → k ≠ 11 → k ≠ 12 → k ≠ 13 → ρ.2.1 k = τ.2.1 k) → (∀ k, k ≠ 3 → k ≠ 4 → k ≠ 5 → ρ.2.2 k = τ.2.2 k) → ρ.1 7 = nI p.length → (∀ i, i < R.length → ρ.2.1 11 i = nI (R.getD i 0)) → (∀ i, i < L.length → ρ.2.1 12 i = nI (L.getD i 0)) → qi_at p ρ → (∀ e, e ∈ p → gd_v T e ∧ e.1 < 24) → gd_ln p + L.length = n → R.length ≤ 200 → p.length ≤ 1 + 6 * R.length → R.length + L.length = step → (∀ k o, gd_res T G k p R L o → ∃ k', gd_res T G k' [(j, n, m)] [] [] o) → X48 (nI R.length) (nI L.length) ρ := by
      intro c
      induction c with
      | zero =>
        intro step p R L ρ hs hI hA hL h7 hRa hLa hp hv hln hR hpl hst hch
        have hs : step = 216 := hs
        have h200 : R.length = 200 := by omega
        have hl0 : gd_ln p = 0 := by omega
        apply h48
        cases p with
        | nil =>
          obtain ⟨k', hk'⟩ := hch 1 (some (R, L)) rfl
          rw [h7]
          refine br_t (by decide) ?_
          intro σ5 e5 σ6 e6
          have hcp := cpR R L σ6 hR (by omega) (by rw [e6, e5]; rfl) (by rw [e6]; rfl) (fun i hi => by rw [e6, e5]; exact hRa i hi) (fun i hi => by rw [e6, e5]; exact hLa i hi) (fun e f he hf => k2 j n m T k' R L _ hdr hk' ?_) R.length 0 (σ6.2.1 5) (by omega) (fun k hk => absurd hk (Nat.not_lt_zero _))
          · rw [gs_Aid] at hcp
            exact hcp
          · have hml := lasts ρ hI hA hL
            rw [e6, e5]
            exact ⟨hml.1.of rfl rfl, hml.2.1.of rfl rfl rfl rfl, hml.2.2.1.of rfl rfl, ⟨hR, by omega, rfl, rfl, he, hf⟩, hml.2.2.2.2.elim Or.inl (fun z => Or.inr ⟨z.1, z.2.of rfl rfl⟩)⟩
        | cons e p =>
          have hlen : (e :: p).length = p.length + 1 := rfl
          obtain ⟨hve, he24⟩ := hv e List.mem_cons_self
          have hlc : gd_ln (e :: p) = e.2.1 + gd_ln p := rfl
          have he8 : e.1 < 8 := Classical.byContradiction (fun z => by have := hve.2 (by omega); omega)
          rw [h7]
          refine br_f (nI_nle (by omega) (by omega)) ?_
          rw [hlen, nI_pred]
          intro σ7 e7
          have g7 : σ7.1 7 = nI p.length := by rw [e7]; rfl
          rw [g7]
          refine ⟨vp_in_nI (by omega) (by decide), ?_⟩
          have top : σ7.2.1 9 p.length = nI e.1 := by
            have := (hp 0 e rfl).1
            rw [hlen, show p.length + 1 - 1 - 0 = p.length by omega] at this
            rw [e7]
            exact this
          rw [nI_clamp (by omega), top]
          refine nm_e (n_isNtN (by omega) (fun _ => br_t (by decide) ?_) (fun z => absurd he8 (by omega)))
          rw [h200]
          refine br_f (fun z => z rfl) ?_
          obtain ⟨r, m', z, -⟩ := gd_pick hgok he8 (by omega) hve
          obtain ⟨k', hk'⟩ := hch 1 none (gd_res_full he8 z (by omega))
          refine k1 j n m T k' σ7 hdr hk' (lasts σ7 (fun k hk => ?_) (fun k a1 a2 a3 a4 a5 => ?_) (fun k a1 a2 a3 => ?_))
          · rw [e7]
            show (if k = 7 then _ else ρ.1 k) = _
            rw [if_neg hk]
            exact hI k hk
          · rw [e7]; exact hA k a1 a2 a3 a4 a5
          · rw [e7]; exact hL k a1 a2 a3
      | succ c ih =>
        intro step p R L ρ hs hI hA hL h7 hRa hLa hp hv hln hR hpl hst hch
        apply h48
        cases p with
        | nil =>
          obtain ⟨k', hk'⟩ := hch 1 (some (R, L)) rfl
          rw [h7]
          refine br_t (by decide) ?_
          intro σ5 e5 σ6 e6
          have hcp := cpR R L σ6 hR (by omega) (by rw [e6, e5]; rfl) (by rw [e6]; rfl) (fun i hi => by rw [e6, e5]; exact hRa i hi) (fun i hi => by rw [e6, e5]; exact hLa i hi) (fun e f he hf => k2 j n m T k' R L _ hdr hk' ?_) R.length 0 (σ6.2.1 5) (by omega) (fun k hk => absurd hk (Nat.not_lt_zero _))
          · rw [gs_Aid] at hcp
            exact hcp
          · have hml := lasts ρ hI hA hL
            rw [e6, e5]
            exact ⟨hml.1.of rfl rfl, hml.2.1.of rfl rfl rfl rfl, hml.2.2.1.of rfl rfl, ⟨hR, by omega, rfl, rfl, he, hf⟩, hml.2.2.2.2.elim Or.inl (fun z => Or.inr ⟨z.1, z.2.of rfl rfl⟩)⟩
        | cons e p =>
          have hlen : (e :: p).length = p.length + 1 := rfl
          obtain ⟨hve, he24⟩ := hv e List.mem_cons_self
          have hlc : gd_ln (e :: p) = e.2.1 + gd_ln p := rfl
          have hvp : ∀ x, x ∈ p → gd_v T x ∧ x.1 < 24 := fun x hx => hv x (List.mem_cons_of_mem _ hx)
          rw [h7]
          refine br_f (nI_nle (by omega) (by omega)) ?_
          rw [hlen, nI_pred]
          intro σ7 e7
          have g7 : σ7.1 7 = nI p.length := by rw [e7]; rfl
          have hI7 : ∀ k, k ≠ 7 → σ7.1 k = τ.1 k := fun k hk => by
            rw [e7]
            show (if k = 7 then _ else ρ.1 k) = _
            rw [if_neg hk]
            exact hI k hk
          have gA : σ7.2.1 = ρ.2.1 := by rw [e7]; rfl
          have gL : σ7.2.2 = ρ.2.2 := by rw [e7]; rfl
          have top : qc_at σ7 p.length e := by
            have := hp 0 e rfl
            rw [hlen, show p.length + 1 - 1 - 0 = p.length by omega] at this
            unfold qc_at
            rw [gA, gL]
            exact this
          have rest : qi_at p σ7 := fun k x hk => by
            have := hp (k + 1) x hk
            rw [hlen, show p.length + 1 - 1 - (k + 1) = p.length - 1 - k by omega] at this
            unfold qc_at
            rw [gA, gL]
            exact this
          have vpl : vp_in (nI p.length) 1300 := vp_in_nI (by omega) (by decide)
          rw [g7]
          refine ⟨vpl, ?_⟩
          rw [nI_clamp (by omega), top.1]
          refine nm_e (n_isNtN (by omega) (fun he8 => br_t (by decide) ?_) (fun he8 => br_f (fun z => z rfl) ?_))
          · obtain ⟨hv1, hv2⟩ := hve.1 he8
            refine ek_if (not_congr (nI_eq (a := R.length) (b := 200) (by omega) (by decide))) (fun h200 => ?_) (fun h200 => ?_)
            · rw [g7]
              refine ⟨vpl, vpl, ?_⟩
              rw [nI_clamp (by omega), top.2.1, top.2.2]
              have mr7 : mr_at G σ7 := hτ.2.1.of (hI7 0 (by decide)) (by rw [gA]; exact hA 0 (by decide) (by decide) (by decide) (by decide) (by decide)) (by rw [gA]; exact hA 1 (by decide) (by decide) (by decide) (by decide) (by decide)) (by rw [gA]; exact hA 2 (by decide) (by decide) (by decide) (by decide) (by decide))
              have mt7 : mt_at T 17 σ7 := fun B hB p' hp' => by
                rw [gL, hL 2 (by decide) (by decide) (by decide)]
                exact hm B hB p' hp'
              refine n_split (T := T) (p := p) mr7 he8 (by omega) mt7 hb hgok hv1 hv2 g7 (by omega) rest (fun r m' τ2 hpk hr hm' hmb f2 t7 tq => ⟨vp_in_nI (by omega) (by decide), ?_⟩)
              obtain ⟨s1, s2, s3⟩ := gd_sp_ok _ _ _ hm' hmb
              have hspl : (gd_sp T (gg_y G r) e.2.1 m').length = (gg_y G r).length := by rw [← List.length_map (f := fun e : Nat × Nat × Nat => e.1), s3]
              have hz := (hτ.2.1.1.2 r hr).2.1
              rw [nI_clamp (by omega)]
              intro σ13 e13
              have eR : nI R.length + 1 = nI (R ++ [r]).length := by
                rw [nI_1, List.length_append]
                rfl
              refine nm_r eR (ih (step + 1) (gd_sp T (gg_y G r) e.2.1 m' ++ p) (R ++ [r]) L σ13 (by omega) (fun k hk => ?_) (fun k a1 a2 a3 a4 a5 => ?_) (fun k a1 a2 a3 => ?_) (by rw [e13]; exact t7) (fun i hi => ?_) (fun i hi => ?_) (fun k x hk => by rw [e13]; exact tq k x hk) (fun x hx => ?_) (by rw [gd_ln_app, s2]; omega) (by rw [List.length_append]; show R.length + 1 ≤ 200; omega) (by rw [List.length_append, List.length_append, hspl]; show _ ≤ 1 + 6 * (R.length + 1); omega) (by rw [List.length_append]; show R.length + 1 + L.length = step + 1; omega) (fun k o hk => hch (k + 1) o (gd_res_nt he8 hpk (by omega) hk)))
              · rw [e13]; exact (f2.1 k hk).trans (hI7 k hk)
              · rw [e13]
                show (if k = 11 then _ else τ2.2.1 k) = _
                rw [if_neg a3, f2.2.1 k a1 a2 a5, gA]
                exact hA k a1 a2 a3 a4 a5
              · rw [e13]
                show τ2.2.2 k = _
                rw [f2.2.2 k a1 a2 a3, gL]
                exact hL k a1 a2 a3
              · rw [List.length_append] at hi
                have hi : i < R.length + 1 := hi
                rw [e13]
                show (if i = R.length then nI r else τ2.2.1 11 i) = _
                by_cases ei : i = R.length
                · rw [if_pos ei, ei, getD_append_e]
                · rw [if_neg ei, getD_append_l (by omega), f2.2.1 11 (by decide) (by decide) (by decide), gA]
                  exact hRa i (by omega)
              · rw [e13]
                show τ2.2.1 12 i = _
                rw [f2.2.1 12 (by decide) (by decide) (by decide), gA]
                exact hLa i hi
              · rcases List.mem_append.mp hx with z | z
                · refine ⟨s1 x z, ?_⟩
                  have hxm : x.1 ∈ gg_y G r := by
                    rw [← s3]
                    exact List.mem_map_of_mem z
                  obtain ⟨i, hi, ei⟩ := List.getElem_of_mem hxm
                  have := (hτ.2.1.1.2 r hr).2.2 i hi
                  rw [gg_getD hi, ei] at this
                  exact this
                · exact hvp x z
            · have h200 : R.length = 200 := Classical.byContradiction h200
              obtain ⟨r, m', z, -⟩ := gd_pick hgok he8 (by omega) hve
              obtain ⟨k', hk'⟩ := hch 1 none (gd_res_full he8 z (by omega))
              exact k1 j n m T k' σ7 hdr hk' (lasts σ7 hI7 (fun k a1 a2 a3 a4 a5 => by rw [gA]; exact hA k a1 a2 a3 a4 a5) (fun k a1 a2 a3 => by rw [gL]; exact hL k a1 a2 a3))
          · have hel := hve.2 he8
            refine ⟨vp_in_nI (by omega) (by decide), ?_⟩
            rw [nI_clamp (by omega)]
            intro σ15 e15
            have eL : nI L.length + 1 = nI (L ++ [e.1]).length := by
              rw [nI_1, List.length_append]
              rfl
            refine nm_r eL (ih (step + 1) p R (L ++ [e.1]) σ15 (by omega) (fun k hk => by rw [e15]; exact hI7 k hk) (fun k a1 a2 a3 a4 a5 => ?_) (fun k a1 a2 a3 => by rw [e15]; show σ7.2.2 k = _; rw [gL]; exact hL k a1 a2 a3) (by rw [e15]; exact g7) (fun i hi => ?_) (fun i hi => ?_) (fun k x hk => by rw [e15]; exact rest k x hk) hvp (by rw [List.length_append]; show gd_ln p + (L.length + 1) = n; omega) hR (by omega) (by rw [List.length_append]; show R.length + (L.length + 1) = step + 1; omega) (fun k o hk => hch (k + 1) o (gd_res_t (by omega) hk)))
            · rw [e15]
              show (if k = 12 then _ else σ7.2.1 k) = _
              rw [if_neg a4, gA]
              exact hA k a1 a2 a3 a4 a5
            · rw [e15]
              show σ7.2.1 11 i = _
              rw [gA]
              exact hRa i hi
            · rw [List.length_append] at hi
              have hi : i < L.length + 1 := hi
              rw [e15]
              show (if i = L.length then nI e.1 else σ7.2.1 12 i) = _
              by_cases ei : i = L.length
              · rw [if_pos ei, ei, getD_append_e]
              · rw [if_neg ei, getD_append_l (by omega), gA]
                exact hLa i (by omega)
    intro σ3 e3
    refine n_put (σ := σ3) (c := 0) (s := j) (a := n) (b := m) (by rw [e3]; rfl) (by decide) (fun τ2 f2 t7 tq _ _ _ _ => ?_)
    refine key 216 0 [(j, n, m)] [] [] τ2 rfl (fun k hk => ?_) (fun k a1 a2 a3 a4 a5 => ?_) (fun k a1 a2 a3 => ?_) t7 (fun i hi => absurd hi (Nat.not_lt_zero _)) (fun i hi => absurd hi (Nat.not_lt_zero _)) (fun k e hk => ?_) (fun e he => ?_) ?_ (by decide) (Nat.le_refl 1) rfl (fun k o hk => ⟨k, hk⟩)
    · rw [f2.1 k hk, e3]
      show (if k = 7 then _ else τ.1 k) = τ.1 k
      rw [if_neg hk]
    · rw [f2.2.1 k a1 a2 a5, e3]; rfl
    · rw [f2.2.2 k a1 a2 a3, e3]; rfl
    · cases k with
      | zero =>
        injection hk with hk
        rw [← hk]
        exact tq
      | succ k => cases hk
    · rcases List.mem_cons.mp he with z | z
      · rw [z]
        exact ⟨⟨fun _ => ⟨hmT, q⟩, fun z => absurd z (by show ¬ 8 ≤ j; omega)⟩, by show j < 24; omega⟩
      · exact absurd z List.not_mem_nil
    · show n + 0 + 0 = n
      omega
  · rw [if_neg q]
    refine br_t (by decide) (k0 τ hτ (Or.inr (an_dr_no hτ.2.1.1 ex hj ey hn hD ho hok (by omega) (hb j n) (fun z => ?_))))
    obtain ⟨z1, z2⟩ := z
    rw [if_neg q] at z2
    refine z1 ?_
    rw [Int64.lt_iff_toInt_lt] at z2 ⊢
    rw [show (-2 : Int64).toInt = -2 by decide] at z2
    rw [show (0 : Int64).toInt = 0 by decide]
    omega
end M2I
