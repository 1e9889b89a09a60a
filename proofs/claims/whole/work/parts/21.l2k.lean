/-! Layer 2, part k: study, and what is asked of it. -/
theorem gm_L_cl {G : gg_R} {D : Nat → Option Nat} (hG : gg_ok G) (h : gm_L G D) : gg_cl G D := fun r hr hall => by
  refine (h _ (hG.2 r hr).1 0).mpr ?_
  have hS : gm_S (fun x a => ∃ k, gm_D G k x a) (gg_y G r) 0 := by
    have gen : ∀ ys : List Nat, (∀ y, y ∈ ys → y < 8 ∧ D y = some 0) → gm_S (fun x a => ∃ k, gm_D G k x a) ys 0 := by
      intro ys
      induction ys with
      | nil => exact fun _ => rfl
      | cons s ys ih =>
        intro hs
        obtain ⟨h1, h2⟩ := hs s List.mem_cons_self
        exact ⟨0, 0, rfl, fun _ => ((h s h1 0).mp h2).1, fun z => absurd z (by omega), ih (fun y hy => hs y (List.mem_cons_of_mem _ hy))⟩
    exact gen _ hall
  obtain ⟨k, hk⟩ := gm_S_some _ _ hS
  exact ⟨⟨k + 1, _, gg_mem hr, rfl, hk⟩, fun _ _ _ => Nat.zero_le _⟩
theorem cs_at_0 {G : gg_R} {D : Nat → Option Nat} {kp : Nat → Bool} {σ : gs_St} : cs_at G D kp (fun _ _ => 0) 0 σ :=
  ⟨fun _ _ => Nat.zero_le _, fun A _ p hp => absurd hp (Nat.not_lt_zero _), ⟨fun A n _ hn => absurd hn (Nat.not_lt_zero _), fun A _ _ h => absurd h (Nat.not_lt_zero _)⟩, fun r _ _ i _ p hp => absurd hp (Nat.not_lt_zero _)⟩
theorem cs_atw_0 {G : gg_R} {D : Nat → Option Nat} {kp : Nat → Bool} {σ : gs_St} : cs_atw G D kp (fun _ _ => 0) 0 σ :=
  ⟨fun _ _ => Nat.zero_le _, fun A _ p hp => absurd hp (Nat.not_lt_zero _), ⟨fun A n _ hn => absurd hn (Nat.not_lt_zero _), fun A _ _ h => absurd h (Nat.not_lt_zero _)⟩, fun r _ _ i _ p hp => absurd hp (Nat.not_lt_zero _)⟩
theorem gg_ord_le {T : Nat → Nat → Prop} {o : Nat → Nat} {c : Nat} (h : gg_ord T o c) : c ≤ 8 := by
  rcases Nat.lt_or_ge 8 c with q | q
  · obtain ⟨i, j, h1, h2, h3⟩ := gm_ph 8 o (fun i hi => h.1 i (by omega))
    exact absurd h3 (h.2.1 i j h1 (by omega))
  · exact q
section L2K
variable {G : gg_R} {σ : gs_St} {t : List Nat} {l : List Int32} {d v : List Nat}
theorem s_study {K : gs_St → Prop} (h : cl_at t G l d v σ) (kk : ∀ τ, cl_at t G l d v τ → st_at G τ → τ.1 1 = 1 → K τ) : C_Gl_study σ K := by
  obtain ⟨ht, hg, hl, hd, h4, hst⟩ := h
  refine ⟨fun hs0 => ?_, fun hs0 => ?_⟩
  · intro σ1 e1
    have g1 : gr_at G σ1 := hg.of (by rw [e1]; rfl) (by rw [e1]; rfl) (by rw [e1]; rfl) (by rw [e1]; rfl)
    refine s_leFind g1 (fun D O f g hf hgO hL hLA hbd hbO => ?_)
    refine s_ldFind (D := D) (g1.of rfl rfl rfl rfl) hf hbd (fun o c tt ff ho hp hff => ?_)
    intro σ4 e4 σ5 e5
    have hst5 : st_at G σ5 := by
      refine ⟨D, O, o, c, fun _ _ => 0, fun _ _ => 0, 0, 0, fun A hA => ?_, fun A hA => ?_, hL, hLA, hbd, hbO, ho, hp, fun j hj => ?_, ?_, gg_ord_le ho, ?_, by decide, cs_at_0, ?_, by decide, cs_atw_0⟩
      · rw [e5, e4]; exact hf A hA
      · rw [e5, e4]; exact hgO A hA
      · rw [e5, e4]; exact hff j hj
      · rw [e5, e4]; rfl
      · rw [e5, e4]; rfl
      · rw [e5]; rfl
    have h1 : σ5.1 1 = 1 := by rw [e5, e4, e1]; rfl
    refine kk σ5 ⟨ht.of ?_ ?_, hg.of ?_ ?_ ?_ ?_, hl.of ?_ ?_, hd.of ?_ ?_ ?_ ?_, ?_, Or.inr ⟨h1, hst5⟩⟩ hst5 h1
    · rw [e5, e4, e1]; rfl
    · rw [e5, e4, e1]; rfl
    · rw [e5, e4, e1]; rfl
    · rw [e5, e4, e1]; rfl
    · rw [e5, e4, e1]; rfl
    · rw [e5, e4, e1]; rfl
    · rw [e5, e4, e1]; rfl
    · rw [e5, e4, e1]; rfl
    · rw [e5, e4, e1]; rfl
    · rw [e5, e4, e1]; rfl
    · rw [e5, e4, e1]; rfl
    · rw [e5, e4, e1]; rfl
    · rw [e5, e4, e1]; exact h4
  · rcases hst with z | ⟨z, hs⟩
    · exact absurd z hs0
    · exact kk σ ⟨ht, hg, hl, hd, h4, Or.inr ⟨z, hs⟩⟩ hs z
/-- the least length of A, or -1 -/
def an_short (G : gg_R) (A : Nat) (r : Int32) : Prop := ∃ D, gm_L G D ∧ gg_bd D 1679616 ∧ r = gg_o (D A)
/-- the least length with rule q -/
def an_with (G : gg_R) (q : Nat) (r : Int32) : Prop := ∃ D O, gm_L G D ∧ gm_L (gm_A G D) O ∧ r = gg_o (gg_add (gg_sum D (gg_y G q)) (O (gg_l G q)))
/-- is there a circle -/
def an_circ (G : gg_R) (b : Prop) : Prop := ∃ D o c, gm_L G D ∧ gg_ord (gg_to G D) o c ∧ (8 ≤ c ∨ gg_stk (gg_to G D) o c) ∧ (b ↔ c < 8)
theorem s_shortest {x : Int32} {K : Int32 → gs_St → Prop} (h : cl_at t G l d v σ) (k0 : (∀ j, j < 8 → x ≠ nI j) → K (-1) σ) (k1 : ∀ j, j < 8 → x = nI j → ∀ r τ, cl_at t G l d v τ → an_short G j r → K r τ) : C_Gl_shortest x σ K := by
  refine s_isNt (fun j hj e => ?_) (fun hno => br_f (fun z => z rfl) (k0 hno))
  subst e
  refine br_t (by decide) (s_study h (fun τ hτ hs _ => ⟨vp_in_nI hj (by decide), ?_⟩))
  obtain ⟨D, O, o, c, T, T', N, N', h1, h2, h3, h4, h5, -⟩ := hs
  rw [nI_clamp (by omega), h1 j hj]
  exact k1 j hj rfl _ τ hτ ⟨D, h3, h5, rfl⟩
theorem s_shortestWith {x : Int32} {K : Int32 → gs_St → Prop} (h : cl_at t G l d v σ) (k0 : (∀ q, q < G.length → x ≠ nI q) → K (-1) σ) (k1 : ∀ q, q < G.length → x = nI q → ∀ r τ, cl_at t G l d v τ → an_with G q r → K r τ) : C_Gl_shortestWith x σ K := by
  refine s_has h.2.1 (fun q hq e => ?_) (fun hno => br_f (fun z => z rfl) (k0 hno))
  subst e
  refine br_t (by decide) (s_study h (fun τ hτ hs _ => ?_))
  obtain ⟨D, O, o, c, T, T', N, N', h1, h2, h3, h4, h5, h6, -⟩ := hs
  obtain ⟨hl8, hz, h24⟩ := hτ.2.1.1.2 q hq
  refine s_leastBut (D := D) (B := 1679616) hτ.2.1 hq h1 h5 (by decide) (by decide) ?_
  rw [gg_but_no _ 0 (by omega)]
  refine s_leftOf hτ.2.1 hq ⟨vp_in_nI hl8 (by decide), ?_⟩
  rw [nI_clamp (by omega), h2 _ hl8]
  have fin : ∀ r, r = gg_o (gg_add (gg_sum D (gg_y G q)) (O (gg_l G q))) → K r τ := fun r hr => k1 q hq rfl r τ hτ ⟨D, O, h3, h4, hr⟩
  refine nm_e ?_
  cases hs : gg_sum D (gg_y G q) with
  | none =>
    refine br_t rfl (fin _ ?_)
    rw [hs]
    rfl
  | some a =>
    have ha : a ≤ 6 * 1679616 := by
      have e1 := gg_but_le h5 (by decide) (gg_y G q) 0 a (by rw [gg_but_no _ 0 (by omega)]; exact hs)
      exact Nat.le_trans e1 (Nat.mul_le_mul_right _ hz)
    refine br_f (gg_o_ne (by omega)) ?_
    cases ho : O (gg_l G q) with
    | none =>
      refine br_f (fun z => z rfl) (fin _ ?_)
      rw [hs, ho]
      rfl
    | some b =>
      have hb := h6 _ hl8 b ho
      refine br_t (gg_o_ne (by omega)) (fin _ ?_)
      rw [hs, ho]
      exact nI_add a b
theorem s_circle {K : Int32 → gs_St → Prop} (h : cl_at t G l d v σ) (k1 : ∀ τ, cl_at t G l d v τ → st_at G τ → τ.1 1 = 1 → τ.1 3 ≠ nI 8 → an_circ G True → K 1 τ) (k0 : ∀ τ, cl_at t G l d v τ → st_at G τ → τ.1 1 = 1 → τ.1 3 = nI 8 → an_circ G False → K 0 τ) : C_Gl_circle σ K := by
  refine s_study h (fun τ hτ hs h1 => ?_)
  have hs' := hs
  obtain ⟨D, O, o, c, T, T', N, N', g1, g2, g3, g4, g5, g6, g7, g8, g9, g10, g11, -⟩ := hs'
  refine pk_le 8 c (fun q => ?_) (fun q => ?_) rfl g10
  · have hc : c = 8 := by omega
    subst hc
    exact k0 τ hτ hs h1 g10 ⟨D, o, 8, g3, g7, g8, ⟨fun z => z.elim, fun z => absurd z (by omega)⟩⟩
  · exact k1 τ hτ hs h1 (fun e => by rw [g10] at e; have := (nI_eq (by omega) (by decide)).mp e; omega) ⟨D, o, c, g3, g7, g8, ⟨fun _ => q, fun _ => trivial⟩⟩
end L2K
