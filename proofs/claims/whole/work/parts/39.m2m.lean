/-! Layer 2: class and reference side by side. -/
def lw_inv (σ μ : gs_St) : Prop := ∃ t G l d v, cl_at t G l d v σ ∧ ml_at t G l d v μ
theorem circM_no {G : gg_R} {D : Nat → Option Nat} {o : Nat → Nat} (h : an_circM G true) (hD : gm_L G D) (ho : gg_ord (gg_to G D) o 8) : False :=
  absurd ((h D o 8 hD ho (Or.inl (Nat.le_refl 8))).mp rfl) (by omega)
theorem circ_no {G : gg_R} {D : Nat → Option Nat} {o : Nat → Nat} (h : an_circ G True) (hD : gm_L G D) (ho : gg_ord (gg_to G D) o 8) : False := by
  obtain ⟨D', o', c', h1, h2, h3, h4⟩ := h
  have hc : c' < 8 := h4.mp trivial
  have hst : gg_stk (gg_to G D') o' c' := h3.resolve_left (by omega)
  obtain ⟨rk, hrk, -⟩ := gg_rank8 ho
  have hT := gg_to_congr (G := G) (gm_L_eq h1 hD)
  obtain ⟨A, a1, a2⟩ := gg_ord_miss (T := gg_to G D) (o := o') hc
  obtain ⟨n, ⟨B, b1, b2, b3⟩, hmin⟩ := pk_least (fun n => ∃ B, B < 8 ∧ (∀ j, j < c' → o' j ≠ B) ∧ rk B = n) ⟨rk A, A, a1, a2, rfl⟩
  obtain ⟨x, x1, x2, x3⟩ := hst B b1 b2
  have := hrk B x b1 x1 ((hT B x).mp x2)
  exact hmin (rk x) (by omega) ⟨x, x1, x3, rfl⟩
section M2M
variable {σ μ : gs_St}
theorem ag_symbol {x : Int32} (h : lw_inv σ μ) : C_Gl_symbol x σ (fun r σ' => C_Mo_symbol x μ (fun r' μ' => r = r' ∧ lw_inv σ' μ')) := by
  obtain ⟨t, G, l, d, v, hc, hm⟩ := h
  refine s_symbol hc (fun c0 => n_symbol hm (fun _ => ⟨rfl, t, G, l, d, v, hc, hm⟩) (fun s hs e ht τ hτ => ?_)) (fun s hs e ht τ hτ => n_symbol hm (fun c0 => ?_) (fun s' hs' e' ht' τ' hτ' => ?_))
  · exact c0.elim (fun z => absurd e (z s hs)) (fun z => absurd z (by omega))
  · exact c0.elim (fun z => absurd e (z s hs)) (fun z => absurd z (by omega))
  · have : s = s' := (nI_eq (by omega) (by omega)).mp (e.symm.trans e')
    subst this
    exact ⟨rfl, _, _, _, _, _, hτ, hτ'⟩
theorem ag_rule {x : Int32} (h : lw_inv σ μ) : C_Gl_rule x σ (fun r σ' => C_Mo_rule x μ (fun r' μ' => r = r' ∧ lw_inv σ' μ')) := by
  obtain ⟨t, G, l, d, v, hc, hm⟩ := h
  refine s_rule hc (fun c0 τ hτ => n_rule hm (fun _ τ' hτ' => ⟨rfl, _, _, _, _, _, hτ, hτ'⟩) (fun s hs e ht τ' hτ' => ?_)) (fun s hs e ht τ hτ => n_rule hm (fun c0 τ' hτ' => ?_) (fun s' hs' e' ht' τ' hτ' => ?_))
  · exact c0.elim (fun z => absurd e (z s hs)) (fun z => absurd z (by omega))
  · exact c0.elim (fun z => absurd e (z s hs)) (fun z => absurd z (by omega))
  · have : s = s' := (nI_eq (by omega) (by omega)).mp (e.symm.trans e')
    subst this
    exact ⟨rfl, _, _, _, _, _, hτ, hτ'⟩
theorem ag_drop {x : Int32} (h : lw_inv σ μ) : C_Gl_drop x σ (fun r σ' => C_Mo_drop x μ (fun r' μ' => r = r' ∧ lw_inv σ' μ')) := by
  obtain ⟨t, G, l, d, v, hc, hm⟩ := h
  have hG := hc.2.1.1.1
  refine s_drop hc (fun c0 => n_drop hm (fun _ => ⟨rfl, t, G, l, d, v, hc, hm⟩) (fun s hs e τ' hτ' => absurd e (c0 s hs))) (fun s hs e τ hτ => n_drop hm (fun c0 => absurd e (c0 s hs)) (fun s' hs' e' τ' hτ' => ?_))
  have : s = s' := (nI_eq (by omega) (by omega)).mp (e.symm.trans e')
  subst this
  exact ⟨rfl, _, _, _, _, _, hτ, hτ'⟩
theorem ag_count {x : Int32} (h : lw_inv σ μ) : C_Gl_count x σ (fun r σ' => C_Mo_count x μ (fun r' μ' => r = r' ∧ lw_inv σ' μ')) := by
  obtain ⟨t, G, l, d, v, hc, hm⟩ := h
  refine s_count hc (fun e => n_count hm (fun _ => ⟨rfl, t, G, l, d, v, hc, hm⟩) (fun e' => absurd (e.symm.trans e') (by decide)) (fun e' => absurd (e.symm.trans e') (by decide)) (fun a _ _ => absurd e a)) (fun e => n_count hm (fun e' => absurd (e.symm.trans e') (by decide)) (fun _ => ⟨rfl, t, G, l, d, v, hc, hm⟩) (fun e' => absurd (e.symm.trans e') (by decide)) (fun _ a _ => absurd e a)) (fun e => n_count hm (fun e' => absurd (e.symm.trans e') (by decide)) (fun e' => absurd (e.symm.trans e') (by decide)) (fun _ => ⟨rfl, t, G, l, d, v, hc, hm⟩) (fun _ _ a => absurd e a)) (fun a b c => n_count hm (fun e => absurd e a) (fun e => absurd e b) (fun e => absurd e c) (fun _ _ _ => ⟨rfl, t, G, l, d, v, hc, hm⟩))
theorem ag_about {x y : Int32} (h : lw_inv σ μ) : C_Gl_about x y σ (fun r σ' => C_Mo_about x y μ (fun r' μ' => r = r' ∧ lw_inv σ' μ')) := by
  obtain ⟨t, G, l, d, v, hc, hm⟩ := h
  have hG := hc.2.1.1
  have m1 : ∀ (r j : Nat), r < G.length → j < (gg_y G r).length → (-1 : Int32) ≠ nI j := fun r j hr hj e => by
    have hz := (hG.2 r hr).2.1
    exact absurd (e ▸ (by decide : (-1 : Int32) < 0)) (nI_pos (by omega))
  have same : ∀ r r' : Nat, r < G.length → r' < G.length → x = nI r → x = nI r' → r = r' := fun r r' h1 h2 e e' => by
    have := hG.1
    exact (nI_eq (by omega) (by omega)).mp (e.symm.trans e')
  refine s_about hc (fun c0 => n_about hm (fun _ => ⟨rfl, t, G, l, d, v, hc, hm⟩) (fun r hr e _ => absurd e (c0 r hr)) (fun r hr e _ _ _ => absurd e (c0 r hr)) (fun r hr e _ _ => absurd e (c0 r hr))) (fun r hr e ei => n_about hm (fun c0 => absurd e (c0 r hr)) (fun r' hr' e' _ => ?_) (fun r' hr' e' j hj ej => absurd (ei.symm.trans ej) (m1 r' j hr' hj)) (fun r' hr' e' hne _ => absurd ei hne)) (fun r hr e j hj ej => n_about hm (fun c0 => absurd e (c0 r hr)) (fun r' hr' e' ei => absurd (ei.symm.trans ej) (m1 r j hr hj)) (fun r' hr' e' j' hj' ej' => ?_) (fun r' hr' e' _ hno => ?_)) (fun r hr e hne hno => n_about hm (fun c0 => absurd e (c0 r hr)) (fun r' hr' e' ei => absurd ei hne) (fun r' hr' e' j' hj' ej' => ?_) (fun r' hr' e' _ _ => ⟨rfl, t, G, l, d, v, hc, hm⟩))
  · have := same r r' hr hr' e e'
    subst this
    exact ⟨rfl, t, G, l, d, v, hc, hm⟩
  · have := same r r' hr hr' e e'
    subst this
    have hz := (hG.2 r hr).2.1
    have : j = j' := (nI_eq (by omega) (by omega)).mp (ej.symm.trans ej')
    subst this
    exact ⟨rfl, t, G, l, d, v, hc, hm⟩
  · have := same r r' hr hr' e e'
    subst this
    exact absurd ej (hno j hj)
  · have := same r r' hr hr' e e'
    subst this
    exact absurd ej' (hno j' hj')
theorem ag_shortest {x : Int32} (h : lw_inv σ μ) : C_Gl_shortest x σ (fun r σ' => C_Mo_shortest x μ (fun r' μ' => r = r' ∧ lw_inv σ' μ')) := by
  obtain ⟨t, G, l, d, v, hc, hm⟩ := h
  refine s_shortest hc (fun c0 => n_shortest hm (fun _ => ⟨rfl, t, G, l, d, v, hc, hm⟩) (fun s hs e r τ' hτ' _ => absurd e (c0 s hs))) (fun s hs e r τ hτ han => n_shortest hm (fun c0 => absurd e (c0 s hs)) (fun s' hs' e' r' τ' hτ' han' => ?_))
  have : s = s' := (nI_eq (by omega) (by omega)).mp (e.symm.trans e')
  subst this
  exact ⟨an_short_eq hs han han', _, _, _, _, _, hτ, hτ'⟩
theorem ag_shortestWith {x : Int32} (h : lw_inv σ μ) : C_Gl_shortestWith x σ (fun r σ' => C_Mo_shortestWith x μ (fun r' μ' => r = r' ∧ lw_inv σ' μ')) := by
  obtain ⟨t, G, l, d, v, hc, hm⟩ := h
  have hG := hc.2.1.1.1
  refine s_shortestWith hc (fun c0 => n_shortestWith hm (fun _ => ⟨rfl, t, G, l, d, v, hc, hm⟩) (fun s hs e r τ' hτ' _ => absurd e (c0 s hs))) (fun s hs e r τ hτ han => n_shortestWith hm (fun c0 => absurd e (c0 s hs)) (fun s' hs' e' r' τ' hτ' han' => ?_))
  have : s = s' := (nI_eq (by omega) (by omega)).mp (e.symm.trans e')
  subst this
  exact ⟨an_with_eq hc.2.1.1 hs han han', _, _, _, _, _, hτ, hτ'⟩
theorem ag_circle (h : lw_inv σ μ) : C_Gl_circle σ (fun r σ' => C_Mo_circle μ (fun r' μ' => r = r' ∧ lw_inv σ' μ')) := by
  obtain ⟨t, G, l, d, v, hc, hm⟩ := h
  refine s_circle hc (fun τ hτ _ _ _ han => n_circ hm (fun τ' hτ' _ => ⟨rfl, _, _, _, _, _, hτ, hτ'⟩) (fun τ' hτ' han' => absurd ((an_circ_M han han').mpr trivial) Bool.false_ne_true)) (fun τ hτ _ _ _ han => n_circ hm (fun τ' hτ' han' => ((an_circ_M han han').mp rfl).elim) (fun τ' hτ' _ => ⟨rfl, _, _, _, _, _, hτ, hτ'⟩))
theorem ag_trees {x y : Int32} (h : lw_inv σ μ) : C_Gl_trees x y σ (fun r σ' => C_Mo_trees x y μ (fun r' μ' => r = r' ∧ lw_inv σ' μ')) := by
  obtain ⟨t, G, l, d, v, hc, hm⟩ := h
  refine s_trees hc (fun τ hτ hno => n_trees hm (fun τ' hτ' _ => ⟨rfl, _, _, _, _, _, hτ, hτ'⟩) (fun j hj ex n hn ey hcf D o T τ' hτ' hD ho _ _ _ => ?_)) (fun j hj ex n hn ey D O o T T' N N' τ hτ hw hnN => n_trees hm (fun τ' hτ' hno => ?_) (fun j' hj' ex' n' hn' ey' _ D' o' T2 τ' hτ' hD' ho' _ hok' _ => ?_))
  · rcases hno with z | z | z
    · exact absurd ex (z j hj)
    · exact absurd ey (z n hn)
    · exact (circ_no z hD ho).elim
  · rcases hno with z | z | z
    · exact absurd ex (z j hj)
    · exact absurd ey (z n hn)
    · exact (circM_no z hw.2.2.1 hw.2.2.2.2.2.2.1).elim
  · have e1 : j = j' := (nI_eq (by omega) (by omega)).mp (ex.symm.trans ex')
    have e2 : n = n' := (nI_eq (by omega) (by omega)).mp (ey.symm.trans ey')
    subst e1
    subst e2
    have hcl := hτ.cl ⟨D, O, o, 8, T, T', N, N', hw⟩
    obtain ⟨h1, h2, h3, h4, h5, h6, h7, h8, h9, h10, h11, h12, h13, h14, -⟩ := hw
    have eT := gc_two hτ.2.1.1 h3 hD' h7 h14.2.2.1 hok' n hnN (by omega) j hj
    rw [eT]
    exact ⟨rfl, _, _, _, _, _, hcl, hτ'⟩
theorem ag_treesWith {x y : Int32} (h : lw_inv σ μ) : C_Gl_treesWith x y σ (fun r σ' => C_Mo_treesWith x y μ (fun r' μ' => r = r' ∧ lw_inv σ' μ')) := by
  obtain ⟨t, G, l, d, v, hc, hm⟩ := h
  have hG := hc.2.1.1
  have hG24 := hG.1
  have no : ∀ {r n a : Nat}, r < G.length → x = nI r → n ≤ 16 → y = nI n → an_tab G (fun _ => true) 0 n a → ((∀ r, r < G.length → x ≠ nI r) ∨ (∀ n, n ≤ 16 → y ≠ nI n) ∨ an_circ G True) → False := fun {r n a} hr ex hn ey tab hno => by
    obtain ⟨D, o, T, N, t1, t2, -⟩ := tab
    rcases hno with z | z | z
    · exact absurd ex (z r hr)
    · exact absurd ey (z n hn)
    · exact circ_no z t1 t2
  have noM : ∀ {r n a : Nat}, r < G.length → x = nI r → n ≤ 16 → y = nI n → an_tab G (fun _ => true) 0 n a → ((∀ r, r < G.length → x ≠ nI r) ∨ (∀ n, n ≤ 16 → y ≠ nI n) ∨ an_circM G true) → False := fun {r n a} hr ex hn ey tab hno => by
    obtain ⟨D, o, T, N, t1, t2, -⟩ := tab
    rcases hno with z | z | z
    · exact absurd ex (z r hr)
    · exact absurd ey (z n hn)
    · exact circM_no z t1 t2
  refine s_treesWith hc (fun τ hτ hno => n_treesWith hm (fun τ' hτ' _ => ⟨rfl, _, _, _, _, _, hτ, hτ'⟩) (fun r hr ex n hn ey _ τ' a hτ' tab _ => (no hr ex hn ey tab hno).elim) (fun r hr ex n hn ey _ τ' a b hτ' tab _ _ => (no hr ex hn ey tab hno).elim)) (fun r hr ex n hn ey τ a hτ tab ha => n_treesWith hm (fun τ' hτ' hno => (noM hr ex hn ey tab hno).elim) (fun r' hr' ex' n' hn' ey' _ τ' a' hτ' tab' _ => ⟨rfl, _, _, _, _, _, hτ, hτ'⟩) (fun r' hr' ex' n' hn' ey' _ τ' a' b' hτ' tab' ha' _ => ?_)) (fun r hr ex n hn ey τ a b hτ tab ha tabb => n_treesWith hm (fun τ' hτ' hno => (noM hr ex hn ey tab hno).elim) (fun r' hr' ex' n' hn' ey' _ τ' a' hτ' tab' ha' => ?_) (fun r' hr' ex' n' hn' ey' _ τ' a' b' hτ' tab' ha' tabb' => ?_))
  · have e2 : n = n' := (nI_eq (by omega) (by omega)).mp (ey.symm.trans ey')
    subst e2
    have := an_tab_one hG (by decide) tab tab'
    omega
  · have e2 : n = n' := (nI_eq (by omega) (by omega)).mp (ey.symm.trans ey')
    subst e2
    have := an_tab_one hG (by decide) tab tab'
    omega
  · have e1 : r = r' := (nI_eq (by omega) (by omega)).mp (ex.symm.trans ex')
    have e2 : n = n' := (nI_eq (by omega) (by omega)).mp (ey.symm.trans ey')
    subst e1
    subst e2
    rw [an_tab_one hG (by decide) tab tab', an_tab_one hG (by decide) tabb tabb']
    exact ⟨rfl, _, _, _, _, _, hτ, hτ'⟩
theorem ag_draw {x y : Int32} {a : Int64} (h : lw_inv σ μ) : C_Gl_draw x y a σ (fun r u => C_Mo_draw x y a μ (fun r' μ' => r = r' ∧ lw_inv u.1 μ')) := by
  obtain ⟨t, G, l, d, v, hc, hm⟩ := h
  have hG := hc.2.1.1
  have no : ∀ {j n m : Nat} {T : Nat → Nat → Nat}, an_dr G x y a j n m T → ((a < 0 ∨ (∀ j, j < 8 → x ≠ nI j) ∨ (∀ n, n ≤ 16 → y ≠ nI n) ∨ an_circ G True) ∨ ∀ j n m T, ¬ an_dr G x y a j n m T) → False := fun {j n m T} hdr hno => by
    obtain ⟨h1, h2, h3, h4, h5, h6, ⟨D, od, N, h7, h8, h9, h10⟩, h11, h12⟩ := id hdr
    rcases hno with (z | z | z | z) | z
    · rw [h5] at z
      have := (pk_lLT (a := m) (b := 0) h6 (by decide)).mp z
      omega
    · exact absurd h1 (z j h2)
    · exact absurd h3 (z n h4)
    · exact circ_no z h7 h8
    · exact z j n m T hdr
  have noM : ∀ {j n m : Nat} {T : Nat → Nat → Nat}, an_dr G x y a j n m T → ((a < 0 ∨ (∀ j, j < 8 → x ≠ nI j) ∨ (∀ n, n ≤ 16 → y ≠ nI n) ∨ an_circM G true) ∨ ∀ j n m T, ¬ an_dr G x y a j n m T) → False := fun {j n m T} hdr hno => by
    obtain ⟨h1, h2, h3, h4, h5, h6, ⟨D, od, N, h7, h8, h9, h10⟩, h11, h12⟩ := id hdr
    rcases hno with (z | z | z | z) | z
    · rw [h5] at z
      have := (pk_lLT (a := m) (b := 0) h6 (by decide)).mp z
      omega
    · exact absurd h1 (z j h2)
    · exact absurd h3 (z n h4)
    · exact circM_no z h7 h8
    · exact z j n m T hdr
  refine s_draw hc (fun τ hτ hno => n_draw hm (fun τ' hτ' _ => ⟨rfl, _, _, _, _, _, hτ, hτ'⟩) (fun j n m T k τ' hdr _ _ => (no hdr hno).elim) (fun j n m T k R L τ' hdr _ _ => (no hdr hno).elim)) (fun j n m T k τ hdr hres hτ => n_draw hm (fun τ' hτ' hno => (noM hdr hno).elim) (fun j' n' m' T' k' τ' hdr' hres' hτ' => ⟨rfl, _, _, _, _, _, hτ, hτ'⟩) (fun j' n' m' T' k' R L τ' hdr' hres' hτ' => ?_)) (fun j n m T k R L τ hdr hres hτ => n_draw hm (fun τ' hτ' hno => (noM hdr hno).elim) (fun j' n' m' T' k' τ' hdr' hres' hτ' => ?_) (fun j' n' m' T' k' R' L' τ' hdr' hres' hτ' => ?_))
  · have := an_dr_one hG hdr hdr' hres hres'
    cases this
  · have := an_dr_one hG hdr hdr' hres hres'
    cases this
  · have := an_dr_one hG hdr hdr' hres hres'
    injection this with this
    injection this with e1 e2
    subst e1
    subst e2
    exact ⟨rfl, _, _, _, _, _, hτ, hτ'⟩
theorem ag_row {x : Int32} (h : lw_inv σ μ) : C_Gl_row x σ (fun r σ' => C_Mo_row x μ (fun r' μ' => r = r' ∧ lw_inv σ' μ')) := by
  obtain ⟨t, G, l, d, v, hc, hm⟩ := h
  have hd := hc.2.2.2.1.1
  refine s_row hc (fun c0 => n_row hm (fun _ => ⟨rfl, t, G, l, d, v, hc, hm⟩) (fun s hs e => absurd e (c0 s hs))) (fun s hs e => n_row hm (fun c0 => absurd e (c0 s hs)) (fun s' hs' e' => ?_))
  have : s = s' := (nI_eq (by omega) (by omega)).mp (e.symm.trans e')
  subst this
  exact ⟨rfl, t, G, l, d, v, hc, hm⟩
theorem ag_leaf {x : Int32} (h : lw_inv σ μ) : C_Gl_leaf x σ (fun r σ' => C_Mo_leaf x μ (fun r' μ' => r = r' ∧ lw_inv σ' μ')) := by
  obtain ⟨t, G, l, d, v, hc, hm⟩ := h
  have hd := hc.2.2.2.1.2.1
  refine s_leaf hc (fun c0 => n_leaf hm (fun _ => ⟨rfl, t, G, l, d, v, hc, hm⟩) (fun s hs e => absurd e (c0 s hs))) (fun s hs e => n_leaf hm (fun c0 => absurd e (c0 s hs)) (fun s' hs' e' => ?_))
  have : s = s' := (nI_eq (by omega) (by omega)).mp (e.symm.trans e')
  subst this
  exact ⟨rfl, t, G, l, d, v, hc, hm⟩
theorem ag_list {x : Int32} (h : lw_inv σ μ) : C_Gl_list x σ (fun r σ' => C_Mo_list x μ (fun r' μ' => r = r' ∧ lw_inv σ' μ')) := by
  obtain ⟨t, G, l, d, v, hc, hm⟩ := h
  exact s_list hc (fun c0 => n_list hm (fun _ => ⟨rfl, t, G, l, d, v, hc, hm⟩) (fun z τ' hτ' => absurd z (by omega))) (fun z τ hτ => n_list hm (fun c0 => absurd z (by omega)) (fun _ τ' hτ' => ⟨rfl, _, _, _, _, _, hτ, hτ'⟩))
theorem ag_number {x : Int32} (h : lw_inv σ μ) : C_Gl_number x σ (fun r σ' => C_Mo_number x μ (fun r' μ' => r = r' ∧ lw_inv σ' μ')) := by
  obtain ⟨t, G, l, d, v, hc, hm⟩ := h
  have hG := hc.2.1.1
  refine s_number hc (fun τ hτ hno => n_number hm (fun τ' hτ' _ => ⟨rfl, _, _, _, _, _, hτ, hτ'⟩) (fun j hj ex _ m τ' hτ' han => ?_)) (fun j hj ex _ m τ hτ han => n_number hm (fun τ' hτ' hno => ?_) (fun j' hj' ex' _ m' τ' hτ' han' => ?_))
  · obtain ⟨rs, T, D, o, N, g1, g2, g3, g4, g5, -⟩ := id han
    rcases hno with z | z | z
    · exact absurd ex (z j hj)
    · exact (circ_no z g4 g5).elim
    · exact absurd han (z j hj ex m)
  · obtain ⟨rs, T, D, o, N, g1, g2, g3, g4, g5, -⟩ := id han
    rcases hno with z | z | z
    · exact absurd ex (z j hj)
    · exact (circM_no z g4 g5).elim
    · exact absurd han (z j hj ex m)
  · have e1 : j = j' := (nI_eq (by omega) (by omega)).mp (ex.symm.trans ex')
    subst e1
    rw [an_nr_one hG han han']
    exact ⟨rfl, _, _, _, _, _, hτ, hτ'⟩
theorem lw_inv_0 : lw_inv gs_0 gm_0 := by
  refine ⟨[], [], [], [], [], ⟨⟨by decide, fun i hi => absurd hi (Nat.not_lt_zero _), rfl, fun i hi => absurd hi (Nat.not_lt_zero _)⟩, ⟨⟨by decide, fun r hr => absurd hr (Nat.not_lt_zero _)⟩, rfl, fun r hr => absurd hr (Nat.not_lt_zero _)⟩, ⟨by decide, rfl, fun i hi => absurd hi (Nat.not_lt_zero _)⟩, ⟨by decide, by decide, rfl, rfl, fun i hi => absurd hi (Nat.not_lt_zero _), fun i hi => absurd hi (Nat.not_lt_zero _)⟩, rfl, Or.inl rfl⟩, ⟨⟨by decide, fun i hi => absurd hi (Nat.not_lt_zero _), rfl, fun i hi => absurd hi (Nat.not_lt_zero _)⟩, ⟨⟨by decide, fun r hr => absurd hr (Nat.not_lt_zero _)⟩, rfl, fun r hr => absurd hr (Nat.not_lt_zero _)⟩, ⟨by decide, rfl, fun i hi => absurd hi (Nat.not_lt_zero _)⟩, ⟨by decide, by decide, rfl, rfl, fun i hi => absurd hi (Nat.not_lt_zero _), fun i hi => absurd hi (Nat.not_lt_zero _)⟩, Or.inl rfl⟩⟩
end M2M
