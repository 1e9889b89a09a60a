/-! Layer 2, part o: weave and draw of the class. -/
section L2O
variable {G : gg_R} {σ : gs_St} {T : Nat → Nat → Nat} {N : Nat}
theorem s_addLeaf {s c : Nat} {K : gs_St → Prop} (h13 : σ.1 13 = nI c) (hc : c < 16) (kk : ∀ τ, fr_w σ τ → τ.1 8 = σ.1 8 → τ.1 9 = σ.1 9 → τ.1 12 = σ.1 12 → τ.1 13 = nI (c + 1) → τ.2.1 8 = σ.2.1 8 → τ.2.1 9 = σ.2.1 9 → τ.2.1 12 = σ.2.1 12 → τ.2.1 13 = upd (σ.2.1 13) c (nI s) → τ.2.2 = σ.2.2 → K τ) : C_Dr_addLeaf (nI s) σ K := by
  show ((16 : Int32) ≤ (σ.1 13) → K σ) ∧ (¬ ((16 : Int32) ≤ (σ.1 13)) → vp_in (σ.1 13) 16 ∧ ∀ σ1 : gs_St, σ1 = gs_A σ 13 (upd (σ.2.1 13) (σ.1 13).toNatClampNeg (nI s)) → ∀ σ2 : gs_St, σ2 = gs_I σ1 13 ((σ1.1 13) + (1 : Int32)) → K σ2)
  rw [h13]
  refine br_f (nI_ge (b := 16) hc (by decide)) ⟨vp_in_nI hc (by decide), ?_⟩
  rw [nI_clamp (by omega)]
  intro σ1 e1 σ2 e2
  refine kk σ2 ?_ ?_ ?_ ?_ ?_ ?_ ?_ ?_ ?_ ?_
  · rw [e2, e1]
    exact (fr_w.A (Or.inr (Or.inr (Or.inr rfl)))).tr (fr_w.I (Or.inr (Or.inr (Or.inr rfl))))
  · rw [e2, e1]; rfl
  · rw [e2, e1]; rfl
  · rw [e2, e1]; rfl
  · rw [e2, e1]
    show σ.1 13 + 1 = _
    rw [h13, nI_1]
  · rw [e2, e1]; rfl
  · rw [e2, e1]; rfl
  · rw [e2, e1]; rfl
  · rw [e2, e1]; rfl
  · rw [e2, e1]; rfl
theorem s_weave {A n m : Nat} {K : Int32 → (gs_St × Bool) → Prop} (h : gr_at G σ) (hA : A < 8) (hn : n < N) (hN : N ≤ 17) (hT : gt_at T N σ) (hTb : ∀ A p, T A p ≤ 1000000000000000001) (hE : ∀ r, r < G.length → gE_at T r N (gg_y G r) σ) (hok : gd_ok G T N) (hm : m < T A n) (hTA : T A n ≤ 1000000000000000000)
    (k0 : ∀ k τ, gd_res T G k [(A, n, m)] [] [] none → fr_w σ τ → K (-2) (τ, false))
    (k1 : ∀ k R L τ, gd_res T G k [(A, n, m)] [] [] (some (R, L)) → fr_w σ τ → R.length ≤ 200 → L.length ≤ 16 → τ.1 12 = nI R.length → τ.1 13 = nI L.length → (∀ i, i < R.length → τ.2.1 12 i = nI (R.getD i 0)) → (∀ i, i < L.length → τ.2.1 13 i = nI (L.getD i 0)) → K (nI R.length) (gs_sS τ, true)) : C_We_weave (nI A) (nI n) (lN m) σ K := by
  intro X34 h34
  have key : ∀ (c step : Nat) (p : List (Nat × Nat × Nat)) (R L : List Nat) (τ : gs_St), step + c = 216 → fr_w σ τ → τ.1 8 = nI p.length → τ.1 9 = nI (gd_nt p) → τ.1 12 = nI R.length → τ.1 13 = nI L.length → (∀ i, i < R.length → τ.2.1 12 i = nI (R.getD i 0)) → (∀ i, i < L.length → τ.2.1 13 i = nI (L.getD i 0)) → pi_at p τ → (∀ e, e ∈ p → gd_v T e ∧ e.1 < 24) → gd_ln p + L.length = n → R.length + gd_nt p ≤ 200 → R.length + L.length = step → (∀ k o, gd_res T G k p R L o → ∃ k', gd_res T G k' [(A, n, m)] [] [] o) → X34 (nI step) τ := by
    intro c
    induction c with
    | zero =>
      intro step p R L τ hs hfr h8 h9 h12 h13 hRa hLa hp hv hln hR hst hch
      have hs : step = 216 := hs
      have hsz := gd_size (T := T) p (fun e he => (hv e he).1)
      have hp0 : p = [] := List.eq_nil_of_length_eq_zero (by omega)
      subst hp0
      obtain ⟨k', hk'⟩ := hch 1 (some (R, L)) rfl
      apply h34
      refine br_t (by rw [hs]; decide) ?_
      have e : (gs_sS τ).1 10 = nI R.length := h12
      rw [e]
      exact k1 k' R L τ hk' hfr (by omega) (by omega) h12 h13 hRa hLa
    | succ c ih =>
      intro step p R L τ hs hfr h8 h9 h12 h13 hRa hLa hp hv hln hR hst hch
      have hsz := gd_size (T := T) p (fun e he => (hv e he).1)
      apply h34
      refine pk_le 216 step (fun q => absurd q (by omega)) (fun _ => ?_)
      cases p with
      | nil =>
        obtain ⟨k', hk'⟩ := hch 1 (some (R, L)) rfl
        have e : (gs_sS τ).1 10 = nI R.length := h12
        rw [h8, e]
        exact br_t (by decide) (k1 k' R L τ hk' hfr (by omega) (by omega) h12 h13 hRa hLa)
      | cons e p =>
        have hlen : (e :: p).length = p.length + 1 := rfl
        have hlc : gd_ln (e :: p) = e.2.1 + gd_ln p := rfl
        obtain ⟨hve, he24⟩ := hv e List.mem_cons_self
        have hvp : ∀ x, x ∈ p → gd_v T x ∧ x.1 < 24 := fun x hx => hv x (List.mem_cons_of_mem _ hx)
        rw [h8]
        refine br_f (nI_nle (by omega) (by omega)) ?_
        rw [hlen, nI_pred]
        intro σ5 e5
        have f5 : fr_w σ σ5 := by rw [e5]; exact hfr.tr (fr_w.I (Or.inl rfl))
        have g8 : σ5.1 8 = nI p.length := by rw [e5]; rfl
        have g9 : σ5.1 9 = nI (gd_nt (e :: p)) := by rw [e5]; exact h9
        have g12 : σ5.1 12 = nI R.length := by rw [e5]; exact h12
        have g13 : σ5.1 13 = nI L.length := by rw [e5]; exact h13
        have gA : σ5.2.1 = τ.2.1 := by rw [e5]; rfl
        have gL : σ5.2.2 = τ.2.2 := by rw [e5]; rfl
        have top : pc_at σ5 p.length e := by
          have := hp 0 e rfl
          rw [hlen, show p.length + 1 - 1 - 0 = p.length by omega] at this
          unfold pc_at
          rw [gA, gL]
          exact this
        have rest : pi_at p σ5 := fun k x hk => by
          have := hp (k + 1) x hk
          rw [hlen, show p.length + 1 - 1 - (k + 1) = p.length - 1 - k by omega] at this
          unfold pc_at
          rw [gA, gL]
          exact this
        have hp216 : p.length < 216 := by omega
        rw [g8]
        refine ⟨vp_in_nI hp216 (by decide), ?_⟩
        rw [nI_clamp (by omega), top.1]
        refine nm_e (s_isNtN (by omega) (fun q => br_t (by decide) ?_) (fun q => br_f (fun z => z rfl) ?_))
        · rw [gd_nt_cons, if_pos q] at g9 hR
          rw [g8]
          refine ⟨vp_in_nI hp216 (by decide), vp_in_nI hp216 (by decide), ?_⟩
          rw [nI_clamp (by omega), top.2.1, top.2.2]
          have hen : e.2.1 < N := by omega
          obtain ⟨hv1, hv2⟩ := hve.1 q
          refine s_unfold (T := T) (N := N) (f5.gr h) q hen hN (f5.gt hT) hTb (fun r hr => f5.gE (hE r hr)) (hok _ _ q hen) hv1 hv2 (fun r m' hpk hr hm' hmb => ?_)
          obtain ⟨s1, s2, s3⟩ := gd_sp_ok _ _ _ hm' hmb
          have hnt : gd_nt (gd_sp T (gg_y G r) e.2.1 m') = gg_ntn (gg_y G r) := by
            unfold gd_nt
            rw [s3]
          have hvn : ∀ x, x ∈ gd_sp T (gg_y G r) e.2.1 m' ++ p → gd_v T x ∧ x.1 < 24 := fun x hx => by
            rcases List.mem_append.mp hx with z | z
            · refine ⟨s1 x z, ?_⟩
              have hxm : x.1 ∈ gg_y G r := by
                rw [← s3]
                exact List.mem_map_of_mem z
              obtain ⟨i, hi, ei⟩ := List.getElem_of_mem hxm
              have := (h.1.2 r hr).2.2 i hi
              rw [gg_getD hi, ei] at this
              exact this
            · exact hvp x z
          have hszn := gd_size (T := T) (gd_sp T (gg_y G r) e.2.1 m' ++ p) (fun x hx => (hvn x hx).1)
          rw [gd_nt_app, gd_ln_app, s2, hnt, List.length_append] at hszn
          have hspl : (gd_sp T (gg_y G r) e.2.1 m').length = (gg_y G r).length := by
            rw [← List.length_map (f := fun e : Nat × Nat × Nat => e.1), s3]
          refine s_unfoldRule (T := T) (N := N) (p := p) (R := R.length) (f5.gr h) hr hen hN (f5.gt hT) hTb (f5.gE (hE r hr)) hm' hmb g8 (by rw [g9, Nat.add_comm]) g12 (by omega) (by omega) rest (fun z => by omega) (fun z τ2 f2 => ?_) (fun z τ2 f2 t8 t9 t12 t13 tA tR tB tp => ?_)
          · refine br_f (fun y => y rfl) ?_
            obtain ⟨k, hk⟩ := gd_much hok 200 (gd_sp T (gg_y G r) e.2.1 m' ++ p) (R ++ [r]) L (by omega) (by rw [List.length_append]; show R.length + 1 ≤ 200; omega) (fun x hx => (hvn x hx).1) (by rw [gd_ln_app, s2]; omega) (by rw [gd_nt_app, hnt, List.length_append]; show 200 < (R.length + 1) + _; omega)
            obtain ⟨k', hk'⟩ := hch (k + 1) none (gd_res_nt q hpk (by omega) hk)
            exact k0 k' τ2 hk' (f5.tr f2)
          · refine br_t (by decide) (nm_r (nI_1 step) (ih (step + 1) (gd_sp T (gg_y G r) e.2.1 m' ++ p) (R ++ [r]) L τ2 (by omega) (f5.tr f2) t8 ?_ ?_ ?_ (fun i hi => ?_) (fun i hi => ?_) tp hvn ?_ ?_ ?_ (fun k o hk => hch (k + 1) o (gd_res_nt q hpk (by omega) hk))))
            · rw [t9, gd_nt_app, hnt, Nat.add_comm]
            · rw [t12, List.length_append]
              rfl
            · rw [t13, g13]
            · rw [List.length_append] at hi
              have hi : i < R.length + 1 := hi
              by_cases ei : i = R.length
              · rw [ei, getD_append_e, tR]
              · rw [getD_append_l (by omega), tA i ei, gA]
                exact hRa i (by omega)
            · rw [tB, gA]
              exact hLa i hi
            · rw [gd_ln_app, s2]
              omega
            · rw [gd_nt_app, hnt, List.length_append]
              show R.length + 1 + _ ≤ 200
              omega
            · rw [List.length_append]
              show R.length + 1 + L.length = step + 1
              omega
        · have hel := hve.2 q
          rw [gd_nt_cons, if_neg (by omega)] at g9 hR
          refine s_addLeaf (c := L.length) g13 (by omega) (fun τ2 f2 t8 t9 t12 t13 tp8 tp9 tA tB tL => ?_)
          refine nm_r (nI_1 step) (ih (step + 1) p R (L ++ [e.1]) τ2 (by omega) (f5.tr f2) (t8.trans g8) (by rw [t9, g9, Nat.zero_add]) (t12.trans g12) ?_ (fun i hi => ?_) (fun i hi => ?_) (fun k x hk => ?_) hvp ?_ (by omega) ?_ (fun k o hk => hch (k + 1) o (gd_res_t (by omega) hk)))
          · rw [t13, List.length_append]
            rfl
          · rw [tA, gA]
            exact hRa i hi
          · rw [List.length_append] at hi
            have hi : i < L.length + 1 := hi
            rw [tB]
            by_cases ei : i = L.length
            · rw [ei, getD_append_e, pk_us]
            · rw [getD_append_l (by omega), pk_un ei, gA]
              exact hLa i (by omega)
          · have := rest k x hk
            unfold pc_at at this ⊢
            rw [tp8, tp9, tL]
            exact this
          · rw [List.length_append]
            show gd_ln p + (L.length + 1) = n
            omega
          · rw [List.length_append]
            show R.length + (L.length + 1) = step + 1
            omega
  intro σ1 e1 σ2 e2
  have f2 : fr_w σ σ2 := by
    rw [e2, e1]
    exact (fr_w.I (Or.inr (Or.inr (Or.inl rfl)))).tr (fr_w.I (Or.inr (Or.inr (Or.inr rfl))))
  refine s_put (j := 0) (s := A) (n := n) (m := m) (by decide) (fun τ f3 g1 gA gB hpc _ => ?_)
  intro σ3 e3 σ4 e4
  refine key 216 0 [(A, n, m)] [] [] σ4 rfl ?_ ?_ ?_ ?_ ?_ (fun i hi => absurd hi (Nat.not_lt_zero _)) (fun i hi => absurd hi (Nat.not_lt_zero _)) (fun k x hk => ?_) (fun x hx => ?_) ?_ ?_ rfl (fun k o hk => ⟨k, hk⟩)
  · rw [e4, e3]
    exact ((f2.tr f3).tr (fr_w.I (Or.inl rfl))).tr (fr_w.I (Or.inr (Or.inl rfl)))
  · rw [e4, e3]; rfl
  · rw [e4]
    show (1 : Int32) = nI (gd_nt [(A, n, m)])
    rw [gd_nt_cons, if_pos hA]
    rfl
  · rw [e4, e3]
    show τ.1 12 = _
    rw [g1, e2, e1]
    rfl
  · rw [e4, e3]
    show τ.1 13 = _
    rw [g1, e2]
    rfl
  · cases k with
    | zero =>
      injection hk with hk
      rw [← hk, e4, e3]
      exact hpc
    | succ k => cases hk
  · rcases List.mem_cons.mp hx with z | z
    · rw [z]
      exact ⟨⟨fun _ => ⟨hm, hTA⟩, fun z => absurd z (by show ¬ 8 ≤ A; omega)⟩, by show A < 24; omega⟩
    · exact absurd z List.not_mem_nil
  · show n + 0 + 0 = n
    omega
  · show 0 + gd_nt [(A, n, m)] ≤ 200
    rw [gd_nt_cons, if_pos hA]
    decide
end L2O
