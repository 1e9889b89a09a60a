/-! Layer 2: the class's number. -/
theorem nt_tt_app {G : gg_R} : ∀ (a b : List Nat), nt_tt G (a ++ b) = nt_tt G a + nt_tt G b
  | [], b => by show nt_tt G b = 0 + nt_tt G b; omega
  | r :: a, b => by
    have := nt_tt_app (G := G) a b
    show nt_tm (gg_y G r) + nt_tt G (a ++ b) = (nt_tm (gg_y G r) + nt_tt G a) + nt_tt G b
    omega
theorem map_getD {l : List Int32} {rs : List Nat} {i : Nat} (h : l = rs.map nI) (hi : i < rs.length) : l.getD i 0 = nI (rs.getD i 0) := by
  rw [h, List.getD_eq_getElem?_getD, List.getElem?_map, List.getElem?_eq_getElem hi, gg_getD hi]
  rfl
section M2K
variable {G : gg_R} {σ : gs_St} {T : Nat → Nat → Nat} {N : Nat} {l : List Int32}
theorem s_terminals {K : Int32 → gs_St → Prop} (h : gr_at G σ) (hl : li_at l σ) (k0 : (∀ rs : List Nat, l = rs.map nI → ¬ ∀ r, r ∈ rs → r < G.length) → K (-1) σ) (k1 : ∀ rs : List Nat, l = rs.map nI → (∀ r, r ∈ rs → r < G.length) → nt_tt G rs ≤ 1200 → K (nI (nt_tt G rs)) σ) : C_Li_terminals σ K := by
  intro X4 h4
  have hG := h.1.1
  obtain ⟨l1, l2, l3⟩ := hl
  have key : ∀ (n i : Nat) (rs : List Nat), i + n = l.length → rs.length = i → l.take i = rs.map nI → (∀ r, r ∈ rs → r < G.length) → nt_tt G rs ≤ 6 * i → X4 (nI (nt_tt G rs)) (nI i) σ := by
    intro n
    induction n with
    | zero =>
      intro i rs hi hrl hrs hv hb
      have hi : i = l.length := hi
      apply h4
      refine pk_le l.length i (fun _ => ?_) (fun q => absurd q (by omega)) l2
      refine k1 rs ?_ hv (by omega)
      rw [← hrs, hi, List.take_length]
    | succ n ih =>
      intro i rs hi hrl hrs hv hb
      have hi' : i < l.length := by omega
      have vi : vp_in (nI i) 200 := vp_in_nI (by omega) (by decide)
      apply h4
      refine pk_le l.length i (fun q => absurd q (by omega)) (fun _ => ⟨vi, ?_⟩) l2
      rw [nI_clamp (by omega), l3 i hi']
      refine s_has h (fun r hr er => br_t (by decide) ⟨vi, ?_⟩) (fun hno => br_f (fun z => z rfl) (k0 (fun rs2 e2 hv2 => ?_)))
      · obtain ⟨hl8, hz, h24⟩ := h.1.2 r hr
        have htm := nt_tm_eq (gg_y G r)
        rw [l3 i hi', er]
        refine s_sizeOf h hr ⟨vi, ?_⟩
        rw [l3 i hi', er]
        refine s_ntIn h hr ?_
        have etm : (gg_y G r).length - gg_ntn (gg_y G r) = nt_tm (gg_y G r) := by omega
        rw [pk_sub (by omega), etm, nI_add]
        have ett : nt_tt G rs + nt_tm (gg_y G r) = nt_tt G (rs ++ [r]) := by
          rw [nt_tt_app]
          rfl
        rw [ett]
        refine nm_e (nm_r (nI_1 i) (ih (i + 1) (rs ++ [r]) (by omega) (by rw [List.length_append, hrl]; rfl) ?_ (fun q hq => ?_) (by rw [← ett]; omega)))
        · rw [List.take_succ, hrs, List.map_append, List.getElem?_eq_getElem hi']
          congr 1
          have : l.getD i 0 = l[i] := gg_getD hi'
          rw [er] at this
          rw [← this]
          rfl
        · rcases List.mem_append.mp hq with z | z
          · exact hv q z
          · rw [List.mem_singleton.mp z]
            exact hr
      · have hlen : rs2.length = l.length := by rw [e2, List.length_map]
        have e := map_getD e2 (show i < rs2.length by omega)
        refine hno (rs2.getD i 0) (hv2 _ ?_) e
        rw [gg_getD (show i < rs2.length by omega)]
        exact List.getElem_mem _
  exact key l.length 0 [] (by omega) rfl rfl (fun r hr => absurd hr List.not_mem_nil) (Nat.le_refl 0)
theorem s_treesBefore {r n : Nat} {K : Int64 → gs_St → Prop} (h : gr_at G σ) (hr : r < G.length) (hn : n < N) (hN : N ≤ 17) (hE : ∀ q, q < G.length → gE_at T q N (gg_y G q) σ) (k : K (lN (gc_pt T G (fun _ => true) (gg_l G r) n r)) σ) : C_Li_treesBefore (nI r) (nI n) σ K := by
  intro X5 h5
  have hG := h.1.1
  have hl8 := (h.1.2 r hr).1
  have key : ∀ (c q : Nat), q + c = r → X5 (nI r) (nI n) (lN (gc_pt T G (fun _ => true) (gg_l G r) n q)) (nI q) σ := by
    intro c
    induction c with
    | zero =>
      intro q hq
      have hq : q = r := hq
      subst hq
      apply h5
      exact pk_le q q (fun _ => k) (fun z => absurd z (by omega))
    | succ c ih =>
      intro q hq
      have hq' : q < G.length := by omega
      have hl8q := (h.1.2 q hq').1
      have hnx : gc_pt T G (fun _ => true) (gg_l G r) n (q + 1) = gc_pt T G (fun _ => true) (gg_l G r) n q + (if true = true ∧ gg_l G q = gg_l G r then gc_E T (gg_y G q) n else 0) := rfl
      apply h5
      refine pk_le r q (fun z => absurd z (by omega)) (fun _ => ?_)
      refine s_leftOf h hq' (s_leftOf h hr ?_)
      refine ek_if (not_congr (nI_eq (by omega) (by omega))) (fun z => ?_) (fun z => ?_)
      · have e : gc_pt T G (fun _ => true) (gg_l G r) n (q + 1) = gc_pt T G (fun _ => true) (gg_l G r) n q := hnx.trans (by rw [if_neg (fun y => z y.2)]; rfl)
        rw [← e]
        exact nm_r (nI_1 q) (ih (q + 1) (by omega))
      · have z : gg_l G q = gg_l G r := Classical.byContradiction z
        rw [if_pos ⟨rfl, z⟩] at hnx
        refine s_endingsOf (i := 0) (by omega) (by decide) (by omega) ?_
        have hv : σ.2.2 1 (ge_at q 0 n) = lN (gc_E T (gg_y G q) n) := hE q hq' 0 (Nat.zero_le _) n hn
        rw [hv, lN_add, ← hnx]
        exact nm_e (nm_r (nI_1 q) (ih (q + 1) (by omega)))
  exact key r 0 (by omega)
theorem s_numberInRule {r n : Nat} {P R : List (Nat × Nat × Nat)} {ps : List (Nat × Nat)} {K : Int64 → gs_St → Prop} (h : gr_at G σ) (hr : r < G.length) (hN : N ≤ 17) (hT : gt_at T N σ) (hTb : ∀ A p, T A p ≤ 1000000000000000001) (hE : gE_at T r N (gg_y G r) σ) (h8 : σ.1 8 = nI P.length) (hP : P.length ≤ 200) (hpi : pi_at P σ) (htk : nt_tk (gg_y G r) P = some (ps, R)) (hln : nt_ln ps = n) (hn : n < N)
    (k : K (lN (nt_nb T (gg_y G r) ps n)) σ) : C_Li_numberInRule (nI r) (nI n) σ K := by
  intro X17 X82 h17 h82
  have hG := h.1.1
  obtain ⟨hl8, hz, h24⟩ := h.1.2 r hr
  have key : ∀ (zs : List Nat) (i left sum : Nat) (Q : List (Nat × Nat × Nat)) (qs : List (Nat × Nat)), (gg_y G r).drop i = zs → i + zs.length = (gg_y G r).length → nt_tk zs Q = some (qs, R) → nt_ln qs = left → left ≤ n → Q.length ≤ 200 → pi_at Q σ → sum + nt_nb T zs qs left = nt_nb T (gg_y G r) ps n → X17 (nI r) (lN sum) (nI left) (nI Q.length) (nI i) σ := by
    intro zs
    induction zs with
    | nil =>
      intro i left sum Q qs hd hi htk hl hle hQ hpi hs
      have hi : i = (gg_y G r).length := hi
      apply h17
      refine s_sizeOf h hr (pk_le (gg_y G r).length i (fun _ => ?_) (fun z => absurd z (by omega)))
      have hs : sum + 0 = nt_nb T (gg_y G r) ps n := hs
      rw [← hs] at k
      exact k
    | cons s zs ih =>
      intro i left sum Q qs hd hi htk hl hle hQ hpi hs
      obtain ⟨h1, h2, h3⟩ := gg_cons hd
      have hi : i + (zs.length + 1) = (gg_y G r).length := hi
      have hs24 := h24 i h1
      rw [h2] at hs24
      -- behind the symbol's part and number
      have part : ∀ (p m : Nat) (Q' : List (Nat × Nat × Nat)) (qs' : List (Nat × Nat)), nt_tk zs Q' = some (qs', R) → p + nt_ln qs' = left → Q'.length ≤ 200 → pi_at Q' σ → sum + (gc_sum (fun q => gd_w T s zs left q) p + m * gc_E T zs (left - p) + nt_nb T zs qs' (left - p)) = nt_nb T (gg_y G r) ps n → X82 (nI r) (lN sum) (nI left) (nI Q'.length) (nI i) (nI p) (lN m) 0 σ := by
        intro p m Q' qs' htk' hp hQ' hpi' hs'
        have inner : ∀ (c q : Nat), q + c = p → X82 (nI r) (lN (sum + gc_sum (fun q => gd_w T s zs left q) q)) (nI left) (nI Q'.length) (nI i) (nI p) (lN m) (nI q) σ := by
          intro c
          induction c with
          | zero =>
            intro q hq
            have hq : q = p := hq
            subst hq
            apply h82
            refine pk_le q q (fun _ => nm_r (pk_sub (by omega)) ?_) (fun z => absurd z (by omega))
            rw [nI_1]
            refine s_endingsOf (by omega) (by omega) (by omega) ?_
            rw [hE (i + 1) (by omega) (left - q) (by omega), h3, lN_mul, lN_add]
            exact nm_e (nm_e (ih (i + 1) (left - q) _ Q' qs' h3 (by omega) htk' (by omega) (by omega) hQ' hpi' (by omega)))
          | succ c ihc =>
            intro q hq
            apply h82
            refine pk_le p q (fun z => absurd z (by omega)) (fun _ => ?_)
            refine s_endingsWith (T := T) (N := N) h hr h1 (by omega) (by omega) hN hT hTb hE ?_
            rw [h2, h3, lN_add]
            have e : sum + gc_sum (fun q => gd_w T s zs left q) q + gd_w T s zs left q = sum + gc_sum (fun q => gd_w T s zs left q) (q + 1) := by
              show _ = sum + (gc_sum (fun q => gd_w T s zs left q) q + gd_w T s zs left q)
              omega
            rw [e]
            exact nm_e (nm_r (nI_1 q) (ihc (q + 1) (by omega)))
        exact inner p 0 (by omega)
      apply h17
      refine s_sizeOf h hr (pk_le (gg_y G r).length i (fun z => absurd z (by omega)) (fun _ => ?_))
      refine s_symbolAt h hr h1 ?_
      rw [h2]
      by_cases hs8 : s < 8
      · refine s_isNtN (by omega) (fun _ => br_f (by decide) ?_) (fun z => absurd hs8 (by omega))
        cases Q with
        | nil => rw [nt_tk_no hs8] at htk; cases htk
        | cons e Q' =>
          by_cases he : e.1 = s
          · rw [nt_tk_nt hs8 he] at htk
            cases hq : nt_tk zs Q' with
            | none => rw [hq] at htk; cases htk
            | some q =>
              rw [hq] at htk
              injection htk with htk
              injection htk with t1 t2
              subst t1
              have hlenQ : (e :: Q').length = Q'.length + 1 := rfl
              have top := hpi 0 e rfl
              rw [hlenQ, show Q'.length + 1 - 1 - 0 = Q'.length by omega] at top
              have rest : pi_at Q' σ := fun k x hk => by
                have := hpi (k + 1) x hk
                rw [hlenQ, show Q'.length + 1 - 1 - (k + 1) = Q'.length - 1 - k by omega] at this
                exact this
              rw [hlenQ]
              have vq : vp_in (nI Q'.length) 216 := vp_in_nI (by omega) (by decide)
              refine nm_r (pk_m1 _) ⟨vq, ?_⟩
              rw [nI_clamp (by omega), top.2.1, top.2.2]
              have hl' : e.2.1 + nt_ln q.1 = left := hl
              refine nm_e ⟨vq, nm_e (part e.2.1 e.2.2 Q' q.1 (by rw [hq, ← t2]) hl' (by omega) rest ?_)⟩
              exact hs
          · rw [nt_tk_ne hs8 he] at htk
            cases htk
      · refine s_isNtN (by omega) (fun z => absurd z hs8) (fun _ => br_t rfl ?_)
        rw [nt_tk_t hs8] at htk
        cases hq : nt_tk zs Q with
        | none => rw [hq] at htk; cases htk
        | some q =>
          rw [hq] at htk
          injection htk with htk
          injection htk with t1 t2
          subst t1
          have hl' : 1 + nt_ln q.1 = left := hl
          exact part 1 0 Q q.1 (by rw [hq, ← t2]) hl' hQ hpi hs
  refine nm_r h8 ?_
  exact key (gg_y G r) 0 n 0 P ps rfl (by omega) htk hln (Nat.le_refl _) hP hpi (Nat.zero_add _)
theorem s_fold {r : Nat} {P : List (Nat × Nat × Nat)} {K : Int32 → gs_St → Prop} (h : gr_at G σ) (hr : r < G.length) (hN : N ≤ 17) (hT : gt_at T N σ) (hTb : ∀ A p, T A p ≤ 1000000000000000001) (hE : ∀ q, q < G.length → gE_at T q N (gg_y G q) σ) (h8 : σ.1 8 = nI P.length) (hP : P.length ≤ 200) (hpi : pi_at P σ) (hs24 : ∀ e, e ∈ P → e.1 < 24) (hn : gd_ln P + nt_tm (gg_y G r) < N)
    (k0 : nt_fd T G r P = none → K 0 σ) (k1 : ∀ P' τ, nt_fd T G r P = some P' → fr_w σ τ → τ.1 8 = nI P'.length → pi_at P' τ → K 1 τ) : C_Li_fold (nI r) σ K := by
  intro X13 h13
  have hG := h.1.1
  obtain ⟨hl8, hz, h24⟩ := h.1.2 r hr
  have key : ∀ (zs : List Nat) (i : Nat) (Q : List (Nat × Nat × Nat)) (pre : List (Nat × Nat)), (gg_y G r).drop i = zs → i + zs.length = (gg_y G r).length → Q.length ≤ 200 → pi_at Q σ → (∀ e, e ∈ Q → e.1 < 24) → (nt_tk zs Q = none → nt_tk (gg_y G r) P = none) → (∀ qs R, nt_tk zs Q = some (qs, R) → nt_tk (gg_y G r) P = some (pre ++ qs, R)) → X13 (nI r) (nI (nt_ln pre)) (nI Q.length) (nI i) σ := by
    intro zs
    induction zs with
    | nil =>
      intro i Q pre hd hi hQ hpiQ hs24 hno hyes
      have hi : i = (gg_y G r).length := hi
      have htk := hyes [] Q rfl
      rw [List.append_nil] at htk
      obtain ⟨a1, a2, a3, a4⟩ := nt_tk_ok (T := T) _ _ _ _ htk
      apply h13
      refine s_sizeOf h hr (pk_le (gg_y G r).length i (fun _ => ?_) (fun z => absurd z (by omega)))
      refine s_treesBefore (T := T) (N := N) h hr (by omega) hN hE ?_
      refine s_numberInRule (T := T) (N := N) h hr hN hT hTb (hE r hr) h8 hP hpi htk rfl (by omega) ?_
      refine nm_r (lN_add _ _) (s_leftOf h hr ?_)
      refine s_put (j := Q.length) (by omega) (fun τ f2 g1 _ _ hpc hold => ?_)
      intro σ12 e12
      have hfd : nt_fd T G r P = some ((gg_l G r, nt_ln pre, gc_pt T G (fun _ => true) (gg_l G r) (nt_ln pre) r + nt_nb T (gg_y G r) pre (nt_ln pre)) :: Q) := by
        unfold nt_fd
        rw [htk]
      refine k1 _ σ12 hfd (by rw [e12]; exact f2.tr (fr_w.I (Or.inl rfl))) ?_ (fun k e hk => ?_)
      · rw [e12]
        show nI Q.length + 1 = _
        rw [nI_1]
        rfl
      · rw [e12]
        show pc_at τ (Q.length + 1 - 1 - k) e
        cases k with
        | zero =>
          injection hk with hk
          rw [← hk, show Q.length + 1 - 1 - 0 = Q.length by omega]
          exact hpc
        | succ k =>
          have hk : Q[k]? = some e := hk
          have hkl : k < Q.length := (List.getElem?_eq_some_iff.mp hk).1
          rw [show Q.length + 1 - 1 - (k + 1) = Q.length - 1 - k by omega]
          exact hold _ e (by omega) (hpiQ k e hk)
    | cons s zs ih =>
      intro i Q pre hd hi hQ hpiQ hs24 hno hyes
      obtain ⟨h1, h2, h3⟩ := gg_cons hd
      have hi : i + (zs.length + 1) = (gg_y G r).length := hi
      have hs24' := h24 i h1
      rw [h2] at hs24'
      have stop : nt_tk (s :: zs) Q = none → K 0 σ := fun z => k0 (by unfold nt_fd; rw [hno z])
      have lna : ∀ a : Nat × Nat, nt_ln (pre ++ [a]) = nt_ln pre + a.1 := fun a => by
        have gen : ∀ x : List (Nat × Nat), nt_ln (x ++ [a]) = nt_ln x + a.1 := by
          intro x
          induction x with
          | nil => show a.1 + 0 = 0 + a.1; omega
          | cons y x ihx => show y.1 + nt_ln (x ++ [a]) = (y.1 + nt_ln x) + a.1; omega
        exact gen pre
      apply h13
      refine s_sizeOf h hr (pk_le (gg_y G r).length i (fun z => absurd z (by omega)) (fun _ => ?_))
      refine s_symbolAt h hr h1 ?_
      rw [h2]
      by_cases hs8 : s < 8
      · refine s_isNtN (by omega) (fun _ => br_t (by decide) ?_) (fun z => absurd hs8 (by omega))
        cases Q with
        | nil => exact nm_e (br_t (by decide) (stop (nt_tk_no hs8)))
        | cons e Q' =>
          have hlenQ : (e :: Q').length = Q'.length + 1 := rfl
          have top := hpiQ 0 e rfl
          rw [hlenQ, show Q'.length + 1 - 1 - 0 = Q'.length by omega] at top
          have rest : pi_at Q' σ := fun k x hk => by
            have := hpiQ (k + 1) x hk
            rw [hlenQ, show Q'.length + 1 - 1 - (k + 1) = Q'.length - 1 - k by omega] at this
            exact this
          have he24 := hs24 e List.mem_cons_self
          have vq : vp_in (nI Q'.length) 216 := vp_in_nI (by omega) (by decide)
          rw [hlenQ]
          refine nm_r (pk_m1 _) (br_f (nI_pos (by omega)) ⟨vq, ?_⟩)
          rw [nI_clamp (by omega), top.1, top.2.1]
          refine ek_if (nI_eq (by omega) (by omega)) (fun he => ⟨vq, ?_⟩) (fun he => stop (nt_tk_ne hs8 he))
          refine nm_r (nI_add _ _) (nm_r (nI_1 i) ?_)
          rw [← lna (e.2.1, e.2.2)]
          refine ih (i + 1) Q' (pre ++ [(e.2.1, e.2.2)]) h3 (by omega) (by omega) rest (fun x hx => hs24 x (List.mem_cons_of_mem _ hx)) (fun z => hno (by rw [nt_tk_nt hs8 he, z])) (fun qs R z => ?_)
          rw [hyes ((e.2.1, e.2.2) :: qs) R (by rw [nt_tk_nt hs8 he, z]), List.append_assoc]
          rfl
      · refine s_isNtN (by omega) (fun z => absurd z hs8) (fun _ => br_f (fun z => z rfl) ?_)
        refine nm_r (nI_1 _) (nm_r (nI_1 i) ?_)
        have e1 : nt_ln pre + 1 = nt_ln (pre ++ [(1, 0)]) := (lna (1, 0)).symm
        rw [e1]
        refine ih (i + 1) Q (pre ++ [(1, 0)]) h3 (by omega) hQ hpiQ hs24 (fun z => hno (by rw [nt_tk_t hs8, z])) (fun qs R z => ?_)
        rw [hyes ((1, 0) :: qs) R (by rw [nt_tk_t hs8, z]), List.append_assoc]
        rfl
  refine nm_r h8 ?_
  exact key (gg_y G r) 0 P [] rfl (by omega) hP hpi hs24 (fun z => z) (fun qs R z => z)
end M2K
section M2K2
variable {G : gg_R} {σ : gs_St} {t : List Nat} {l : List Int32} {d v : List Nat} {D O : Nat → Option Nat} {o : Nat → Nat} {T T' : Nat → Nat → Nat} {N N' : Nat}
theorem cl_fr {τ : gs_St} (hτ : cl_r t G l d v σ) (hw : st_w G D O o 8 T T' N N' σ) (f2 : fr_w σ τ) : cl_at t G l d v τ := by
  have fI := fun k a b c e => f2.1 k a b c e
  have fA := fun k a b c e => f2.2.1 k a b c e
  refine ⟨hτ.1.of (fI 0 (by decide) (by decide) (by decide) (by decide)) (fA 0 (by decide) (by decide) (by decide) (by decide)), f2.gr hτ.2.1, hτ.2.2.1.of (fI 14 (by decide) (by decide) (by decide) (by decide)) (fA 14 (by decide) (by decide) (by decide) (by decide)), hτ.2.2.2.1.of (fI 10 (by decide) (by decide) (by decide) (by decide)) (fI 11 (by decide) (by decide) (by decide) (by decide)) (fA 10 (by decide) (by decide) (by decide) (by decide)) (fA 11 (by decide) (by decide) (by decide) (by decide)), (fI 4 (by decide) (by decide) (by decide) (by decide)).trans hτ.2.2.2.2.1, Or.inr ⟨(fI 1 (by decide) (by decide) (by decide) (by decide)).trans hτ.2.2.2.2.2, ?_⟩⟩
  exact st_at.of ⟨D, O, o, 8, T, T', N, N', hw⟩ (fA 4 (by decide) (by decide) (by decide) (by decide)) (fA 5 (by decide) (by decide) (by decide) (by decide)) (fA 7 (by decide) (by decide) (by decide) (by decide)) (fI 3 (by decide) (by decide) (by decide) (by decide)) (fI 5 (by decide) (by decide) (by decide) (by decide)) (fI 6 (by decide) (by decide) (by decide) (by decide)) (fI 7 (by decide) (by decide) (by decide) (by decide)) (f2.2.2 0 (by decide)) (f2.2.2 1 (by decide)) (f2.2.2 2 (by decide)) (f2.2.2 3 (by decide))
/-- where the walk doesn't end in one tree of A, there is no such number -/
theorem an_nr_no {A : Nat} {rs : List Nat} (hG : gg_ok G) (hA : A < 8) (hl : l = rs.map nI) (hv : ∀ r, r ∈ rs → r < G.length) (hD : gm_L G D) (ho : gg_ord (gg_to G D) o 8) (hok : gc_okk (fun y => D y = some 0) G (fun _ => true) T N) (hN : nt_tt G rs < N) (hno : ¬ (T A (nt_tt G rs) ≤ 1000000000000000000 ∧ ∃ m, nt_nf T G rs = some [(A, nt_tt G rs, m)])) : ∀ m, ¬ an_nr G A l m := by
  rintro m ⟨rs', T2, D2, o2, N2, g1, g2, g3, g4, g5, g6, g7, g8, g9⟩
  have e : rs = rs' := nI_map_inj hG.1 rs rs' hv g2 (hl.symm.trans g1)
  subst e
  have hT : ∀ x p, x < 8 → p ≤ nt_tt G rs → T2 x p = T x p := fun x p hx hp => gc_two hG g4 hD g5 g6 hok p (by omega) (by omega) x hx
  refine hno ⟨?_, m, ?_⟩
  · rw [← hT A (nt_tt G rs) hA (Nat.le_refl _)]
    exact g8
  · rw [← nt_nf_eq hT hG g6.1 g7 rs hv (Nat.le_refl _)]
    exact g9
theorem s_numberOf {A : Nat} {K : Int64 → gs_St → Prop} (h : cl_r t G l d v σ) (hw : st_w G D O o 8 T T' N N' σ) (hA : A < 8)
    (k0 : ∀ τ, cl_at t G l d v τ → (∀ m, ¬ an_nr G A l m) → K (-1) τ) (k1 : ∀ m τ, cl_at t G l d v τ → an_nr G A l m → K (lN m) τ) : C_Li_numberOf (nI A) σ K := by
  intro X51 h51
  refine s_terminals h.2.1 h.2.2.1 (fun hno => br_t rfl (k0 σ (h.cl ⟨D, O, o, 8, T, T', N, N', hw⟩) (fun m hm => ?_))) (fun rs hrs hv htt => ?_)
  · obtain ⟨rs, T2, D2, o2, N2, g1, g2, -⟩ := hm
    exact hno rs g1 g2
  · have hG24 := h.2.1.1.1
    refine br_f (fun z => ?_) ?_
    · have := nI_pos (n := nt_tt G rs) (by omega)
      rw [z] at this
      exact this (by decide)
    refine pk_lt 16 (nt_tt G rs) (fun q => k0 σ (h.cl ⟨D, O, o, 8, T, T', N, N', hw⟩) (fun m hm => ?_)) (fun q => ?_)
    · obtain ⟨rs2, T2, D2, o2, N2, g1, g2, g3, -⟩ := hm
      have e : rs = rs2 := nI_map_inj hG24 rs rs2 hv g2 (hrs.symm.trans g1)
      subst e
      omega
    · refine s_treesAll h hw hA q (fun T2 N2 τ hτ hw2 hn2 => ?_)
      obtain ⟨h1, h2, h3, h4, h5, h6, h7, h8, h9, h10, h11, h12, h13, h14, h15, h16, h17⟩ := id hw2
      have hb := h14.1 A (nt_tt G rs)
      rw [gl_18]
      refine ek_if (pk_lLE (by omega) (by decide)) (fun qT => ?_) (fun qT => k0 τ (hτ.cl ⟨D, O, o, 8, T2, T', N2, N', hw2⟩) (an_nr_no hτ.2.1.1 hA hrs hv h3 h7 h14.2.2.1 hn2 (fun z => qT z.1)))
      intro σ5 e5
      have hlen : rs.length = l.length := by rw [hrs, List.length_map]
      have hl200 := hτ.2.2.1.1
      have f5 : fr_w τ σ5 := by rw [e5]; exact fr_w.I (Or.inl rfl)
      have nov : (¬ ∃ m, nt_nf T2 G rs = some [(A, nt_tt G rs, m)]) → ∀ ρ, fr_w τ ρ → K (-1) ρ := fun hno ρ fρ => k0 ρ (cl_fr hτ hw2 fρ) (an_nr_no hτ.2.1.1 hA hrs hv h3 h7 h14.2.2.1 hn2 (fun z => hno z.2))
      have key : ∀ (c : Nat) (P : List (Nat × Nat × Nat)) (ρ : gs_St), c ≤ rs.length → fr_w τ ρ → nt_nf T2 G (rs.drop c) = some P → ρ.1 8 = nI P.length → pi_at P ρ → X51 (nI A) (nI c - 1) ρ := by
        intro c
        induction c with
        | zero =>
          intro P ρ hc fρ hnf h8' hpi
          have hnf : nt_nf T2 G rs = some P := hnf
          obtain ⟨a1, a2, a3⟩ := nt_nf_ok hτ.2.1.1 h14.2.2.1.1 rs P hv hnf hn2
          have v0 : vp_in (0 : Int32) 216 := vp_in_nI (n := 0) (by decide) (by decide)
          have c0 : (0 : Int32).toNatClampNeg = 0 := by decide
          apply h51
          refine br_t (by decide) ?_
          rw [h8', c0]
          refine ek_if (not_congr (nI_eq (a := P.length) (b := 1) (by omega) (by decide))) (fun z => nov (fun ⟨m, hm⟩ => z (by rw [hnf] at hm; injection hm with hm; rw [hm]; rfl)) ρ fρ) (fun z => ⟨v0, ?_⟩)
          have z : P.length = 1 := Classical.byContradiction z
          match P, z with
          | [e], _ =>
            have top := hpi 0 e rfl
            have top : pc_at ρ 0 e := top
            obtain ⟨v1, v2, v3⟩ := a1 e List.mem_cons_self
            have eln : e.2.1 = nt_tt G rs := by
              have : e.2.1 + 0 = nt_tt G rs := a2
              omega
            rw [top.1, top.2.2]
            refine ek_if (not_congr (nI_eq (by omega) (by omega))) (fun y => nov (fun ⟨m, hm⟩ => y (by rw [hnf] at hm; injection hm with hm; injection hm with hm _; rw [hm])) ρ fρ) (fun y => ⟨v0, ?_⟩)
            have y : e.1 = A := Classical.byContradiction y
            refine k1 e.2.2 ρ (cl_fr hτ hw2 fρ) ⟨rs, T2, D, o, N2, hrs, hv, q, h3, h7, h14.2.2.1, hn2, qT, ?_⟩
            rw [hnf, ← eln, ← y]
        | succ c ih =>
          intro P ρ hc fρ hnf h8' hpi
          have hc' : c < rs.length := by omega
          have edrop : rs.drop c = rs.getD c 0 :: rs.drop (c + 1) := gg_drop hc'
          have hvd : ∀ r, r ∈ rs.drop (c + 1) → r < G.length := fun r hr => hv r (List.mem_of_mem_drop hr)
          have hrc : rs.getD c 0 < G.length := hv _ (by rw [gg_getD hc']; exact List.getElem_mem _)
          have htd := nt_tt_drop (G := G) (c + 1) rs
          have htd0 := nt_tt_drop (G := G) c rs
          rw [edrop] at htd0
          have htd0 : nt_tm (gg_y G (rs.getD c 0)) + nt_tt G (rs.drop (c + 1)) ≤ nt_tt G rs := htd0
          obtain ⟨a1, a2, a3⟩ := nt_nf_ok hτ.2.1.1 h14.2.2.1.1 (rs.drop (c + 1)) P hvd hnf (by omega)
          have hPl : P.length ≤ 200 := by
            rw [List.length_drop] at a3
            omega
          rw [nI_pred]
          apply h51
          refine br_f (nI_pos (by omega)) ⟨vp_in_nI (by omega) (by decide), ?_⟩
          have el : ρ.2.1 14 c = nI (rs.getD c 0) := by
            rw [fρ.2.1 14 (by decide) (by decide) (by decide) (by decide), hτ.2.2.1.2.2 c (by omega)]
            exact map_getD hrs hc'
          rw [nI_clamp (by omega), el]
          refine s_fold (T := T2) (N := N2) (fρ.gr hτ.2.1) hrc h13 (fρ.gt h14.2.1) h14.1 (fun r hr => fρ.gE (h14.2.2.2 r hr rfl)) h8' hPl hpi (fun e he => by have := (a1 e he).1; omega) (by omega) (fun z => br_f (fun y => y rfl) (nov (fun ⟨m, hm⟩ => ?_) ρ fρ)) (fun P' ρ2 z f2 g8 gp => br_t (by decide) ?_)
          · have : nt_nf T2 G (rs.drop c) = none := by
              rw [edrop]
              show (match nt_nf T2 G (rs.drop (c + 1)) with | none => none | some P => nt_fd T2 G (rs.getD c 0) P) = none
              rw [hnf]
              exact z
            rw [nt_nf_none c rs this] at hm
            cases hm
          · rw [gv_m1]
            refine nm_e (ih P' ρ2 (by omega) (fρ.tr f2) ?_ g8 gp)
            rw [edrop]
            show (match nt_nf T2 G (rs.drop (c + 1)) with | none => none | some P => nt_fd T2 G (rs.getD c 0) P) = some P'
            rw [hnf]
            exact z
      have e14 : σ5.1 14 - (1 : Int32) = nI rs.length - 1 := by
        rw [e5]
        show τ.1 14 - 1 = _
        rw [hτ.2.2.1.2.1, hlen]
      refine nm_r e14 (key rs.length [] σ5 (Nat.le_refl _) f5 ?_ (by rw [e5]; rfl) (fun k e hk => by cases hk))
      rw [List.drop_eq_nil_iff.mpr (Nat.le_refl _)]
      rfl
theorem s_number {x : Int32} {K : Int64 → gs_St → Prop} (h : cl_at t G l d v σ)
    (k0 : ∀ τ, cl_at t G [] d v τ → ((∀ j, j < 8 → x ≠ nI j) ∨ an_circ G True ∨ ∀ j, j < 8 → x = nI j → ∀ m, ¬ an_nr G j l m) → K (-1) τ)
    (k1 : ∀ j, j < 8 → x = nI j → an_circ G False → ∀ m τ, cl_at t G [] d v τ → an_nr G j l m → K (lN m) τ) : C_Gl_number x σ K := by
  have clr : ∀ τ ρ : gs_St, ρ = gs_I τ 14 0 → cl_at t G l d v τ → cl_at t G [] d v ρ := fun τ ρ e hc => by
    rw [e]
    exact ⟨hc.1.of rfl rfl, hc.2.1.of rfl rfl rfl rfl, ⟨by decide, rfl, fun i hi => absurd hi (Nat.not_lt_zero _)⟩, hc.2.2.2.1.of rfl rfl rfl rfl, hc.2.2.2.2.1, hc.2.2.2.2.2.elim Or.inl (fun z => Or.inr ⟨z.1, z.2.of rfl rfl rfl rfl rfl rfl rfl rfl rfl rfl rfl⟩)⟩
  refine s_isNt (fun j hj e => ?_) (fun hno => br_t rfl (fun ρ eρ => k0 ρ (clr σ ρ eρ h) (Or.inl hno)))
  subst e
  refine br_f (by decide) (s_circle h (fun τ hτ _ _ _ hc => br_t (by decide) (fun ρ eρ => k0 ρ (clr τ ρ eρ hτ) (Or.inr (Or.inl hc)))) (fun τ hτ hs h1 h3 hc => br_f (fun z => z rfl) ?_))
  obtain ⟨D, O, o, c, T, T', N, N', hw⟩ := hs
  have hc8 : c = 8 := by
    have e := hw.2.2.2.2.2.2.2.2.2.1
    rw [h3] at e
    have hle := hw.2.2.2.2.2.2.2.2.2.2.1
    exact ((nI_eq (by decide) (by omega)).mp e).symm
  subst hc8
  refine s_numberOf (hτ.r h1) hw hj (fun τ2 hτ2 hno => fun ρ eρ => k0 ρ (clr τ2 ρ eρ hτ2) (Or.inr (Or.inr (fun j' hj' ej m hm => ?_)))) (fun m τ2 hτ2 hm => fun ρ eρ => k1 j hj rfl hc m ρ (clr τ2 ρ eρ hτ2) hm)
  have : j = j' := (nI_eq (by omega) (by omega)).mp ej
  subst this
  exact hno m hm
end M2K2
