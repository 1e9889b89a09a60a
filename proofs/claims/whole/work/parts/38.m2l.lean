/-! Layer 2: the reference's number. -/
theorem gc_cap_mul (a b : Nat) : gc_cap (gc_cap a * b) = gc_cap (a * b) := by
  by_cases h : a ≤ 1000000000000000000
  · have e : gc_cap a = a := by unfold gc_cap; rw [if_pos h]
    rw [e]
  · have e : gc_cap a = 1000000000000000001 := by unfold gc_cap; rw [if_neg h]
    rw [e]
    by_cases hb : b = 0
    · rw [hb, Nat.mul_zero, Nat.mul_zero]
    · have h1 : 1000000000000000001 ≤ 1000000000000000001 * b := Nat.le_mul_of_pos_right _ (by omega)
      have h2 : a ≤ a * b := Nat.le_mul_of_pos_right _ (by omega)
      unfold gc_cap
      rw [if_neg (by omega), if_neg (by omega)]
theorem nt_nf_ln {T : Nat → Nat → Nat} {G : gg_R} (hG : gg_ok G) : ∀ (rs : List Nat) (P : List (Nat × Nat × Nat)), (∀ r, r ∈ rs → r < G.length) → nt_nf T G rs = some P → gd_ln P = nt_tt G rs ∧ P.length ≤ rs.length ∧ ∀ e, e ∈ P → e.1 < 8
  | [], P, _, h => by
    injection h with h
    subst h
    exact ⟨rfl, Nat.le_refl 0, fun e he => absurd he List.not_mem_nil⟩
  | r :: rs, P, hr, h => by
    have h : (match nt_nf T G rs with | none => none | some P => nt_fd T G r P) = some P := h
    cases hq : nt_nf T G rs with
    | none => rw [hq] at h; cases h
    | some Q =>
      rw [hq] at h
      obtain ⟨a1, a2, a3⟩ := nt_nf_ln hG rs Q (fun x hx => hr x (List.mem_cons_of_mem _ hx)) hq
      have h : nt_fd T G r Q = some P := h
      unfold nt_fd at h
      cases hk : nt_tk (gg_y G r) Q with
      | none => rw [hk] at h; cases h
      | some q =>
        rw [hk] at h
        injection h with h
        obtain ⟨b1, b2, b3, b4⟩ := nt_tk_ok (T := T) _ _ _ _ hk
        subst h
        refine ⟨?_, ?_, fun e he => ?_⟩
        · show nt_ln q.1 + gd_ln q.2 = nt_tm (gg_y G r) + nt_tt G rs
          omega
        · show q.2.length + 1 ≤ rs.length + 1
          omega
        · rcases List.mem_cons.mp he with z | z
          · subst z
            exact (hG.2 r (hr r List.mem_cons_self)).1
          · exact a3 e (b4 e z)
theorem nt_ln_app (a b : List (Nat × Nat)) : nt_ln (a ++ b) = nt_ln a + nt_ln b := by
  induction a with
  | nil => show nt_ln b = 0 + nt_ln b; omega
  | cons y a ih => show y.1 + nt_ln (a ++ b) = (y.1 + nt_ln a) + nt_ln b; omega
/-- the pile, its numbers held at the limit -/
def qd_at (P : List (Nat × Nat × Nat)) (τ : gs_St) : Prop := ∀ k e, P[k]? = some e → qc_at τ (P.length - 1 - k) (e.1, e.2.1, gc_cap e.2.2)
section M2L
variable {G : gg_R} {σ : gs_St} {T : Nat → Nat → Nat}
theorem n_join {r : Nat} {P : List (Nat × Nat × Nat)} {K : Int32 → gs_St → Prop} (h : mr_at G σ) (hr : r < G.length) (hT : mt_at T 17 σ) (hTb : ∀ A p, T A p ≤ 1000000000000000001) (h7 : σ.1 7 = nI P.length) (hP : P.length ≤ 200) (hpi : qd_at P σ) (h8 : ∀ e, e ∈ P → e.1 < 8 ∧ e.2.1 ≤ 16)
    (k0 : ∀ τ, fr_m σ τ → (nt_fd T G r P = none ∨ ∃ P' e, nt_fd T G r P = some (e :: P') ∧ 16 < e.2.1) → K 0 τ)
    (k1 : ∀ P' e τ, fr_m σ τ → nt_fd T G r P = some (e :: P') → e.2.1 ≤ 16 → τ.1 7 = nI (e :: P').length → qd_at (e :: P') τ → K 1 τ) : C_Mo_join (nI r) σ K := by
  intro X10 X130 X190 X204 h10 h130 h190 h204
  have hG := h.1.1
  obtain ⟨hl8, hz, h24⟩ := h.1.2 r hr
  have vr : vp_in (nI r) 24 := vp_in_nI (by omega) (by decide)
  -- the sum
  have summ : ∀ (ps : List (Nat × Nat)) (Q : List (Nat × Nat × Nat)), nt_tk (gg_y G r) P = some (ps, Q) → nt_ln ps ≤ 16 → ∀ τ : gs_St, fr_m σ τ → qd_at Q τ → (∀ i q, ps[i]? = some q → τ.2.1 13 i = nI q.1 ∧ τ.2.2 5 i = lN (gc_cap q.2)) → X130 (nI r) (nI (nt_ln ps)) (nI Q.length) 0 0 τ := by
    intro ps Q htk hn τ hfr hqd hpt
    obtain ⟨a1, a2, a3, a4⟩ := nt_tk_ok (T := T) _ _ _ _ htk
    have hfd : nt_fd T G r P = some ((gg_l G r, nt_ln ps, gc_pt T G (fun _ => true) (gg_l G r) (nt_ln ps) r + nt_nb T (gg_y G r) ps (nt_ln ps)) :: Q) := by
      unfold nt_fd
      rw [htk]
    -- within the rule
    have within : ∀ (zs : List Nat) (i left sum : Nat) (qs : List (Nat × Nat)) (ρ : gs_St), (gg_y G r).drop i = zs → i + zs.length = (gg_y G r).length → ps.drop i = qs → nt_ln qs = left → left ≤ nt_ln ps → sum + nt_nb T zs qs left = gc_pt T G (fun _ => true) (gg_l G r) (nt_ln ps) r + nt_nb T (gg_y G r) ps (nt_ln ps) → fr_m σ ρ → qd_at Q ρ → (∀ i q, ps[i]? = some q → ρ.2.1 13 i = nI q.1 ∧ ρ.2.2 5 i = lN (gc_cap q.2)) → mb_at T (gg_y G r) (nt_ln ps) ρ → X190 (nI r) (nI (nt_ln ps)) (nI Q.length) (lN (gc_cap sum)) (nI left) (nI i) ρ := by
      intro zs
      induction zs with
      | nil =>
        intro i left sum qs ρ hd hi hqs hl hle hs hfr hqd hpt hmb
        have hi : i = (gg_y G r).length := hi
        have es : ρ.2.1 1 r = nI (gg_y G r).length := ((hfr.mr h).2.2 r hr).2.1
        apply h190
        refine ⟨vr, ?_⟩
        rw [nI_clamp (by omega), es]
        refine pk_le (gg_y G r).length i (fun _ => ?_) (fun z => absurd z (by omega))
        intro σ21 e21
        have el : σ21.2.1 0 r = nI (gg_l G r) := by rw [e21]; exact ((hfr.mr h).2.2 r hr).1
        refine ⟨vr, ?_⟩
        rw [el]
        have hs : sum + 0 = gc_pt T G (fun _ => true) (gg_l G r) (nt_ln ps) r + nt_nb T (gg_y G r) ps (nt_ln ps) := hs
        refine n_put (σ := σ21) (c := Q.length) (by rw [e21]; rfl) (by omega) (fun τ2 f2 t7 tq to _ _ _ => ?_)
        refine k1 Q _ τ2 ((hfr.tr (by rw [e21]; exact fr_m.I)).tr f2) hfd hn (by rw [t7]; rfl) (fun k e hk => ?_)
        show qc_at τ2 (Q.length + 1 - 1 - k) _
        cases k with
        | zero =>
          injection hk with hk
          rw [← hk, show Q.length + 1 - 1 - 0 = Q.length by omega, ← hs]
          exact tq
        | succ k =>
          have hk : Q[k]? = some e := hk
          have hkl : k < Q.length := (List.getElem?_eq_some_iff.mp hk).1
          rw [show Q.length + 1 - 1 - (k + 1) = Q.length - 1 - k by omega]
          refine to _ _ (by omega) ?_
          rw [e21]
          exact hqd k e hk
      | cons s zs ih =>
        intro i left sum qs ρ hd hi hqs hl hle hs hfr hqd hpt hmb
        obtain ⟨h1, h2, h3⟩ := gg_cons hd
        have hi : i + (zs.length + 1) = (gg_y G r).length := hi
        have hs24 := h24 i h1
        rw [h2] at hs24
        have es : ρ.2.1 1 r = nI (gg_y G r).length := ((hfr.mr h).2.2 r hr).2.1
        have hips : i < ps.length := by omega
        have edr : ps.drop i = ps[i] :: ps.drop (i + 1) := List.drop_eq_getElem_cons hips
        obtain ⟨p13, p5⟩ := hpt i _ (List.getElem?_eq_getElem hips)
        rw [edr] at hqs
        subst hqs
        have hl : ps[i].1 + nt_ln (ps.drop (i + 1)) = left := hl
        have hs : sum + (gc_sum (fun p => gd_w T s zs left p) ps[i].1 + ps[i].2 * gc_E T zs (left - ps[i].1) + nt_nb T zs (ps.drop (i + 1)) (left - ps[i].1)) = gc_pt T G (fun _ => true) (gg_l G r) (nt_ln ps) r + nt_nb T (gg_y G r) ps (nt_ln ps) := hs
        have v6 : vp_in (nI i) 6 := vp_in_nI (by omega) (by decide)
        have hbeh : ∀ q, q ≤ left → ρ.2.2 3 ((i + 1) * 17 + (left - q)) = lN (gc_E T zs (left - q)) := fun q hq => by
          rw [hmb (i + 1) (by omega) (left - q) (by omega), h3]
        have inner : ∀ (c q : Nat), q + c = ps[i].1 → X204 (nI r) (nI (nt_ln ps)) (nI Q.length) (lN (gc_cap (sum + gc_sum (fun p => gd_w T s zs left p) q))) (nI left) (nI i) (nI q) ρ := by
          intro c
          induction c with
          | zero =>
            intro q hq
            have hq : q = ps[i].1 := hq
            apply h204
            refine ⟨v6, ?_⟩
            rw [nI_clamp (by omega), p13, p5]
            refine pk_le ps[i].1 q (fun _ => ⟨v6, nm_r (pk_sub (by omega)) ⟨v6, ?_⟩⟩) (fun z => absurd z (by omega))
            have ei : (17 : Int32) * nI i + (17 : Int32) + nI (left - ps[i].1) = nI ((i + 1) * 17 + (left - ps[i].1)) := by
              rw [show (17 : Int32) = nI 17 from rfl, pk_mul, nI_add, nI_add]
              congr 1
              omega
            rw [ei]
            refine ⟨vp_in_nI (by omega) (by decide), ?_⟩
            rw [nI_clamp (by omega), hbeh ps[i].1 (by omega)]
            refine n_product (gc_cap_le _) (gc_E_le _ _ _) (n_sum (gc_cap_le _) (gc_cap_le _) ?_)
            rw [gc_cap_mul, gc_cap_add2, hq]
            exact nm_r (nI_1 i) (ih (i + 1) (left - ps[i].1) _ (ps.drop (i + 1)) ρ h3 (by omega) rfl (by omega) (by omega) (by omega) hfr hqd hpt hmb)
          | succ c ihc =>
            intro q hq
            apply h204
            refine ⟨v6, ?_⟩
            rw [nI_clamp (by omega), p13]
            refine pk_le ps[i].1 q (fun z => absurd z (by omega)) (fun _ => ?_)
            refine n_at (hfr.mr h) hr h1 ?_
            rw [h2]
            refine n_of (T := T) (N := 17) hs24 (by decide) (by omega) (hfr.mt hT) ?_
            have ei : (17 : Int32) * nI i + (17 : Int32) + nI left - nI q = nI ((i + 1) * 17 + (left - q)) := by
              rw [show (17 : Int32) = nI 17 from rfl, pk_mul, nI_add, nI_add, pk_sub (by omega)]
              congr 1
              omega
            rw [ei]
            refine ⟨vp_in_nI (by omega) (by decide), ?_⟩
            rw [nI_clamp (by omega), hbeh q (by omega)]
            refine n_product (gd_F_le hTb _ _) (gc_E_le _ _ _) (n_sum (gc_cap_le _) (gc_cap_le _) ?_)
            have e : gc_cap (gc_cap (sum + gc_sum (fun p => gd_w T s zs left p) q) + gc_cap (gd_F T s q * gc_E T zs (left - q))) = gc_cap (sum + gc_sum (fun p => gd_w T s zs left p) (q + 1)) := by
              rw [gc_cap_add]
              congr 1
              show _ = sum + (gc_sum (fun p => gd_w T s zs left p) q + gd_w T s zs left q)
              unfold gd_w
              omega
            rw [e]
            exact nm_r (nI_1 q) (ihc (q + 1) (by omega))
        apply h190
        refine ⟨vr, ?_⟩
        rw [nI_clamp (by omega), es]
        exact pk_le (gg_y G r).length i (fun z => absurd z (by omega)) (fun _ => inner ps[i].1 0 (by omega))
    -- the rules before
    have before : ∀ (c q : Nat) (f : Nat → Int64), q + c = r → X130 (nI r) (nI (nt_ln ps)) (nI Q.length) (lN (gc_cap (gc_pt T G (fun _ => true) (gg_l G r) (nt_ln ps) q))) (nI q) (gs_L τ 3 f) := by
      intro c
      induction c with
      | zero =>
        intro q f hq
        have hq : q = r := hq
        subst hq
        apply h130
        refine pk_le q q (fun _ => ?_) (fun z => absurd z (by omega))
        refine n_fill (T := T) (N := 17) ((hfr.mr h).of rfl rfl rfl rfl) hr (by omega) (by decide) (hfr.mt hT) hTb (fun f2 hf2 => ?_)
        rw [gs_LL]
        exact within (gg_y G q) 0 (nt_ln ps) _ ps (gs_L τ 3 f2) rfl (by omega) rfl rfl (Nat.le_refl _) rfl (hfr.tr (fr_m.L (Or.inl rfl))) hqd hpt hf2
      | succ c ihc =>
        intro q f hq
        have hq' : q < G.length := by omega
        have hl8q := (h.1.2 q hq').1
        have hnx : gc_pt T G (fun _ => true) (gg_l G r) (nt_ln ps) (q + 1) = gc_pt T G (fun _ => true) (gg_l G r) (nt_ln ps) q + (if true = true ∧ gg_l G q = gg_l G r then gc_E T (gg_y G q) (nt_ln ps) else 0) := rfl
        have elq : (gs_L τ 3 f).2.1 0 q = nI (gg_l G q) := ((hfr.mr h).2.2 q hq').1
        have elr : (gs_L τ 3 f).2.1 0 r = nI (gg_l G r) := ((hfr.mr h).2.2 r hr).1
        apply h130
        refine pk_le r q (fun z => absurd z (by omega)) (fun _ => ⟨vp_in_nI (by omega) (by decide), vr, ?_⟩)
        rw [nI_clamp (by omega), nI_clamp (by omega), elq, elr]
        refine ek_if (not_congr (nI_eq (by omega) (by omega))) (fun z => ?_) (fun z => ?_)
        · have e : gc_pt T G (fun _ => true) (gg_l G r) (nt_ln ps) (q + 1) = gc_pt T G (fun _ => true) (gg_l G r) (nt_ln ps) q := hnx.trans (by rw [if_neg (fun y => z y.2)]; rfl)
          rw [← e]
          exact nm_r (nI_1 q) (ihc (q + 1) f (by omega))
        · have z : gg_l G q = gg_l G r := Classical.byContradiction z
          rw [if_pos ⟨rfl, z⟩] at hnx
          refine n_fill (T := T) (N := 17) ((hfr.mr h).of rfl rfl rfl rfl) hq' (by omega) (by decide) (hfr.mt hT) hTb (fun f2 hf2 => ⟨vp_in_nI (by omega) (by decide), ?_⟩)
          rw [gs_LL]
          have e0 : (gs_L τ 3 f2).2.2 3 (nt_ln ps) = lN (gc_E T (gg_y G q) (nt_ln ps)) := by
            have := hf2 0 (Nat.zero_le _) (nt_ln ps) (Nat.le_refl _)
            rw [Nat.zero_mul, Nat.zero_add] at this
            exact this
          rw [nI_clamp (by omega), e0]
          refine n_sum (gc_cap_le _) (gc_E_le _ _ _) ?_
          rw [gc_cap_add, ← hnx]
          exact nm_r (nI_1 q) (ihc (q + 1) f2 (by omega))
    have := before r 0 (τ.2.2 3) (by omega)
    rw [gs_Lid] at this
    exact this
  -- the symbols take their trees
  have tkk : ∀ (zs : List Nat) (i : Nat) (Q : List (Nat × Nat × Nat)) (pre : List (Nat × Nat)) (τ : gs_St), (gg_y G r).drop i = zs → i + zs.length = (gg_y G r).length → pre.length = i → nt_ln pre ≤ 16 * i → Q.length ≤ 200 → fr_m σ τ → qd_at Q τ → (∀ e, e ∈ Q → e.1 < 8 ∧ e.2.1 ≤ 16) → (∀ j q, pre[j]? = some q → τ.2.1 13 j = nI q.1 ∧ τ.2.2 5 j = lN (gc_cap q.2)) → (nt_tk zs Q = none → nt_tk (gg_y G r) P = none) → (∀ qs R, nt_tk zs Q = some (qs, R) → nt_tk (gg_y G r) P = some (pre ++ qs, R)) → X10 (nI r) (nI (nt_ln pre)) (nI Q.length) (nI i) τ := by
    intro zs
    induction zs with
    | nil =>
      intro i Q pre τ hd hi hpl hpb hQ hfr hqd hq8 hpt hno hyes
      have hi : i = (gg_y G r).length := hi
      have htk := hyes [] Q rfl
      rw [List.append_nil] at htk
      have es : τ.2.1 1 r = nI (gg_y G r).length := ((hfr.mr h).2.2 r hr).2.1
      apply h10
      refine ⟨vr, ?_⟩
      rw [nI_clamp (by omega), es]
      refine pk_le (gg_y G r).length i (fun _ => ?_) (fun z => absurd z (by omega))
      refine pk_lt (nt_ln pre) 17 (fun z => summ pre Q htk (by omega) τ hfr hqd hpt) (fun z => k0 τ hfr (Or.inr ⟨Q, (gg_l G r, nt_ln pre, gc_pt T G (fun _ => true) (gg_l G r) (nt_ln pre) r + nt_nb T (gg_y G r) pre (nt_ln pre)), ?_, ?_⟩))
      · unfold nt_fd
        rw [htk]
      · show 16 < nt_ln pre
        omega
    | cons s zs ih =>
      intro i Q pre τ hd hi hpl hpb hQ hfr hqd hq8 hpt hno hyes
      obtain ⟨h1, h2, h3⟩ := gg_cons hd
      have hi : i + (zs.length + 1) = (gg_y G r).length := hi
      have hs24 := h24 i h1
      rw [h2] at hs24
      have es : τ.2.1 1 r = nI (gg_y G r).length := ((hfr.mr h).2.2 r hr).2.1
      have v6 : vp_in (nI i) 6 := vp_in_nI (by omega) (by decide)
      have stop : ∀ ρ, fr_m σ ρ → nt_tk (s :: zs) Q = none → K 0 ρ := fun ρ fρ z => k0 ρ fρ (Or.inl (by unfold nt_fd; rw [hno z]))
      apply h10
      refine ⟨vr, ?_⟩
      rw [nI_clamp (by omega), es]
      refine pk_le (gg_y G r).length i (fun z => absurd z (by omega)) (fun _ => ?_)
      refine n_at (hfr.mr h) hr h1 ⟨v6, ?_⟩
      rw [nI_clamp (by omega), h2]
      intro σ4 e4
      refine ⟨v6, ?_⟩
      intro σ5 e5
      have fr5 : fr_m σ σ5 := by
        rw [e5, e4]
        exact (hfr.tr (fr_m.A (Or.inr (Or.inr rfl)))).tr (fr_m.L (Or.inr (Or.inr rfl)))
      have g13 : σ5.2.1 13 = upd (τ.2.1 13) i 1 := by rw [e5, e4]; rfl
      have g5 : σ5.2.2 5 = vp_updL (τ.2.2 5) i 0 := by rw [e5, e4]; rfl
      have gq : ∀ j e, qc_at τ j e → qc_at σ5 j e := fun j e he => by rw [e5, e4]; exact he
      have app : ∀ (ρ : gs_St) (a b : Nat), ρ.2.1 13 i = nI a → ρ.2.2 5 i = lN (gc_cap b) → (∀ j, j ≠ i → ρ.2.1 13 j = τ.2.1 13 j) → (∀ j, j ≠ i → ρ.2.2 5 j = τ.2.2 5 j) → ∀ j q, (pre ++ [(a, b)])[j]? = some q → ρ.2.1 13 j = nI q.1 ∧ ρ.2.2 5 j = lN (gc_cap q.2) := by
        intro ρ a b ha hb hA hL j q hj
        rcases Nat.lt_or_ge j pre.length with z | z
        · rw [List.getElem?_append_left z] at hj
          rw [hA j (by omega), hL j (by omega)]
          exact hpt j q hj
        · have hj1 : j < (pre ++ [(a, b)]).length := (List.getElem?_eq_some_iff.mp hj).1
          rw [List.length_append] at hj1
          have hj1 : j < pre.length + 1 := hj1
          have hjc : j = pre.length := by omega
          rw [hjc, List.getElem?_append_right (Nat.le_refl _), Nat.sub_self] at hj
          injection hj with hj
          rw [← hj, hjc, hpl]
          exact ⟨ha, hb⟩
      by_cases hs8 : s < 8
      · refine n_isNtN (by omega) (fun _ => br_f (by decide) ?_) (fun z => absurd hs8 (by omega))
        cases Q with
        | nil => exact nm_e (br_t (by decide) (stop σ5 fr5 (nt_tk_no hs8)))
        | cons e Q' =>
          have hlenQ : (e :: Q').length = Q'.length + 1 := rfl
          obtain ⟨he8, he16⟩ := hq8 e List.mem_cons_self
          have top := gq _ _ (hqd 0 e rfl)
          rw [hlenQ, show Q'.length + 1 - 1 - 0 = Q'.length by omega] at top
          have vq : vp_in (nI Q'.length) 1300 := vp_in_nI (by omega) (by decide)
          rw [hlenQ]
          refine nm_r (pk_m1 _) (br_f (nI_pos (by omega)) ⟨vq, ?_⟩)
          have tp1 : σ5.2.1 9 Q'.length = nI e.1 := top.1
          have tp2 : σ5.2.1 10 Q'.length = nI e.2.1 := top.2.1
          have tp3 : σ5.2.2 4 Q'.length = lN (gc_cap e.2.2) := top.2.2
          rw [nI_clamp (by omega), tp1, tp2]
          refine ek_if (nI_eq (by omega) (by omega)) (fun he => ⟨vq, v6, ?_⟩) (fun he => stop σ5 fr5 (nt_tk_ne hs8 he))
          intro σ11 e11
          have q4 : σ11.2.2 4 Q'.length = lN (gc_cap e.2.2) := by rw [e11]; exact tp3
          rw [q4]
          refine ⟨vq, v6, ?_⟩
          intro σ12 e12
          have fr12 : fr_m σ σ12 := by
            rw [e12, e11]
            exact (fr5.tr (fr_m.A (Or.inr (Or.inr rfl)))).tr (fr_m.L (Or.inr (Or.inr rfl)))
          have k13 : σ12.2.1 13 = upd (σ5.2.1 13) i (nI e.2.1) := by rw [e12, e11]; rfl
          have k5 : σ12.2.2 5 = vp_updL (σ5.2.2 5) i (lN (gc_cap e.2.2)) := by rw [e12, e11]; rfl
          refine ⟨v6, ?_⟩
          have k13i : σ12.2.1 13 i = nI e.2.1 := by rw [k13]; exact pk_us
          rw [k13i]
          have eln : nt_ln pre + e.2.1 = nt_ln (pre ++ [(e.2.1, e.2.2)]) := (nt_ln_app pre [(e.2.1, e.2.2)]).symm
          refine nm_r (nI_add _ _) (nm_r (nI_1 i) ?_)
          rw [eln]
          refine ih (i + 1) Q' (pre ++ [(e.2.1, e.2.2)]) σ12 h3 (by omega) (by rw [List.length_append]; show pre.length + 1 = i + 1; omega) (by rw [← eln]; omega) (by omega) fr12 (fun k x hk => ?_) (fun x hx => hq8 x (List.mem_cons_of_mem _ hx)) (app σ12 e.2.1 e.2.2 k13i (by rw [k5]; exact pk_uLs) (fun j hj => by rw [k13, pk_un hj, g13, pk_un hj]) (fun j hj => by rw [k5, pk_uLn hj, g5, pk_uLn hj])) (fun z => hno (by rw [nt_tk_nt hs8 he, z])) (fun qs R z => ?_)
          · have := gq _ _ (hqd (k + 1) x hk)
            rw [hlenQ, show Q'.length + 1 - 1 - (k + 1) = Q'.length - 1 - k by omega] at this
            rw [e12, e11]
            exact this
          · rw [hyes ((e.2.1, e.2.2) :: qs) R (by rw [nt_tk_nt hs8 he, z]), List.append_assoc]
            rfl
      · refine n_isNtN (by omega) (fun z => absurd z hs8) (fun _ => br_t rfl ⟨v6, ?_⟩)
        have k13i : σ5.2.1 13 i = nI 1 := by rw [g13]; exact pk_us
        have eln : nt_ln pre + 1 = nt_ln (pre ++ [(1, 0)]) := (nt_ln_app pre [(1, 0)]).symm
        rw [k13i]
        refine nm_r (nI_add _ _) (nm_r (nI_1 i) ?_)
        rw [eln]
        refine ih (i + 1) Q (pre ++ [(1, 0)]) σ5 h3 (by omega) (by rw [List.length_append]; show pre.length + 1 = i + 1; omega) (by rw [← eln]; omega) hQ fr5 (fun k x hk => gq _ _ (hqd k x hk)) hq8 (app σ5 1 0 k13i (by rw [g5]; exact pk_uLs) (fun j hj => by rw [g13, pk_un hj]) (fun j hj => by rw [g5, pk_uLn hj])) (fun z => hno (by rw [nt_tk_t hs8, z])) (fun qs R z => ?_)
        rw [hyes ((1, 0) :: qs) R (by rw [nt_tk_t hs8, z]), List.append_assoc]
        rfl
  refine nm_r h7 ?_
  exact tkk (gg_y G r) 0 P [] σ rfl (by omega) rfl (Nat.le_refl 0) hP fr_m.rf hpi h8 (fun j q hj => by cases hj) (fun z => z) (fun qs R z => z)
variable {t : List Nat} {l : List Int32} {d v : List Nat}
theorem n_number {x : Int32} {K : Int64 → gs_St → Prop} (h : ml_at t G l d v σ)
    (k0 : ∀ τ, ml_at t G [] d v τ → ((∀ j, j < 8 → x ≠ nI j) ∨ an_circM G true ∨ ∀ j, j < 8 → x = nI j → ∀ m, ¬ an_nr G j l m) → K (-1) τ)
    (k1 : ∀ j, j < 8 → x = nI j → an_circM G false → ∀ m τ, ml_at t G [] d v τ → an_nr G j l m → K (lN m) τ) : C_Mo_number x σ K := by
  intro X42 h42
  obtain ⟨ht, hg, ⟨l1, l2, l3⟩, hd, hst⟩ := h
  have hG := hg.1.1
  refine nm_r l2 ?_
  intro σ2 e2
  have hml2 : ml_at t G [] d v σ2 := by
    rw [e2]
    exact ⟨ht.of rfl rfl, hg.of rfl rfl rfl rfl, ⟨by decide, rfl, fun i hi => absurd hi (Nat.not_lt_zero _)⟩, hd.of rfl rfl rfl rfl, hst.elim Or.inl (fun z => Or.inr ⟨z.1, z.2.of rfl rfl⟩)⟩
  have a2 : σ2.2.1 4 = σ.2.1 4 := by rw [e2]; rfl
  refine n_isNt (fun A hA ex => ?_) (fun hno => br_t rfl (k0 σ2 hml2 (Or.inl hno)))
  subst ex
  refine br_f (by decide) ?_
  -- circle leaves the list
  refine n_circle hml2.2.1 (fun b e f hb => ?_)
  have hml3 : ml_at t G [] d v (gs_A (gs_A σ2 7 e) 8 f) := ⟨hml2.1.of rfl rfl, hml2.2.1.of rfl rfl rfl rfl, hml2.2.2.1.of rfl rfl, hml2.2.2.2.1.of rfl rfl rfl rfl, hml2.2.2.2.2.elim Or.inl (fun z => Or.inr ⟨z.1, z.2.of rfl rfl⟩)⟩
  cases b with
  | true => exact br_f (by decide) (k0 _ hml3 (Or.inr (Or.inl hb)))
  | false =>
    refine br_t rfl ?_
    obtain ⟨D, hD⟩ := gm_L_ex G
    obtain ⟨o, c, ho, hso⟩ := gg_ord_ex (gg_to G D)
    have hc8 : ¬ c < 8 := fun z => absurd ((hb D o c hD ho hso).mpr z) Bool.false_ne_true
    have hle := gg_ord_le ho
    have e8 : c = 8 := by omega
    subst e8
    obtain ⟨rk, hrk, hr8⟩ := gg_rank8 ho
    refine n_reckon hml3.2.1 hml3.2.2.2.2 hD hrk hr8 (fun T τ hTb hok0 hm h5 h6 hI hAr hLr => ?_)
    have hok : gc_okk (fun y => D y = some 0) G (fun _ => true) T 17 := gc_okk_kp (kp_m1 hg.1) hok0
    have hgok : gd_ok G T 17 := hok.1
    intro σ8 e8
    have f8 : fr_m τ σ8 := by rw [e8]; exact fr_m.I
    have lst : ∀ ρ, fr_m τ ρ → ∀ i, i < l.length → ρ.2.1 4 i = l.getD i 0 := fun ρ fρ i hi => by
      rw [fρ.2.1 4 (by decide) (by decide) (by decide), hAr]
      show σ2.2.1 4 i = _
      rw [a2]
      exact l3 i hi
    have mrτ : mr_at G τ := hml3.2.1.of (hI 0 (by decide) (by decide)) (by rw [hAr]) (by rw [hAr]) (by rw [hAr])
    have lasts : ∀ ρ, fr_m τ ρ → ml_at t G [] d v ρ := fun ρ fρ => ⟨hml3.1.of ((fρ.1 1 (by decide)).trans (hI 1 (by decide) (by decide))) (by rw [fρ.2.1 3 (by decide) (by decide) (by decide), hAr]), fρ.mr mrτ, hml3.2.2.1.of ((fρ.1 2 (by decide)).trans (hI 2 (by decide) (by decide))) (by rw [fρ.2.1 4 (by decide) (by decide) (by decide), hAr]), hml3.2.2.2.1.of ((fρ.1 3 (by decide)).trans (hI 3 (by decide) (by decide))) ((fρ.1 4 (by decide)).trans (hI 4 (by decide) (by decide))) (by rw [fρ.2.1 5 (by decide) (by decide) (by decide), hAr]) (by rw [fρ.2.1 6 (by decide) (by decide) (by decide), hAr]), Or.inr ⟨(fρ.1 5 (by decide)).trans h5, D, T, hD, hTb, by rw [fρ.1 6 (by decide), h6]; exact hok0, fρ.mt hm⟩⟩
    -- no number
    have nov : ∀ ρ, fr_m τ ρ → (∀ m, ¬ an_nr G A l m) → K (-1) ρ := fun ρ fρ hno => k0 ρ (lasts ρ fρ) (Or.inr (Or.inr (fun j hj ej m hm2 => by
      have : A = j := (nI_eq (by omega) (by omega)).mp ej
      subst this
      exact hno m hm2)))
    -- what a number would show of our table
    have shows : ∀ m, an_nr G A l m → ∃ rs : List Nat, l = rs.map nI ∧ (∀ r, r ∈ rs → r < G.length) ∧ nt_tt G rs ≤ 16 ∧ T A (nt_tt G rs) ≤ 1000000000000000000 ∧ nt_nf T G rs = some [(A, nt_tt G rs, m)] := by
      rintro m ⟨rs, T2, D2, o2, N2, g1, g2, g3, g4, g5, g6, g7, g8, g9⟩
      have hT : ∀ x p, x < 8 → p ≤ nt_tt G rs → T2 x p = T x p := fun x p hx hp => gc_two hg.1 g4 hD g5 g6 hok p (by omega) (by omega) x hx
      refine ⟨rs, g1, g2, g3, ?_, ?_⟩
      · rw [← hT A _ hA (Nat.le_refl _)]
        exact g8
      · rw [← nt_nf_eq hT hg.1 g6.1 g7 rs g2 (Nat.le_refl _)]
        exact g9
    have key : ∀ (c : Nat) (rs : List Nat) (P : List (Nat × Nat × Nat)) (ρ : gs_St), c + rs.length = l.length → l.drop c = rs.map nI → (∀ r, r ∈ rs → r < G.length) → nt_nf T G rs = some P → (∀ e, e ∈ P → e.1 < 8 ∧ e.2.1 ≤ 16) → fr_m τ ρ → ρ.1 7 = nI P.length → qd_at P ρ → X42 (nI A) (nI c - 1) ρ := by
      intro c
      induction c with
      | zero =>
        intro rs P ρ hc hrs hv hnf h16 fρ h7 hqd
        have hrs : l = rs.map nI := hrs
        obtain ⟨b1, b2, b3⟩ := nt_nf_ln hg.1 rs P hv hnf
        have v0 : vp_in (0 : Int32) 1300 := vp_in_nI (n := 0) (by decide) (by decide)
        have c0 : (0 : Int32).toNatClampNeg = 0 := by decide
        have uniq : ∀ m, an_nr G A l m → T A (nt_tt G rs) ≤ 1000000000000000000 ∧ P = [(A, nt_tt G rs, m)] := fun m hm2 => by
          obtain ⟨rs', s1, s2, s3, s4, s5⟩ := shows m hm2
          have e : rs = rs' := nI_map_inj hG rs rs' hv s2 (hrs.symm.trans s1)
          subst e
          rw [hnf] at s5
          injection s5 with s5
          exact ⟨s4, s5⟩
        apply h42
        refine br_t (by decide) ?_
        rw [h7, c0]
        refine ek_if (not_congr (nI_eq (a := P.length) (b := 1) (by omega) (by decide))) (fun z => nov ρ fρ (fun m hm2 => z (by rw [(uniq m hm2).2]; rfl))) (fun z => ⟨v0, ?_⟩)
        have z : P.length = 1 := Classical.byContradiction z
        match P, z with
        | [e], _ =>
          have top : qc_at ρ 0 (e.1, e.2.1, gc_cap e.2.2) := hqd 0 e rfl
          obtain ⟨he8, he16⟩ := h16 e List.mem_cons_self
          have eln : e.2.1 = nt_tt G rs := by
            have : e.2.1 + 0 = nt_tt G rs := b1
            omega
          have tp1 : ρ.2.1 9 0 = nI e.1 := top.1
          have tp2 : ρ.2.1 10 0 = nI e.2.1 := top.2.1
          have tp3 : ρ.2.2 4 0 = lN (gc_cap e.2.2) := top.2.2
          rw [tp1, tp2]
          refine ek_if (not_congr (nI_eq (by omega) (by omega))) (fun y => nov ρ fρ (fun m hm2 => y (by have := (uniq m hm2).2; injection this with this _; rw [this]))) (fun y => ⟨v0, ?_⟩)
          have y : e.1 = A := Classical.byContradiction y
          refine n_of (T := T) (N := 17) (by omega) (by decide) (by omega) (fρ.mt hm) ?_
          have hF : gd_F T A e.2.1 = T A e.2.1 := by unfold gd_F; rw [if_pos hA]
          have hTA := hTb A e.2.1
          rw [hF, gl_18, tp3]
          refine ek_if (pk_lLE (by omega) (by decide)) (fun w => ⟨v0, ?_⟩) (fun w => nov ρ fρ (fun m hm2 => w (by rw [eln]; exact (uniq m hm2).1)))
          obtain ⟨a1, a2', a3⟩ := nt_nf_ok hg.1 hgok rs [e] hv hnf (by omega)
          obtain ⟨v1, v2, v3⟩ := a1 e List.mem_cons_self
          have hlt := v3 (by rw [y]; exact w)
          rw [y] at hlt
          have ecap : gc_cap e.2.2 = e.2.2 := by unfold gc_cap; rw [if_pos (by omega)]
          rw [ecap]
          refine k1 A hA rfl hb e.2.2 ρ (lasts ρ fρ) ⟨rs, T, D, o, 17, hrs, hv, by omega, hD, ho, hok, by omega, ?_, ?_⟩
          · rw [← eln]
            exact w
          · rw [hnf, ← eln, ← y]
      | succ c ih =>
        intro rs P ρ hc hrs hv hnf h16 fρ h7 hqd
        have hc' : c < l.length := by omega
        obtain ⟨b1, b2, b3⟩ := nt_nf_ln hg.1 rs P hv hnf
        have vi : vp_in (nI c) 200 := vp_in_nI (by omega) (by decide)
        have edrop : l.drop c = l.getD c 0 :: l.drop (c + 1) := by rw [List.drop_eq_getElem_cons hc', gg_getD hc']
        rw [nI_pred]
        apply h42
        refine br_f (nI_pos (by omega)) ⟨vi, ?_⟩
        rw [nI_clamp (by omega), lst ρ fρ c hc']
        refine n_isRule (fρ.mr mrτ) (fun r hr er => br_f (by decide) ⟨vi, ?_⟩) (fun hno => br_t rfl (nov ρ fρ (fun m hm2 => ?_)))
        · -- a number's own list
          have own : ∀ m, an_nr G A l m → ∃ rs0, nt_nf T G ((r :: rs)) = nt_nf T G (rs0.drop c) ∧ nt_tt G (r :: rs) ≤ 16 ∧ nt_nf T G rs0 = some [(A, nt_tt G rs0, m)] := fun m hm2 => by
            obtain ⟨rs', s1, s2, s3, s4, s5⟩ := shows m hm2
            have e1 : (rs'.drop c).map nI = (r :: rs).map nI := by
              rw [List.map_drop, ← s1, edrop, hrs, er]
              rfl
            have e2 : rs'.drop c = r :: rs := nI_map_inj hG _ _ (fun q hq => s2 q (List.mem_of_mem_drop hq)) (fun q hq => by
              rcases List.mem_cons.mp hq with z | z
              · rw [z]; exact hr
              · exact hv q z) e1
            refine ⟨rs', by rw [e2], ?_, s5⟩
            rw [← e2]
            have := nt_tt_drop (G := G) c rs'
            omega
          rw [lst ρ fρ c hc', er]
          refine n_join (T := T) (P := P) (fρ.mr mrτ) hr (fρ.mt hm) hTb h7 (by omega) hqd h16 (fun ρ2 f2 hz => br_f (fun z => z rfl) (nov ρ2 (fρ.tr f2) (fun m hm2 => ?_))) (fun P' e2' ρ2 f2 hz he g7 gq => br_t (by decide) ?_)
          · obtain ⟨rs0, s1, s2, s3⟩ := own m hm2
            have enf : nt_nf T G (r :: rs) = nt_fd T G r P := by
              show (match nt_nf T G rs with | none => none | some P => nt_fd T G r P) = _
              rw [hnf]
            rcases hz with z | ⟨P', e', z1, z2⟩
            · rw [enf, z] at s1
              rw [nt_nf_none c rs0 s1.symm] at s3
              cases s3
            · rw [z1] at enf
              obtain ⟨q1, q2, q3⟩ := nt_nf_ln hg.1 (r :: rs) (e' :: P') (fun q hq => by
                rcases List.mem_cons.mp hq with w | w
                · rw [w]; exact hr
                · exact hv q w) enf
              have : e'.2.1 + gd_ln P' = nt_tt G (r :: rs) := q1
              omega
          · rw [gv_m1]
            have enf : nt_nf T G (r :: rs) = some (e2' :: P') := by
              show (match nt_nf T G rs with | none => none | some P => nt_fd T G r P) = _
              rw [hnf]
              exact hz
            refine nm_e (ih (r :: rs) (e2' :: P') ρ2 (by show c + (rs.length + 1) = l.length; omega) (by rw [edrop, hrs, er]; rfl) (fun q hq => ?_) enf (fun q hq => ?_) (fρ.tr f2) g7 gq)
            · rcases List.mem_cons.mp hq with w | w
              · rw [w]; exact hr
              · exact hv q w
            · rcases List.mem_cons.mp hq with w | w
              · rw [w]
                refine ⟨?_, he⟩
                obtain ⟨q1, q2, q3⟩ := nt_nf_ln hg.1 (r :: rs) (e2' :: P') (fun q hq => by
                  rcases List.mem_cons.mp hq with w | w
                  · rw [w]; exact hr
                  · exact hv q w) enf
                exact q3 e2' List.mem_cons_self
              · have hz2 := hz
                unfold nt_fd at hz2
                cases hk : nt_tk (gg_y G r) P with
                | none => rw [hk] at hz2; cases hz2
                | some q2 =>
                  rw [hk] at hz2
                  injection hz2 with hz2
                  injection hz2 with _ hz2
                  obtain ⟨-, -, -, b4⟩ := nt_tk_ok (T := T) _ _ _ _ hk
                  exact h16 q (b4 q (by rw [hz2]; exact w))
        · obtain ⟨rs', s1, s2, -⟩ := shows m hm2
          have hlen : rs'.length = l.length := by rw [s1, List.length_map]
          refine hno (rs'.getD c 0) (s2 _ ?_) (map_getD s1 (by omega))
          rw [gg_getD (show c < rs'.length by omega)]
          exact List.getElem_mem _
    refine nm_e (key l.length [] [] σ8 (by show l.length + 0 = l.length; omega) (List.drop_eq_nil_iff.mpr (Nat.le_refl _)) (fun r hr => absurd hr List.not_mem_nil) rfl (fun e he => absurd he List.not_mem_nil) f8 (by rw [e8]; rfl) (fun k e hk => by cases hk))
end M2L
