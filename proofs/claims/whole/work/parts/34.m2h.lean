/-! Layer 2 of the reference, part h: split and draw. -/
def fr_m (σ τ : gs_St) : Prop := (∀ k, k ≠ 7 → τ.1 k = σ.1 k) ∧ (∀ k, k ≠ 9 → k ≠ 10 → k ≠ 13 → τ.2.1 k = σ.2.1 k) ∧ ∀ k, k ≠ 3 → k ≠ 4 → k ≠ 5 → τ.2.2 k = σ.2.2 k
theorem fr_m.rf {σ : gs_St} : fr_m σ σ := ⟨fun _ _ => rfl, fun _ _ _ _ => rfl, fun _ _ _ _ => rfl⟩
theorem fr_m.tr {σ τ ρ : gs_St} (h : fr_m σ τ) (h' : fr_m τ ρ) : fr_m σ ρ := ⟨fun k a => (h'.1 k a).trans (h.1 k a), fun k a b c => (h'.2.1 k a b c).trans (h.2.1 k a b c), fun k a b c => (h'.2.2 k a b c).trans (h.2.2 k a b c)⟩
theorem fr_m.I {σ : gs_St} {v : Int32} : fr_m σ (gs_I σ 7 v) := ⟨fun j a => if_neg a, fun _ _ _ _ => rfl, fun _ _ _ _ => rfl⟩
theorem fr_m.A {σ : gs_St} {k : Nat} {f : Nat → Int32} (hk : k = 9 ∨ k = 10 ∨ k = 13) : fr_m σ (gs_A σ k f) := ⟨fun _ _ => rfl, fun j a b c => if_neg (by omega), fun _ _ _ _ => rfl⟩
theorem fr_m.L {σ : gs_St} {k : Nat} {f : Nat → Int64} (hk : k = 3 ∨ k = 4 ∨ k = 5) : fr_m σ (gs_L σ k f) := ⟨fun _ _ => rfl, fun _ _ _ _ => rfl, fun j a b c => if_neg (by omega)⟩
theorem fr_m.mr {G : gg_R} {σ τ : gs_St} (h : fr_m σ τ) (hg : mr_at G σ) : mr_at G τ := hg.of (h.1 0 (by decide)) (h.2.1 0 (by decide) (by decide) (by decide)) (h.2.1 1 (by decide) (by decide) (by decide)) (h.2.1 2 (by decide) (by decide) (by decide))
theorem fr_m.mt {T : Nat → Nat → Nat} {N : Nat} {σ τ : gs_St} (h : fr_m σ τ) (ht : mt_at T N σ) : mt_at T N τ := fun A hA p hp => by
  rw [h.2.2 2 (by decide) (by decide) (by decide)]
  exact ht A hA p hp
def qc_at (τ : gs_St) (j : Nat) (e : Nat × Nat × Nat) : Prop := τ.2.1 9 j = nI e.1 ∧ τ.2.1 10 j = nI e.2.1 ∧ τ.2.2 4 j = lN e.2.2
def qi_at (p : List (Nat × Nat × Nat)) (τ : gs_St) : Prop := ∀ k e, p[k]? = some e → qc_at τ (p.length - 1 - k) e
section M2H
variable {G : gg_R} {σ : gs_St} {T : Nat → Nat → Nat}
theorem n_put {c s a b : Nat} {K : gs_St → Prop} (h7 : σ.1 7 = nI c) (hc : c < 1300) (kk : ∀ τ, fr_m σ τ → τ.1 7 = nI (c + 1) → qc_at τ c (s, a, b) → (∀ i e, i ≠ c → qc_at σ i e → qc_at τ i e) → τ.2.1 13 = σ.2.1 13 → τ.2.2 5 = σ.2.2 5 → τ.2.2 3 = σ.2.2 3 → K τ) : C_Mo_put (nI s) (nI a) (lN b) σ K := by
  unfold C_Mo_put
  have hv : vp_in (nI c) 1300 := vp_in_nI hc (by decide)
  rw [h7]
  refine ⟨hv, ?_⟩
  rw [nI_clamp (by omega)]
  intro σ1 e1
  have a1 : σ1.1 7 = nI c := by rw [e1]; exact h7
  rw [a1]
  refine ⟨hv, ?_⟩
  rw [nI_clamp (by omega)]
  intro σ2 e2
  have a2 : σ2.1 7 = nI c := by rw [e2]; exact a1
  rw [a2]
  refine ⟨hv, ?_⟩
  rw [nI_clamp (by omega)]
  intro σ3 e3 σ4 e4
  have f9 : σ4.2.1 9 = upd (σ.2.1 9) c (nI s) := by rw [e4, e3, e2, e1]; rfl
  have f10 : σ4.2.1 10 = upd (σ.2.1 10) c (nI a) := by rw [e4, e3, e2, e1]; rfl
  have f4 : σ4.2.2 4 = vp_updL (σ.2.2 4) c (lN b) := by rw [e4, e3, e2, e1]; rfl
  refine kk σ4 ?_ ?_ ⟨?_, ?_, ?_⟩ (fun i e hi he => ⟨?_, ?_, ?_⟩) (by rw [e4, e3, e2, e1]; rfl) (by rw [e4, e3, e2, e1]; rfl) (by rw [e4, e3, e2, e1]; rfl)
  · rw [e4, e3, e2, e1]
    exact (((fr_m.A (Or.inl rfl)).tr (fr_m.A (Or.inr (Or.inl rfl)))).tr (fr_m.L (Or.inr (Or.inl rfl)))).tr fr_m.I
  · rw [e4]
    show σ3.1 7 + 1 = _
    rw [e3]
    show σ2.1 7 + 1 = _
    rw [a2, nI_1]
  · rw [f9]; exact pk_us
  · rw [f10]; exact pk_us
  · rw [f4]; exact pk_uLs
  · rw [f9, pk_un hi]; exact he.1
  · rw [f10, pk_un hi]; exact he.2.1
  · rw [f4, pk_uLn hi]; exact he.2.2
theorem n_split {A n m : Nat} {p : List (Nat × Nat × Nat)} {K : Int32 → gs_St → Prop} (h : mr_at G σ) (hA : A < 8) (hn : n ≤ 16) (hT : mt_at T 17 σ) (hTb : ∀ A p, T A p ≤ 1000000000000000001) (hok : gd_ok G T 17) (hmT : m < T A n) (hTA : T A n ≤ 1000000000000000000) (h7 : σ.1 7 = nI p.length) (hp : p.length < 1290) (hpi : qi_at p σ)
    (kk : ∀ r m' τ, gd_pk T G A n G.length 0 m = some (r, m') → r < G.length → m' < gc_E T (gg_y G r) n → gc_E T (gg_y G r) n ≤ 1000000000000000000 → fr_m σ τ → τ.1 7 = nI (gd_sp T (gg_y G r) n m' ++ p).length → qi_at (gd_sp T (gg_y G r) n m' ++ p) τ → K (nI r) τ) : C_Mo_split (nI A) (nI n) (lN m) σ K := by
  intro X9 X52 X91 X140 X206 X276 h9 h52 h91 h140 h206 h276
  have hG := h.1.1
  have hok' := hok A n hA (by omega)
  rw [hok'] at hmT hTA
  obtain ⟨c1, c2⟩ := gc_cap_small hTA
  rw [c1] at hmT
  -- onto the pile
  have push : ∀ (r : Nat) (cs : List (Nat × Nat × Nat)), r < G.length → cs.length = (gg_y G r).length → cs.map (fun e => e.1) = gg_y G r → (∀ τ, fr_m σ τ → τ.1 7 = nI (cs ++ p).length → qi_at (cs ++ p) τ → K (nI r) τ) → ∀ (c : Nat) (τ : gs_St), c ≤ cs.length → fr_m σ τ → τ.1 7 = nI (cs.drop c ++ p).length → qi_at (cs.drop c ++ p) τ → (∀ i e, cs[i]? = some e → τ.2.1 13 i = nI e.2.1 ∧ τ.2.2 5 i = lN e.2.2) → X276 (nI r) (nI c - 1) τ := by
    intro r cs hr hlen hmap hK c
    obtain ⟨hl8, hz, h24⟩ := h.1.2 r hr
    induction c with
    | zero =>
      intro τ hc hfr h7 hqi hpt
      apply h276
      exact br_t (by decide) (hK τ hfr h7 hqi)
    | succ c ih =>
      intro τ hc hfr h7 hqi hpt
      have hc' : c < cs.length := by omega
      have hi' : c < (gg_y G r).length := by omega
      have ecs : cs[c]? = some cs[c] := List.getElem?_eq_getElem hc'
      have esym : (gg_y G r).getD c 0 = cs[c].1 := by
        rw [← hmap, List.getD_eq_getElem?_getD, List.getElem?_map, ecs]
        rfl
      have edrop : cs.drop c = cs[c] :: cs.drop (c + 1) := List.drop_eq_getElem_cons hc'
      have hdl : (cs.drop (c + 1)).length ≤ 6 := by rw [List.length_drop]; omega
      rw [nI_pred]
      apply h276
      refine br_f (nI_pos (by omega)) ?_
      refine n_at (hfr.mr h) hr hi' ⟨vp_in_nI (by omega) (by decide), vp_in_nI (by omega) (by decide), ?_⟩
      obtain ⟨q1, q2⟩ := hpt c _ ecs
      rw [nI_clamp (by omega), q1, q2, esym]
      refine n_put h7 (by rw [List.length_append]; omega) (fun τ2 f2 g7 gc go g13 g5 g3 => ?_)
      rw [gv_m1]
      refine nm_e (ih τ2 (by omega) (hfr.tr f2) ?_ (fun k e hk => ?_) (fun i e hi => by rw [g13, g5]; exact hpt i e hi))
      · rw [g7, edrop]
        rfl
      · rw [edrop] at hk ⊢
        show qc_at τ2 ((cs.drop (c + 1) ++ p).length + 1 - 1 - k) e
        cases k with
        | zero =>
          injection hk with hk
          rw [← hk, show (cs.drop (c + 1) ++ p).length + 1 - 1 - 0 = (cs.drop (c + 1) ++ p).length by omega]
          exact gc
        | succ k =>
          have hk : (cs.drop (c + 1) ++ p)[k]? = some e := hk
          have hkl : k < (cs.drop (c + 1) ++ p).length := (List.getElem?_eq_some_iff.mp hk).1
          rw [show (cs.drop (c + 1) ++ p).length + 1 - 1 - (k + 1) = (cs.drop (c + 1) ++ p).length - 1 - k by omega]
          exact go _ e (by omega) (hqi k e hk)
  -- the parts
  have parts : ∀ (r m' : Nat), gd_pk T G A n G.length 0 m = some (r, m') → r < G.length → m' < gc_E T (gg_y G r) n → gc_E T (gg_y G r) n ≤ 1000000000000000000 → ∀ τ : gs_St, fr_m σ τ → τ.1 7 = nI p.length → qi_at p τ → mb_at T (gg_y G r) n τ → X91 (lN m') (nI r) (nI n) 0 τ := by
    intro r m' hpk hr hm' hmb τ hfr h7' hqi hmbt
    obtain ⟨hl8, hz, h24⟩ := h.1.2 r hr
    obtain ⟨s1, s2, s3⟩ := gd_sp_ok _ _ _ hm' hmb
    have hspl : (gd_sp T (gg_y G r) n m').length = (gg_y G r).length := by rw [← List.length_map (f := fun e : Nat × Nat × Nat => e.1), s3]
    have vr : vp_in (nI r) 24 := vp_in_nI (by omega) (by decide)
    have key : ∀ (zs : List Nat) (i nl ml : Nat) (c : List (Nat × Nat × Nat)) (τ : gs_St), (gg_y G r).drop i = zs → i + zs.length = (gg_y G r).length → c.length = i → c ++ gd_sp T zs nl ml = gd_sp T (gg_y G r) n m' → nl ≤ n → ml < gc_E T zs nl → gc_E T zs nl ≤ 1000000000000000000 → fr_m σ τ → τ.1 7 = nI p.length → qi_at p τ → mb_at T (gg_y G r) n τ → (∀ j e, c[j]? = some e → τ.2.1 13 j = nI e.2.1 ∧ τ.2.2 5 j = lN e.2.2) → X91 (lN ml) (nI r) (nI nl) (nI i) τ := by
      intro zs
      induction zs with
      | nil =>
        intro i nl ml c τ hd hi hc hsp hnl hml hmlb hfr h7' hqi hmbt hpt
        have hi : i = (gg_y G r).length := hi
        have hsp : c ++ [] = gd_sp T (gg_y G r) n m' := hsp
        rw [List.append_nil] at hsp
        apply h91
        have es : τ.2.1 1 r = nI (gg_y G r).length := ((hfr.mr h).2.2 r hr).2.1
        refine ⟨vr, ?_⟩
        rw [nI_clamp (by omega), es]
        refine pk_le (gg_y G r).length i (fun _ => ⟨vr, nm_e ?_⟩) (fun q => absurd q (by omega))
        rw [← hspl]
        have hdn : (gd_sp T (gg_y G r) n m').drop (gd_sp T (gg_y G r) n m').length = [] := List.drop_eq_nil_iff.mpr (Nat.le_refl _)
        exact push r (gd_sp T (gg_y G r) n m') hr hspl s3 (fun τ2 f2 g7 gq => kk r m' τ2 hpk hr hm' hmb f2 g7 gq) _ τ (Nat.le_refl _) hfr (by rw [hdn]; exact h7') (by rw [hdn]; exact hqi) (by rw [← hsp]; exact hpt)
      | cons s zs ih =>
        intro i nl ml c τ hd hi hc hsp hnl hml hmlb hfr h7' hqi hmbt hpt
        obtain ⟨h1, h2, h3⟩ := gg_cons hd
        have hi : i + (zs.length + 1) = (gg_y G r).length := hi
        have hs24 := h24 i h1
        rw [h2] at hs24
        have hgr := hfr.mr h
        have hgt := hfr.mt hT
        have es : τ.2.1 1 r = nI (gg_y G r).length := (hgr.2.2 r hr).2.1
        have hEsum := gc_E_sum T s zs nl
        rw [hEsum] at hml hmlb
        obtain ⟨d1, d2⟩ := gc_cap_small hmlb
        rw [d1] at hml
        obtain ⟨p1, p2⟩ := gd_pt_ok d2 nl 0 ml (by omega) (by show ml + 0 < _; omega)
        have hbeh : ∀ q, q ≤ nl → τ.2.2 3 ((i + 1) * 17 + (nl - q)) = lN (gc_E T zs (nl - q)) := fun q hq => by
          rw [hmbt (i + 1) (by omega) (nl - q) (by omega), h3]
        have ew : ∀ q, gd_w T s zs nl q = gc_cap (gd_F T s q * gc_E T zs (nl - q)) := fun q => rfl
        have fin : ∀ (q x : Nat), gd_pt T s zs nl nl 0 ml = (q, x) → X206 (lN x) (nI r) (nI nl) (nI i) (nI q) τ := by
          intro q x hpt2
          have hq : q ≤ nl := by rw [hpt2] at p1; exact p1
          have hx : x < gd_F T s q * gc_E T zs (nl - q) := by rw [hpt2] at p2; exact p2
          have hle : gd_F T s q * gc_E T zs (nl - q) ≤ gc_sum (fun p => gd_F T s p * gc_E T zs (nl - p)) (nl + 1) := by
            have a := gc_sum_mono (fun p => gd_F T s p * gc_E T zs (nl - p)) (q + 1) (nl + 1) (by omega)
            have b : gc_sum (fun p => gd_F T s p * gc_E T zs (nl - p)) (q + 1) = gc_sum (fun p => gd_F T s p * gc_E T zs (nl - p)) q + gd_F T s q * gc_E T zs (nl - q) := rfl
            omega
          have hE0 : 0 < gc_E T zs (nl - q) := Nat.pos_of_ne_zero (fun z => by rw [z, Nat.mul_zero] at hx; omega)
          have hF0 : 0 < gd_F T s q := Nat.pos_of_ne_zero (fun z => by rw [z, Nat.zero_mul] at hx; omega)
          have hE2 : gc_E T zs (nl - q) ≤ gd_F T s q * gc_E T zs (nl - q) := Nat.le_mul_of_pos_left _ hF0
          have hmx : max 1 (gc_E T zs (nl - q)) = gc_E T zs (nl - q) := Nat.max_eq_right hE0
          apply h206
          refine nm_r (pk_sub hq) ?_
          have ei : (17 : Int32) * nI i + (17 : Int32) + nI (nl - q) = nI ((i + 1) * 17 + (nl - q)) := by
            rw [show (17 : Int32) = nI 17 from rfl, pk_mul, nI_add, nI_add]
            congr 1
            omega
          rw [ei]
          refine ⟨vp_in_nI (by omega) (by decide), ?_⟩
          rw [nI_clamp (by omega), hbeh q hq]
          refine nm_e ⟨vp_in_nI (by omega) (by decide), ?_⟩
          have hne : ¬ lN (gc_E T zs (nl - q)) = 0 := fun z => by
            have := (pk_lEQ (a := gc_E T zs (nl - q)) (b := 0) (by omega) (by decide)).mp z
            omega
          rw [nI_clamp (by omega)]
          intro σ24 e24
          refine ⟨hne, vp_in_nI (by omega) (by decide), ?_⟩
          intro σ25 e25
          refine ⟨hne, ?_⟩
          rw [pk_lRem (by omega) hE0 (by omega)]
          rw [pk_lDiv (by omega) hE0 (by omega)] at e25
          have f13 : σ25.2.1 13 = upd (τ.2.1 13) i (nI q) := by rw [e25, e24]; rfl
          have f5 : σ25.2.2 5 = vp_updL (τ.2.2 5) i (lN (x / gc_E T zs (nl - q))) := by rw [e25, e24]; rfl
          have hfr25 : fr_m τ σ25 := by
            rw [e25, e24]
            exact (fr_m.A (Or.inr (Or.inr rfl))).tr (fr_m.L (Or.inr (Or.inr rfl)))
          refine nm_e (nm_r (nI_1 i) (ih (i + 1) (nl - q) (x % gc_E T zs (nl - q)) (c ++ [(s, q, x / gc_E T zs (nl - q))]) σ25 h3 (by omega) (by rw [List.length_append]; show c.length + 1 = i + 1; omega) ?_ (by omega) (Nat.mod_lt _ hE0) (by omega) (hfr.tr hfr25) (by rw [e25, e24]; exact h7') (fun k e hk => by rw [e25, e24]; exact hqi k e hk) (fun i' hi' p' hp' => by rw [e25, e24]; exact hmbt i' hi' p' hp') (fun j e hj => ?_)))
          · rw [← hsp, List.append_assoc]
            congr 1
            show (s, q, x / gc_E T zs (nl - q)) :: gd_sp T zs (nl - q) (x % gc_E T zs (nl - q)) = (s, (gd_pt T s zs nl nl 0 ml).1, (gd_pt T s zs nl nl 0 ml).2 / max 1 (gc_E T zs (nl - (gd_pt T s zs nl nl 0 ml).1))) :: gd_sp T zs (nl - (gd_pt T s zs nl nl 0 ml).1) ((gd_pt T s zs nl nl 0 ml).2 % max 1 (gc_E T zs (nl - (gd_pt T s zs nl nl 0 ml).1)))
            rw [hpt2]
            show _ = (s, q, x / max 1 (gc_E T zs (nl - q))) :: gd_sp T zs (nl - q) (x % max 1 (gc_E T zs (nl - q)))
            rw [hmx]
          · rw [f13, f5]
            rcases Nat.lt_or_ge j c.length with z | z
            · rw [List.getElem?_append_left z] at hj
              rw [pk_un (by omega), pk_uLn (by omega)]
              exact hpt j e hj
            · have hj1 : j < (c ++ [(s, q, x / gc_E T zs (nl - q))]).length := (List.getElem?_eq_some_iff.mp hj).1
              rw [List.length_append] at hj1
              have hj1 : j < c.length + 1 := hj1
              have hjc : j = c.length := by omega
              subst hjc
              rw [List.getElem?_append_right (Nat.le_refl _), Nat.sub_self] at hj
              injection hj with hj
              rw [← hj, hc, pk_us, pk_uLs]
              exact ⟨rfl, rfl⟩
        have loop : ∀ (k q x : Nat), q + k = nl → x ≤ ml → gd_pt T s zs nl k q x = gd_pt T s zs nl nl 0 ml → X140 (lN x) (nI r) (nI nl) (nI i) (nI q) (lN (gd_w T s zs nl q)) τ := by
          intro k
          induction k with
          | zero =>
            intro q x hq hx hpt2
            have hq : q = nl := hq
            have hwq := gc_cap_le (gd_F T s q * gc_E T zs (nl - q))
            have hpt2 : (q, x) = gd_pt T s zs nl nl 0 ml := hpt2
            apply h140
            refine ⟨fun _ => fin q x hpt2.symm, fun _ => pk_le nl q (fun _ => fin q x hpt2.symm) (fun z => absurd z (by omega))⟩
          | succ k ihk =>
            intro q x hq hx hpt2
            have hpt2 : (if x < gd_w T s zs nl q then (q, x) else gd_pt T s zs nl k (q + 1) (x - gd_w T s zs nl q)) = gd_pt T s zs nl nl 0 ml := hpt2
            have hwq : gd_w T s zs nl q ≤ 1000000000000000001 := gc_cap_le _
            apply h140
            refine ek_if (pk_lLT (a := x) (b := gd_w T s zs nl q) (by omega) (by omega)) (fun z => ?_) (fun z => ?_)
            · rw [if_pos z] at hpt2
              exact fin q x hpt2.symm
            · rw [if_neg z] at hpt2
              refine pk_le nl q (fun z => absurd z (by omega)) (fun _ => ?_)
              refine nm_r (lN_sub (by omega)) (nm_r (nI_1 q) ?_)
              refine n_at hgr hr h1 ?_
              rw [h2]
              refine n_of (T := T) (N := 17) hs24 (by decide) (by omega) hgt ?_
              have ei : (17 : Int32) * nI i + (17 : Int32) + nI nl - nI (q + 1) = nI ((i + 1) * 17 + (nl - (q + 1))) := by
                rw [show (17 : Int32) = nI 17 from rfl, pk_mul, nI_add, nI_add, pk_sub (by omega)]
                congr 1
                omega
              rw [ei]
              refine ⟨vp_in_nI (by omega) (by decide), ?_⟩
              rw [nI_clamp (by omega), hbeh (q + 1) (by omega)]
              refine n_product (gd_F_le hTb _ _) (gc_E_le _ _ _) ?_
              exact ihk (q + 1) (x - gd_w T s zs nl q) (by omega) (by omega) hpt2
        apply h91
        refine ⟨vr, ?_⟩
        rw [nI_clamp (by omega), es]
        refine pk_le (gg_y G r).length i (fun q => absurd q (by omega)) (fun _ => ?_)
        refine n_at hgr hr h1 ?_
        rw [h2]
        refine n_of (p := 0) (T := T) (N := 17) hs24 (by decide) (by decide) hgt ?_
        have ei : (17 : Int32) * nI i + (17 : Int32) + nI nl = nI ((i + 1) * 17 + (nl - 0)) := by
          rw [show (17 : Int32) = nI 17 from rfl, pk_mul, nI_add, nI_add]
          congr 1
          omega
        rw [ei]
        refine ⟨vp_in_nI (by omega) (by decide), ?_⟩
        rw [nI_clamp (by omega), hbeh 0 (by omega)]
        refine n_product (gd_F_le hTb _ _) (gc_E_le _ _ _) ?_
        exact loop nl 0 ml (by omega) (Nat.le_refl _) rfl
    exact key (gg_y G r) 0 n m' [] τ rfl (by omega) rfl rfl (Nat.le_refl _) hm' hmb hfr h7' hqi hmbt (fun j e hj => by cases hj)
  -- the rule
  have rules : ∀ (k r x : Nat) (f : Nat → Int64), r + k = G.length → x + gc_pt T G (fun _ => true) A n r < gc_pt T G (fun _ => true) A n G.length → gd_pk T G A n k r x = gd_pk T G A n G.length 0 m → X9 (nI A) (nI n) (lN x) (nI r) 0 (gs_L σ 3 f) := by
    intro k
    induction k with
    | zero =>
      intro r x f hr hx _
      have hr : r = G.length := hr
      subst hr
      omega
    | succ k ih =>
      intro r x f hr hx hpk
      have hr' : r < G.length := by omega
      have hl8 := (h.1.2 r hr').1
      have hpk : (if gg_l G r = A then (if x < gc_E T (gg_y G r) n then some (r, x) else gd_pk T G A n k (r + 1) (x - gc_E T (gg_y G r) n)) else gd_pk T G A n k (r + 1) x) = gd_pk T G A n G.length 0 m := hpk
      have hnx : gc_pt T G (fun _ => true) A n (r + 1) = gc_pt T G (fun _ => true) A n r + (if true = true ∧ gg_l G r = A then gc_E T (gg_y G r) n else 0) := rfl
      have hEb := gc_E_le T (gg_y G r) n
      have hle := gc_pt_true_mono T G A n (r + 1) G.length (by omega)
      apply h9
      refine br_f (fun z => z rfl) ?_
      refine pk_le G.length r (fun z => absurd z (by omega)) (fun _ => ⟨vp_in_nI (by omega) (by decide), ?_⟩) h.2.1
      have el : (gs_L σ 3 f).2.1 0 r = nI (gg_l G r) := (h.2.2 r hr').1
      rw [nI_clamp (by omega), el]
      refine ek_if (not_congr (nI_eq (by omega) (by omega))) (fun z => ?_) (fun z => ?_)
      · rw [if_neg z] at hpk
        rw [if_neg (fun y => z y.2)] at hnx
        apply h52
        have h0 : (0 : Int64) ≤ lN x := (pk_lLE (a := 0) (b := x) (by decide) (by omega)).mpr (Nat.zero_le _)
        have e0 : lN x - (0 : Int64) = lN x := lN_sub (a := x) (b := 0) (Nat.zero_le _)
        exact br_t h0 (br_f (fun y => y rfl) (nm_r e0 (nm_r (nI_1 r) (ih (r + 1) x f (by omega) (by omega) hpk))))
      · have z : gg_l G r = A := Classical.byContradiction z
        rw [if_pos z] at hpk
        rw [if_pos ⟨rfl, z⟩] at hnx
        refine n_fill (T := T) (N := 17) (h.of rfl rfl rfl rfl) hr' (by omega) (by decide) hT hTb (fun f2 hf2 => ⟨vp_in_nI (by omega) (by decide), ?_⟩)
        rw [gs_LL]
        have e0 : (gs_L σ 3 f2).2.2 3 n = lN (gc_E T (gg_y G r) n) := by
          have := hf2 0 (Nat.zero_le _) n (Nat.le_refl _)
          rw [Nat.zero_mul, Nat.zero_add] at this
          exact this
        rw [nI_clamp (by omega), e0]
        refine nm_e ?_
        apply h52
        refine ek_if (pk_lLE (a := gc_E T (gg_y G r) n) (b := x) (by omega) (by omega)) (fun y => ?_) (fun y => ?_)
        · rw [if_neg (by omega)] at hpk
          exact br_f (fun w => w rfl) (nm_r (lN_sub y) (nm_r (nI_1 r) (ih (r + 1) _ f2 (by omega) (by omega) hpk)))
        · rw [if_pos (by omega)] at hpk
          refine br_t (by decide) ?_
          apply h9
          refine br_t (by decide) ?_
          exact parts r x hpk.symm hr' (by omega) (by omega) (gs_L σ 3 f2) (fr_m.L (Or.inl rfl)) h7 hpi (fun i hi p' hp' => hf2 i hi p' hp')
  have := rules G.length 0 m (σ.2.2 3) (by omega) (by show m + 0 < _; omega) rfl
  rw [gs_Lid] at this
  exact this
end M2H
