/-! Layer 2 of the reference, part f: counts. -/
section M2F
variable {G : gg_R} {σ : gs_St} {T : Nat → Nat → Nat}
theorem n_sum {a b : Nat} {K : Int64 → gs_St → Prop} (ha : a ≤ 1000000000000000001) (hb : b ≤ 1000000000000000001) (k : K (lN (gc_cap (a + b))) σ) : C_Mo_sum (lN a) (lN b) σ K := by
  unfold C_Mo_sum
  rw [lN_add, gl_18]
  unfold gc_cap at k
  refine ek_if (pk_lLE (by omega) (by decide)) (fun q => ?_) (fun q => ?_)
  · rw [if_pos q] at k
    exact k
  · rw [if_neg q] at k
    exact k
theorem n_product {a b : Nat} {K : Int64 → gs_St → Prop} (ha : a ≤ 1000000000000000001) (hb : b ≤ 1000000000000000001) (k : K (lN (gc_cap (a * b))) σ) : C_Mo_product (lN a) (lN b) σ K := by
  have hza : (lN a = (0 : Int64)) ↔ a = 0 := pk_lEQ (a := a) (b := 0) (by omega) (by decide)
  refine ek_if hza (fun q => ?_) (fun q => s_times ha hb k)
  subst q
  rw [Nat.zero_mul] at k
  exact k
theorem n_of {s p N : Nat} {K : Int64 → gs_St → Prop} (hs : s < 24) (hN : N ≤ 17) (hp : p < N) (hT : mt_at T N σ) (k : K (lN (gd_F T s p)) σ) : C_Mo_of (nI s) (nI p) σ K := by
  refine n_isNtN (by omega) (fun q => br_f (by decide) ?_) (fun q => br_t rfl ?_)
  · rw [n_17]
    refine ⟨vp_in_nI (by omega) (by decide), ?_⟩
    rw [nI_clamp (by omega), hT s q p hp]
    unfold gd_F at k
    rw [if_pos q] at k
    exact k
  · unfold gd_F at k
    rw [if_neg (by omega)] at k
    refine ek_if (not_congr (nI_eq (a := p) (b := 1) (by omega) (by decide))) (fun z => ?_) (fun z => ?_)
    · rw [if_neg z] at k
      exact k
    · rw [if_pos (Classical.byContradiction z)] at k
      exact k
theorem gd_F_le {T : Nat → Nat → Nat} (hTb : ∀ A p, T A p ≤ 1000000000000000001) (s p : Nat) : gd_F T s p ≤ 1000000000000000001 := by
  unfold gd_F
  split
  · exact hTb s p
  · split <;> omega
/-- the endings of a rule -/
def mb_at (T : Nat → Nat → Nat) (ys : List Nat) (n : Nat) (σ : gs_St) : Prop := ∀ i, i ≤ ys.length → ∀ p, p ≤ n → σ.2.2 3 (i * 17 + p) = lN (gc_E T (ys.drop i) p)
theorem n_fill {r n N : Nat} {K : gs_St → Prop} (h : mr_at G σ) (hr : r < G.length) (hn : n < N) (hN : N ≤ 17) (hT : mt_at T N σ) (hTb : ∀ A p, T A p ≤ 1000000000000000001)
    (kk : ∀ f : Nat → Int64, (∀ i, i ≤ (gg_y G r).length → ∀ p, p ≤ n → f (i * 17 + p) = lN (gc_E T ((gg_y G r).drop i) p)) → K (gs_L σ 3 f)) : C_Mo_fill (nI r) (nI n) σ K := by
  intro X2 X47 X54 X66 h2 h47 h54 h66
  have hG := h.1.1
  obtain ⟨hl8, hz, h24⟩ := h.1.2 r hr
  have g3 : ∀ f, mr_at G (gs_L σ 3 f) := fun f => h.of rfl rfl rfl rfl
  have t3 : ∀ f, mt_at T N (gs_L σ 3 f) := fun f => hT
  have vr : vp_in (nI r) 24 := vp_in_nI (by omega) (by decide)
  have esz : ∀ f, (gs_L σ 3 f).2.1 1 r = nI (gg_y G r).length := fun f => (h.2.2 r hr).2.1
  have rows : ∀ (c : Nat) (f : Nat → Int64), c ≤ (gg_y G r).length → (∀ i, c ≤ i → i ≤ (gg_y G r).length → ∀ p, p ≤ n → f (i * 17 + p) = lN (gc_E T ((gg_y G r).drop i) p)) → X47 (nI r) (nI n) (nI c - 1) (gs_L σ 3 f) := by
    intro c
    induction c with
    | zero =>
      intro f hc hf
      apply h47
      exact br_t (by decide) (kk f (fun i hi => hf i (Nat.zero_le _) hi))
    | succ c ih =>
      intro f hc hf
      have hc' : c < (gg_y G r).length := by omega
      have h24c := h24 c hc'
      rw [nI_pred]
      apply h47
      refine br_f (nI_pos (by omega)) ?_
      have cols : ∀ (m q : Nat) (f : Nat → Int64), q + m = n + 1 → (∀ i, c < i → i ≤ (gg_y G r).length → ∀ p, p ≤ n → f (i * 17 + p) = lN (gc_E T ((gg_y G r).drop i) p)) → (∀ p, p < q → f (c * 17 + p) = lN (gc_E T ((gg_y G r).drop c) p)) → X54 (nI r) (nI n) (nI c) (nI q) (gs_L σ 3 f) := by
        intro m
        induction m with
        | zero =>
          intro q f hq hf hfc
          have hq : q = n + 1 := hq
          subst hq
          apply h54
          refine pk_lt n (n + 1) (fun _ => ?_) (fun z => absurd z (by omega))
          rw [gv_m1]
          refine nm_e (ih f (by omega) (fun i hi hi2 p hp => ?_))
          by_cases e : i = c
          · rw [e]
            exact hfc p (by omega)
          · exact hf i (by omega) hi2 p hp
        | succ m ihm =>
          intro q f hq hf hfc
          apply h54
          refine pk_lt n q (fun z => absurd z (by omega)) (fun _ => ?_)
          have sum : ∀ (m2 p : Nat), p + m2 = q + 1 → X66 (nI r) (nI n) (nI c) (nI q) (lN (gc_cap (gc_sum (fun p => gd_F T ((gg_y G r).getD c 0) p * gc_E T ((gg_y G r).drop (c + 1)) (q - p)) p))) (nI p) (gs_L σ 3 f) := by
            intro m2
            induction m2 with
            | zero =>
              intro p hp
              have hp : p = q + 1 := hp
              subst hp
              apply h66
              refine pk_lt q (q + 1) (fun _ => ?_) (fun z => absurd z (by omega))
              rw [n_17, ← gc_E_sum, ← gg_drop hc']
              refine ⟨vp_in_nI (by omega) (by decide), ?_⟩
              rw [nI_clamp (by omega)]
              intro τ hτ
              have eτ : τ = gs_L σ 3 (vp_updL f (c * 17 + q) (lN (gc_E T ((gg_y G r).drop c) q))) := by
                rw [hτ, gs_LL]
                rfl
              rw [eτ]
              refine nm_r (nI_1 q) (ihm (q + 1) _ (by omega) (fun i hi hi2 p hp => ?_) (fun p hp => ?_))
              · show (if i * 17 + p = c * 17 + q then _ else f (i * 17 + p)) = _
                rw [if_neg (by omega)]
                exact hf i hi hi2 p hp
              · show (if c * 17 + p = c * 17 + q then lN (gc_E T ((gg_y G r).drop c) q) else f (c * 17 + p)) = _
                by_cases e : p = q
                · rw [if_pos (by rw [e]), e]
                · rw [if_neg (by omega)]
                  exact hfc p (by omega)
            | succ m2 ih2 =>
              intro p hp
              apply h66
              refine pk_lt q p (fun z => absurd z (by omega)) (fun _ => ?_)
              refine n_at (g3 f) hr hc' ?_
              refine n_of (T := T) (N := N) h24c hN (by omega) (t3 f) ?_
              have ei : (17 : Int32) * nI c + (17 : Int32) + nI q - nI p = nI ((c + 1) * 17 + (q - p)) := by
                rw [show (17 : Int32) = nI 17 from rfl, pk_mul, nI_add, nI_add, pk_sub (by omega)]
                congr 1
                omega
              rw [ei]
              refine ⟨vp_in_nI (by omega) (by decide), ?_⟩
              have ef : (gs_L σ 3 f).2.2 3 ((c + 1) * 17 + (q - p)) = lN (gc_E T ((gg_y G r).drop (c + 1)) (q - p)) := hf (c + 1) (by omega) (by omega) (q - p) (by omega)
              rw [nI_clamp (by omega), ef]
              refine n_product (gd_F_le hTb _ _) (gc_E_le _ _ _) (n_sum (gc_cap_le _) (gc_cap_le _) ?_)
              rw [gc_cap_add2]
              exact nm_r (nI_1 p) (ih2 (p + 1) (by omega))
          exact sum (q + 1) 0 (by omega)
      exact cols (n + 1) 0 f (by omega) (fun i hi => hf i (by omega)) (fun p hp => absurd hp (Nat.not_lt_zero _))
  have base : ∀ (m q : Nat) (f : Nat → Int64), q + m = n + 1 → (∀ p, p < q → f ((gg_y G r).length * 17 + p) = lN (if p = 0 then 1 else 0)) → X2 (nI r) (nI n) (nI q) (gs_L σ 3 f) := by
    intro m
    induction m with
    | zero =>
      intro q f hq hf
      have hq : q = n + 1 := hq
      subst hq
      apply h2
      refine pk_lt n (n + 1) (fun _ => ⟨vr, ?_⟩) (fun z => absurd z (by omega))
      rw [nI_clamp (by omega), esz]
      refine nm_e (rows (gg_y G r).length f (Nat.le_refl _) (fun i hi hi2 p hp => ?_))
      have e : i = (gg_y G r).length := by omega
      subst e
      rw [hf p (by omega), List.drop_eq_nil_iff.mpr (Nat.le_refl _)]
      rfl
    | succ m ih =>
      intro q f hq hf
      apply h2
      refine pk_lt n q (fun z => absurd z (by omega)) (fun _ => ⟨vr, ?_⟩)
      rw [nI_clamp (by omega), esz, n_17, nI_clamp (by omega)]
      have step : ∀ v : Int64, v = lN (if q = 0 then 1 else 0) → ∀ τ : gs_St, τ = gs_L (gs_L σ 3 f) 3 (vp_updL ((gs_L σ 3 f).2.2 3) ((gg_y G r).length * 17 + q) v) → ∀ v3 : Int32, v3 = nI q + 1 → X2 (nI r) (nI n) v3 τ := by
        intro v hv τ hτ
        have eτ : τ = gs_L σ 3 (vp_updL f ((gg_y G r).length * 17 + q) v) := by
          rw [hτ, gs_LL]
          rfl
        rw [eτ]
        refine nm_r (nI_1 q) (ih (q + 1) _ (by omega) (fun p hp => ?_))
        show (if (gg_y G r).length * 17 + p = (gg_y G r).length * 17 + q then v else f ((gg_y G r).length * 17 + p)) = _
        by_cases e : p = q
        · rw [if_pos (by rw [e]), hv, e]
        · rw [if_neg (by omega)]
          exact hf p (by omega)
      have vi : vp_in (nI ((gg_y G r).length * 17 + q)) 119 := vp_in_nI (by omega) (by decide)
      refine ek_if (not_congr (nI_eq (a := q) (b := 0) (by omega) (by decide))) (fun z => ⟨vi, step 0 ?_⟩) (fun z => ⟨vi, step 1 ?_⟩)
      · rw [if_neg z]
        rfl
      · rw [if_pos (Classical.byContradiction z)]
        rfl
  have := base (n + 1) 0 (σ.2.2 3) (by omega) (fun p hp => absurd hp (Nat.not_lt_zero _))
  rw [gs_Lid] at this
  exact this
/-- the table with a new value for A at n -/
def gc_up (T : Nat → Nat → Nat) (A n v : Nat) : Nat → Nat → Nat := fun x p => if x = A ∧ p = n then v else T x p
theorem gc_up_s {T : Nat → Nat → Nat} {A n v : Nat} : gc_up T A n v A n = v := if_pos ⟨rfl, rfl⟩
theorem gc_up_p {T : Nat → Nat → Nat} {A n v x p : Nat} (h : p ≠ n) : gc_up T A n v x p = T x p := if_neg (fun q => h q.2)
theorem gc_up_x {T : Nat → Nat → Nat} {A n v x p : Nat} (h : x ≠ A) : gc_up T A n v x p = T x p := if_neg (fun q => h q.1)
theorem gc_up_id {T : Nat → Nat → Nat} {A n : Nat} : gc_up T A n (T A n) = T := by
  funext x p
  unfold gc_up
  split
  · rename_i q
    rw [q.1, q.2]
  · rfl
/-- x's count at n is the sum over its rules -/
def gc_st (T : Nat → Nat → Nat) (G : gg_R) (kp : Nat → Bool) (n x : Nat) : Prop := T x n = gc_cap (gc_pt T G kp x n G.length)
theorem n_reckon {x : Int32} {D : Nat → Option Nat} {rk : Nat → Nat} {K : gs_St → Prop} (h : mr_at G σ) (hk : σ.1 5 = 0 ∨ (σ.1 5 = 1 ∧ mk_at G σ)) (hD : gm_L G D) (hrk : ∀ A y, A < 8 → y < 8 → gg_to G D A y → rk y < rk A) (hr8 : ∀ A, A < 8 → rk A < 8)
    (kk : ∀ (T : Nat → Nat → Nat) (τ : gs_St), (∀ A p, T A p ≤ 1000000000000000001) → gc_okk (fun y => D y = some 0) G (fun r => decide (nI r ≠ x)) T 17 → mt_at T 17 τ → τ.1 5 = 1 → τ.1 6 = x → (∀ k, k ≠ 5 → k ≠ 6 → τ.1 k = σ.1 k) → τ.2.1 = σ.2.1 → (∀ k, k ≠ 2 → k ≠ 3 → τ.2.2 k = σ.2.2 k) → K τ) : C_Mo_reckon x σ K := by
  intro X28 X50 X61 X77 X90 h28 h50 h61 h77 h90
  have hG := h.1.1
  have hcl := gm_L_cl h.1 hD
  have run : ∀ σ2 : gs_St, σ2 = gs_I (gs_I σ 5 1) 6 x → X28 x 0 σ2 := by
    intro σ2 e2
    have gS : ∀ m f, mr_at G (gs_L (gs_L σ2 2 m) 3 f) := fun m f => h.of (by rw [e2]; rfl) (by rw [e2]; rfl) (by rw [e2]; rfl) (by rw [e2]; rfl)
    have g0 : ∀ m f, (gs_L (gs_L σ2 2 m) 3 f).1 0 = nI G.length := fun m f => (gS m f).2.1
    have lens : ∀ (c n : Nat) (Tc : Nat → Nat → Nat) (m f : Nat → Int64), n + c = 17 → (∀ A p, Tc A p ≤ 1000000000000000001) → (∀ A, A < 8 → ∀ p, p < 17 → m (A * 17 + p) = lN (Tc A p)) → (∀ y, y < 8 → ¬ D y = some 0 → Tc y 0 = 0) → (∀ y p, y < 8 → p < n → gc_st Tc G (fun r => decide (nI r ≠ x)) p y) → X50 x (nI n) (gs_L (gs_L σ2 2 m) 3 f) := by
      intro c
      induction c with
      | zero =>
        intro n Tc m f hn hb hm hem hok
        have hn : n = 17 := hn
        subst hn
        apply h50
        refine br_t (by decide) (kk Tc _ hb ⟨fun A p hA hp => hok A p hA hp, fun A hA he _ => hem A hA he⟩ hm ?_ ?_ (fun k k5 k6 => ?_) ?_ (fun k k2 k3 => ?_))
        · rw [e2]; rfl
        · rw [e2]; rfl
        · rw [e2]
          show (if k = 6 then x else if k = 5 then 1 else σ.1 k) = σ.1 k
          rw [if_neg k6, if_neg k5]
        · rw [e2]; rfl
        · rw [e2]
          show (if k = 3 then f else if k = 2 then m else σ.2.2 k) = σ.2.2 k
          rw [if_neg k3, if_neg k2]
      | succ c ih =>
        intro n Tc m f hn hb hm hem hok
        apply h50
        refine pk_le 17 n (fun z => absurd z (by omega)) (fun _ => ?_)
        -- turns
        have turns : ∀ (c2 t : Nat) (b : Bool) (Tc : Nat → Nat → Nat) (m f : Nat → Int64), t + c2 = 10 → (∀ A p, Tc A p ≤ 1000000000000000001) → (∀ A, A < 8 → ∀ p, p < 17 → m (A * 17 + p) = lN (Tc A p)) → (∀ y, y < 8 → ¬ D y = some 0 → Tc y 0 = 0) → (∀ y p, y < 8 → p < n → gc_st Tc G (fun r => decide (nI r ≠ x)) p y) → (∀ y, y < 8 → rk y < t → gc_st Tc G (fun r => decide (nI r ≠ x)) n y) → (b = false → ∀ y, y < 8 → gc_st Tc G (fun r => decide (nI r ≠ x)) n y) → X61 x (nI n) (bI b) (nI t) (gs_L (gs_L σ2 2 m) 3 f) := by
          intro c2
          induction c2 with
          | zero =>
            intro t b Tc m f ht hb hm hem hok hst hbf
            have ht : t = 10 := ht
            subst ht
            apply h61
            refine br_t (by decide) (nm_r (nI_1 n) (ih (n + 1) Tc m f (by omega) hb hm hem (fun y p hy hp => ?_)))
            by_cases e : p = n
            · rw [e]
              exact hst y hy (by have := hr8 y hy; omega)
            · exact hok y p hy (by omega)
          | succ c2 ih2 =>
            intro t b Tc m f ht hb hm hem hok hst hbf
            apply h61
            refine pk_le 10 t (fun z => absurd z (by omega)) (fun _ => ek_if (bI_0 b) (fun z => nm_r (nI_1 n) (ih (n + 1) Tc m f (by omega) hb hm hem (fun y p hy hp => ?_))) (fun z => ?_))
            · by_cases e : p = n
              · rw [e]
                exact hbf z y hy
              · exact hok y p hy (by omega)
            · -- one turn
              have turn : ∀ (c3 A : Nat) (b : Bool) (Tc : Nat → Nat → Nat) (m f : Nat → Int64), A + c3 = 8 → (∀ A p, Tc A p ≤ 1000000000000000001) → (∀ A, A < 8 → ∀ p, p < 17 → m (A * 17 + p) = lN (Tc A p)) → (∀ y, y < 8 → ¬ D y = some 0 → Tc y 0 = 0) → (∀ y p, y < 8 → p < n → gc_st Tc G (fun r => decide (nI r ≠ x)) p y) → (∀ y, y < 8 → rk y < t → gc_st Tc G (fun r => decide (nI r ≠ x)) n y) → (∀ y, y < A → rk y ≤ t → gc_st Tc G (fun r => decide (nI r ≠ x)) n y) → (b = false → ∀ y, y < A → gc_st Tc G (fun r => decide (nI r ≠ x)) n y) → X77 x (nI n) (bI b) (nI t) (nI A) (gs_L (gs_L σ2 2 m) 3 f) := by
                intro c3
                induction c3 with
                | zero =>
                  intro A b Tc m f hA hb hm hem hok hst hst2 hbf
                  have hA : A = 8 := hA
                  subst hA
                  apply h77
                  exact br_t (by decide) (nm_r (nI_1 t) (ih2 (t + 1) b Tc m f (by omega) hb hm hem hok (fun y hy hy2 => hst2 y hy (by omega)) hbf))
                | succ c3 ih3 =>
                  intro A b Tc m f hA hb hm hem hok hst hst2 hbf
                  have hA8 : A < 8 := by omega
                  apply h77
                  refine pk_le 8 A (fun z => absurd z (by omega)) (fun _ => ?_)
                  have noself : ¬ gg_to G D A A := fun z => by have := hrk A A hA8 hA8 z; omega
                  -- the new table
                  have fin : ∀ (b2 : Bool) (f : Nat → Int64), (b2 = false → b = false ∧ gc_cap (gc_pt Tc G (fun r => decide (nI r ≠ x)) A n G.length) = Tc A n) → ∀ τ : gs_St, τ = gs_L (gs_L (gs_L σ2 2 m) 3 f) 2 (vp_updL ((gs_L (gs_L σ2 2 m) 3 f).2.2 2) (A * 17 + n) (lN (gc_cap (gc_pt Tc G (fun r => decide (nI r ≠ x)) A n G.length)))) → ∀ v11 : Int32, v11 = nI A + 1 → X77 x (nI n) (bI b2) (nI t) v11 τ := by
                    intro b2 f hb2 τ hτ
                    have eτ : τ = gs_L (gs_L σ2 2 (vp_updL m (A * 17 + n) (lN (gc_cap (gc_pt Tc G (fun r => decide (nI r ≠ x)) A n G.length))))) 3 f := by
                      rw [hτ, gs_LLL σ2 2 3 (by decide)]
                      rfl
                    rw [eτ]
                    have hTu : ∀ B, B < 8 → ∀ p, p < 17 → vp_updL m (A * 17 + n) (lN (gc_cap (gc_pt Tc G (fun r => decide (nI r ≠ x)) A n G.length))) (B * 17 + p) = lN (gc_up Tc A n (gc_cap (gc_pt Tc G (fun r => decide (nI r ≠ x)) A n G.length)) B p) := fun B hB p hp => by
                      show (if B * 17 + p = A * 17 + n then _ else m (B * 17 + p)) = _
                      unfold gc_up
                      by_cases e : B = A ∧ p = n
                      · rw [if_pos (by rw [e.1, e.2]), if_pos e]
                      · rw [if_neg (by omega), if_neg e]
                        exact hm B hB p hp
                    by_cases same : gc_cap (gc_pt Tc G (fun r => decide (nI r ≠ x)) A n G.length) = Tc A n
                    · have eT : gc_up Tc A n (gc_cap (gc_pt Tc G (fun r => decide (nI r ≠ x)) A n G.length)) = Tc := by rw [same, gc_up_id]
                      rw [eT] at hTu
                      have hSA : gc_st Tc G (fun r => decide (nI r ≠ x)) n A := same.symm
                      refine nm_r (nI_1 A) (ih3 (A + 1) b2 Tc _ f (by omega) hb hTu hem hok hst (fun y hy hy2 => ?_) (fun z y hy => ?_))
                      · by_cases e : y = A
                        · rw [e]; exact hSA
                        · exact hst2 y (by omega) hy2
                      · by_cases e : y = A
                        · rw [e]; exact hSA
                        · exact hbf (hb2 z).1 y (by omega)
                    · have hb2t : b2 = true := by
                        cases hh : b2 with
                        | true => rfl
                        | false => exact absurd (hb2 hh).2 same
                      have hrA : t ≤ rk A := Classical.byContradiction (fun z => same (hst A hA8 (by omega)).symm)
                      have hem2 : ∀ y, y < 8 → ¬ D y = some 0 → gc_up Tc A n (gc_cap (gc_pt Tc G (fun r => decide (nI r ≠ x)) A n G.length)) y 0 = 0 := fun y hy he => by
                        unfold gc_up
                        split
                        · rename_i q
                          obtain ⟨q1, q2⟩ := q
                          subst q1
                          rw [← q2, gc_pt_zero hcl hem he _ (Nat.le_refl _)]
                          rfl
                        · exact hem y hy he
                      have keep : ∀ y, y < 8 → ¬ gg_to G D y A → gc_pt (gc_up Tc A n (gc_cap (gc_pt Tc G (fun r => decide (nI r ≠ x)) A n G.length))) G (fun r => decide (nI r ≠ x)) y n G.length = gc_pt Tc G (fun r => decide (nI r ≠ x)) y n G.length := fun y hy hno =>
                        gc_pt_same (T := gc_up Tc A n (gc_cap (gc_pt Tc G (fun r => decide (nI r ≠ x)) A n G.length))) (T' := Tc) (D := D) (n := n) h.1 (fun z p _ hp => gc_up_p (by omega)) (fun z hz he => ⟨hem2 z hz he, hem z hz he⟩) (fun z hz hto => gc_up_x (fun e => hno (e ▸ hto))) _ (Nat.le_refl _)
                      have keepS : ∀ y, y < 8 → y ≠ A → rk y ≤ t → gc_st Tc G (fun r => decide (nI r ≠ x)) n y → gc_st (gc_up Tc A n (gc_cap (gc_pt Tc G (fun r => decide (nI r ≠ x)) A n G.length))) G (fun r => decide (nI r ≠ x)) n y := fun y hy hne hyt hs => by
                        unfold gc_st
                        rw [keep y hy (fun z => by have := hrk y A hy hA8 z; omega), gc_up_x hne]
                        exact hs
                      have hSA : gc_st (gc_up Tc A n (gc_cap (gc_pt Tc G (fun r => decide (nI r ≠ x)) A n G.length))) G (fun r => decide (nI r ≠ x)) n A := by
                        unfold gc_st
                        rw [keep A hA8 noself, gc_up_s]
                      refine nm_r (nI_1 A) (ih3 (A + 1) b2 _ _ f (by omega) (fun B p => ?_) hTu hem2 (fun y p hy hp => ?_) (fun y hy hyt => ?_) (fun y hy hyt => ?_) (fun z => by rw [hb2t] at z; exact absurd z.symm Bool.false_ne_true))
                      · unfold gc_up
                        split
                        · exact gc_cap_le _
                        · exact hb B p
                      · unfold gc_st
                        rw [gc_up_p (by omega), gc_pt_upto (T := gc_up Tc A n (gc_cap (gc_pt Tc G (fun r => decide (nI r ≠ x)) A n G.length))) (T' := Tc) (fun z q _ hq => gc_up_p (by omega))]
                        exact hok y p hy hp
                      · by_cases e : y = A
                        · rw [e]; exact hSA
                        · exact keepS y hy e (by omega) (hst y hy hyt)
                      · by_cases e : y = A
                        · rw [e]; exact hSA
                        · exact keepS y (by omega) e hyt (hst2 y (by omega) hyt)
                  have rules : ∀ (c4 r : Nat) (f : Nat → Int64), r + c4 = G.length → X90 x (nI n) (bI b) (nI t) (nI A) (lN (gc_cap (gc_pt Tc G (fun r => decide (nI r ≠ x)) A n r))) (nI r) (gs_L (gs_L σ2 2 m) 3 f) := by
                    intro c4
                    induction c4 with
                    | zero =>
                      intro r f hr
                      have hr : r = G.length := hr
                      subst hr
                      apply h90
                      refine pk_le G.length G.length (fun _ => ?_) (fun z => absurd z (by omega)) (g0 m f)
                      have em : (gs_L (gs_L σ2 2 m) 3 f).2.2 2 (A * 17 + n) = lN (Tc A n) := hm A hA8 n (by omega)
                      have vi : vp_in (nI (A * 17 + n)) 136 := vp_in_nI (by omega) (by decide)
                      rw [n_17, nI_clamp (by omega), em]
                      refine ek_if (bI_n0 b) (fun z => ⟨vi, fin true f (fun y => absurd y.symm Bool.false_ne_true)⟩) (fun z => ⟨vi, ?_⟩)
                      have hbfalse : b = false := by
                        cases hh : b with
                        | true => exact absurd hh z
                        | false => rfl
                      have hbt := hb A n
                      have hct := gc_cap_le (gc_pt Tc G (fun r => decide (nI r ≠ x)) A n G.length)
                      refine ek_if (pk_lEQ (by omega) (by omega)) (fun y => ⟨vi, fin false f (fun _ => ⟨hbfalse, y⟩)⟩) (fun y => ⟨vi, fin true f (fun w => absurd w.symm Bool.false_ne_true)⟩)
                    | succ c4 ih4 =>
                      intro r f hr
                      have hr' : r < G.length := by omega
                      obtain ⟨hl8, hz, h24⟩ := h.1.2 r hr'
                      have enx : gc_pt Tc G (fun r => decide (nI r ≠ x)) A n (r + 1) = gc_pt Tc G (fun r => decide (nI r ≠ x)) A n r + (if decide (nI r ≠ x) = true ∧ gg_l G r = A then gc_E Tc (gg_y G r) n else 0) := rfl
                      have pass : ¬ (decide (nI r ≠ x) = true ∧ gg_l G r = A) → ∀ v : Int32, v = nI r + 1 → X90 x (nI n) (bI b) (nI t) (nI A) (lN (gc_cap (gc_pt Tc G (fun r => decide (nI r ≠ x)) A n r))) v (gs_L (gs_L σ2 2 m) 3 f) := fun hno => by
                        have enx2 : gc_pt Tc G (fun r => decide (nI r ≠ x)) A n (r + 1) = gc_pt Tc G (fun r => decide (nI r ≠ x)) A n r := enx.trans (by rw [if_neg hno]; rfl)
                        rw [← enx2]
                        exact nm_r (nI_1 r) (ih4 (r + 1) f (by omega))
                      apply h90
                      refine pk_le G.length r (fun z => absurd z (by omega)) (fun _ => ⟨vp_in_nI (by omega) (by decide), ?_⟩) (g0 m f)
                      have el : (gs_L (gs_L σ2 2 m) 3 f).2.1 0 r = nI (gg_l G r) := ((gS m f).2.2 r hr').1
                      rw [nI_clamp (by omega), el]
                      refine ek_if (not_congr (nI_eq (by omega) (by omega))) (fun z => pass (fun y => z y.2)) (fun z => ⟨fun y => pass (fun w => absurd y (of_decide_eq_true w.1)), fun y => ?_⟩)
                      have z : gg_l G r = A := Classical.byContradiction z
                      rw [if_pos ⟨decide_eq_true y, z⟩] at enx
                      refine n_fill (T := Tc) (N := 17) (gS m f) hr' (by omega) (by decide) hm hb (fun f2 hf2 => ?_)
                      rw [gs_LL]
                      refine ⟨vp_in_nI (by omega) (by decide), ?_⟩
                      have e0 : (gs_L (gs_L σ2 2 m) 3 f2).2.2 3 n = lN (gc_E Tc (gg_y G r) n) := by
                        have := hf2 0 (Nat.zero_le _) n (Nat.le_refl _)
                        rw [Nat.zero_mul, Nat.zero_add] at this
                        exact this
                      rw [nI_clamp (by omega), e0]
                      refine n_sum (gc_cap_le _) (gc_E_le _ _ _) ?_
                      rw [gc_cap_add, ← enx]
                      exact nm_r (nI_1 r) (ih4 (r + 1) f2 (by omega))
                  exact rules G.length 0 f (by omega)
              exact turn 8 0 false Tc m f rfl hb hm hem hok hst (fun y hy => absurd hy (Nat.not_lt_zero _)) (fun _ y hy => absurd hy (Nat.not_lt_zero _))
        exact turns 10 0 true Tc m f rfl hb hm hem hok (fun y _ hy => absurd hy (Nat.not_lt_zero _)) (fun z => absurd z.symm Bool.false_ne_true)
    have zero : ∀ (c i : Nat) (m : Nat → Int64), i + c = 136 → (∀ j, j < i → m j = 0) → X28 x (nI i) (gs_L σ2 2 m) := by
      intro c
      induction c with
      | zero =>
        intro i m hi hm
        have hi : i = 136 := hi
        subst hi
        apply h28
        refine br_t (by decide) ?_
        have := lens 17 0 (fun _ _ => 0) m ((gs_L σ2 2 m).2.2 3) rfl (fun _ _ => Nat.zero_le _) (fun A hA p hp => hm _ (by omega)) (fun _ _ _ => rfl) (fun y p _ hp => absurd hp (Nat.not_lt_zero _))
        rw [gs_Lid] at this
        exact this
      | succ c ih =>
        intro i m hi hm
        apply h28
        refine pk_le 136 i (fun z => absurd z (by omega)) (fun _ => ⟨vp_in_nI (by omega) (by decide), ?_⟩)
        rw [nI_clamp (by omega)]
        intro τ hτ
        have eτ : τ = gs_L σ2 2 (vp_updL m i 0) := by
          rw [hτ, gs_LL]
          rfl
        rw [eτ]
        refine nm_r (nI_1 i) (ih (i + 1) _ (by omega) (fun j hj => ?_))
        show (if j = i then (0 : Int64) else m j) = 0
        by_cases e : j = i
        · rw [if_pos e]
        · rw [if_neg e]
          exact hm j (by omega)
    have := zero 136 0 (σ2.2.2 2) rfl (fun j hj => absurd hj (Nat.not_lt_zero _))
    rw [gs_Lid] at this
    exact this
  refine ⟨fun _ => fun σ1 e1 σ2 e2 => run σ2 (by rw [e2, e1]), fun hne => ⟨fun _ => fun σ1 e1 σ2 e2 => run σ2 (by rw [e2, e1]), fun heq => ?_⟩⟩
  have heq : σ.1 6 = x := Classical.byContradiction heq
  rcases hk with z | ⟨z, D2, T, q1, q2, q3, q4⟩
  · exact absurd z hne
  · rw [heq] at q3
    have hDD := gm_L_eq hD q1
    refine kk T σ q2 ⟨q3.1, fun A hA he => q3.2 A hA (fun w => he (by show D A = some 0; rw [hDD A hA]; exact w))⟩ q4 z heq (fun _ _ _ => rfl) rfl (fun _ _ _ => rfl)
end M2F
