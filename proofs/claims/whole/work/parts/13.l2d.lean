/-! Layer 2, part d: the class's Lengths.find -/
theorem gg_cnt_mono {O O' : Nat → Option Nat} (h : gg_le O' O) : ∀ n, gg_cnt O n ≤ gg_cnt O' n
  | 0 => Nat.le_refl 0
  | n + 1 => by
    have ih := gg_cnt_mono h n
    show gg_cnt O n + (if (O n).isSome then 1 else 0) ≤ gg_cnt O' n + (if (O' n).isSome then 1 else 0)
    cases hn : O n with
    | none =>
      show gg_cnt O n + 0 ≤ _
      omega
    | some m =>
      obtain ⟨m', -, e⟩ := h n m hn
      rw [e]
      show gg_cnt O n + 1 ≤ gg_cnt O' n + 1
      omega
def gg_b1 (c : Nat) : Nat := 6 ^ c
def gg_b2 (c : Nat) : Nat := c * 10077696
theorem gg_b1_up (c : Nat) : gg_b1 c ≤ gg_b1 (c + 1) := by
  unfold gg_b1
  rw [Nat.pow_succ]
  omega
theorem gg_b2_up (c : Nat) : gg_b2 c ≤ gg_b2 (c + 1) := by
  unfold gg_b2
  omega
theorem gg_b1_pos (c : Nat) : 1 ≤ gg_b1 c := by
  induction c with
  | zero => exact Nat.le_refl 1
  | succ c ih => exact Nat.le_trans ih (gg_b1_up c)
section L2D
variable {G : gg_R} {σ : gs_St} {D O : Nat → Option Nat}
theorem gg_o_ne {n : Nat} (h : n < 2 ^ 31) : ¬ gg_o (some n) = -1 := fun e => absurd ((gg_o_none (o := some n) (fun m e2 => by injection e2 with e2; omega)).mp e) (by intro z; cases z)
theorem s_lowerAround {r : Nat} {K : gs_St → Prop} (h : gr_at G σ) (hr : r < G.length) (hD : le_at D σ) (hbd : gg_bd D 1679616) (hO : ar_at O σ) (hsb : gg_sb gg_b2 O) (hsn : gm_snd (gm_A G D) O)
    (kk : ∀ (O' : Nat → Option Nat) (g : Nat → Int32), (∀ A, A < 8 → g A = gg_o (O' A)) → gg_sb gg_b2 O' → gg_le O' O → gm_snd (gm_A G D) O' → (∀ i, i < (gg_y G r).length → ∀ a w, O (gg_l G r) = some a → gg_but D (nI i) 0 (gg_y G r) = some w → (gg_y G r).getD i 0 < 8 → ∃ n, n ≤ a + w ∧ O' ((gg_y G r).getD i 0) = some n) → K (gs_A σ 5 g)) : C_Le_lowerAround (nI r) σ K := by
  intro X22 h22
  have hG := h.1.1
  obtain ⟨hl8, hz, h24⟩ := h.1.2 r hr
  have h5 : ∀ g, gr_at G (gs_A σ 5 g) := fun g => h.of rfl rfl rfl rfl
  refine s_leftOf h hr ⟨vp_in_nI hl8 (by decide), ?_⟩
  rw [nI_clamp (by omega), hO _ hl8]
  cases hout : O (gg_l G r) with
  | none =>
    refine nm_e (br_f (fun z => z rfl) ?_)
    have := kk O (σ.2.1 5) hO hsb gg_le.rfl' hsn (fun i _ a w e => by rw [hout] at e; cases e)
    rw [gs_Aid] at this
    exact this
  | some a =>
    have hacnt : a ≤ gg_b2 (gg_cnt O 8) := hsb _ hl8 a hout
    have hcO := gg_cnt_le O 8
    have ha31 : a < 2 ^ 31 := by
      unfold gg_b2 at hacnt
      omega
    refine nm_e (br_t (gg_o_ne ha31) ?_)
    have key : ∀ (zs : List Nat) (i : Nat) (O' : Nat → Option Nat) (g : Nat → Int32), (gg_y G r).drop i = zs → i + zs.length = (gg_y G r).length → (∀ A, A < 8 → g A = gg_o (O' A)) → gg_sb gg_b2 O' → gg_le O' O → gm_snd (gm_A G D) O' → (∀ j, j < i → ∀ w, gg_but D (nI j) 0 (gg_y G r) = some w → (gg_y G r).getD j 0 < 8 → ∃ n, n ≤ a + w ∧ O' ((gg_y G r).getD j 0) = some n) → X22 (nI r) (nI a) (nI i) (gs_A σ 5 g) := by
      intro zs
      induction zs with
      | nil =>
        intro i O' g hd hi hg hs hle hsnd hall
        have hi : i = (gg_y G r).length := hi
        apply h22
        refine s_sizeOf (h5 g) hr ?_
        refine pk_le (gg_y G r).length i (fun _ => ?_) (fun q => absurd q (by omega))
        exact kk O' g hg hs hle hsnd (fun j hj a' w e hw hx => by
          rw [hout] at e
          injection e with e
          subst e
          exact hall j (by omega) w hw hx)
      | cons s zs ih =>
        intro i O' g hd hi hg hs hle hsnd hall
        obtain ⟨h1, h2, h3⟩ := gg_cons hd
        have hi : i + (zs.length + 1) = (gg_y G r).length := hi
        have hs24 := h24 i h1
        rw [h2] at hs24
        apply h22
        refine s_sizeOf (h5 g) hr ?_
        refine pk_le (gg_y G r).length i (fun q => absurd q (by omega)) (fun _ => ?_)
        refine s_symbolAt (h5 g) hr h1 ?_
        rw [h2]
        refine s_leastBut (D := D) (B := 1679616) (h5 g) hr hD hbd (by decide) (by decide) ?_
        refine s_isNtN (by omega) (fun q => ?_) (fun q => ?_)
        · refine br_f (by decide) ?_
          cases hw : gg_but D (nI i) 0 (gg_y G r) with
          | none =>
            refine br_t rfl (nm_r (nI_1 i) (ih (i + 1) O' g h3 (by omega) hg hs hle hsnd (fun j hj w' hw' hx => ?_)))
            by_cases e : j = i
            · subst e
              rw [hw] at hw'
              cases hw'
            · exact hall j (by omega) w' hw' hx
          | some w =>
            have hwle := gg_but_le hbd (by decide) (gg_y G r) 0 w hw
            have hw6 : w ≤ 10077696 := Nat.le_trans hwle (Nat.le_trans (Nat.mul_le_mul_right _ hz) (by decide))
            refine br_f (gg_o_ne (by omega)) ?_
            have e : nI a + gg_o (some w) = gg_o (some (a + w)) := nI_add a w
            rw [e]
            have hc := gg_cnt_mono hle 8
            have hc8 := gg_cnt_le O' 8
            have hnew : a + w ≤ gg_b2 (gg_cnt O' 8 + 1) := by
              unfold gg_b2 at hacnt ⊢
              omega
            have hnb : a + w < 2 ^ 31 := by
              unfold gg_b2 at hnew
              omega
            refine s_lower8 (D := O') (o := some (a + w)) q hg (fun n hn => ?_) (fun n hn => by injection hn with hn; omega) (fun g2 hg2 => ?_)
            · have := hs s q n hn
              unfold gg_b2 at this
              omega
            · rw [gs_AA]
              refine nm_r (nI_1 i) (ih (i + 1) (gg_low O' s (some (a + w))) g2 h3 (by omega) hg2 (gg_sb_low gg_b2_up q hs (fun n hn => by injection hn with hn; omega)) (gg_low_le.tr hle) (gg_low_snd hsnd (fun n hn => ?_)) (fun j hj w' hw' hx => ?_))
              · injection hn with hn
                subst hn
                have := gm_A_snd (O := O) h.1 hr h1 (by rw [h2]; exact q) hw (hsn _ a hout)
                rw [h2] at this
                exact this
              · by_cases e2 : j = i
                · subst e2
                  rw [hw] at hw'
                  injection hw' with hw'
                  subst hw'
                  rw [h2]
                  exact gg_low_hit
                · obtain ⟨n, q1, q2⟩ := hall j (by omega) w' hw' hx
                  obtain ⟨n', q3, q4⟩ := gg_low_le (D := O') (A := s) (o := some (a + w)) _ n q2
                  exact ⟨n', by omega, q4⟩
        · refine br_t rfl (nm_r (nI_1 i) (ih (i + 1) O' g h3 (by omega) hg hs hle hsnd (fun j hj w' hw' hx => ?_)))
          by_cases e : j = i
          · subst e
            rw [h2] at hx
            omega
          · exact hall j (by omega) w' hw' hx
    have := key (gg_y G r) 0 O (σ.2.1 5) rfl (by omega) hO hsb gg_le.rfl' hsn (fun j hj => absurd hj (Nat.not_lt_zero _))
    rw [gs_Aid] at this
    exact this
theorem s_leFind {K : gs_St → Prop} (h : gr_at G σ)
    (kk : ∀ (D O : Nat → Option Nat) (f g : Nat → Int32), (∀ A, A < 8 → f A = gg_o (D A)) → (∀ A, A < 8 → g A = gg_o (O A)) → gm_L G D → gm_L (gm_A G D) O → gg_bd D 1679616 → gg_bd O 80621568 → K (gs_A (gs_A σ 4 f) 5 g)) : C_Le_find σ K := by
  intro X10 X18 X79 X87 h10 h18 h79 h87
  have hG := h.1.1
  have g4 : ∀ f, gr_at G (gs_A σ 4 f) := fun f => h.of rfl rfl rfl rfl
  have g5 : ∀ f g, gr_at G (gs_A (gs_A σ 4 f) 5 g) := fun f g => h.of rfl rfl rfl rfl
  have ph2 : ∀ (D : Nat → Option Nat) (f : Nat → Int32), (∀ A, A < 8 → f A = gg_o (D A)) → gm_L G D → gg_bd D 1679616 → ∀ (n k : Nat) (O : Nat → Option Nat) (g : Nat → Int32), k + n = 8 → (∀ A, A < 8 → g A = gg_o (O A)) → gg_sb gg_b2 O → gm_snd (gm_A G D) O → gm_cpl (gm_A G D) (k + 1) O → X79 (nI k) (gs_A (gs_A σ 4 f) 5 g) := by
    intro D f hf hL hbd n
    induction n with
    | zero =>
      intro k O g hk hg hsb hsn hcp
      have hk : k = 8 := hk
      subst hk
      apply h79
      refine br_t (by decide) (kk D O f g hf hg hL ?_ hbd (gg_sb_bd gg_b2_up hsb))
      exact gm_L_of hsn (fun A m hd => hcp A m (gm_D_le hd (by omega)))
    | succ n ih =>
      intro k O g hk hg hsb hsn hcp
      apply h79
      refine pk_le 8 k (fun q => absurd q (by omega)) (fun _ => ?_)
      have inner : ∀ (m r : Nat) (O : Nat → Option Nat) (g : Nat → Int32), r + m = G.length → (∀ A, A < 8 → g A = gg_o (O A)) → gg_sb gg_b2 O → gm_snd (gm_A G D) O → gm_cpl (gm_A G D) (k + 1) O → gm_an G D (k + 1) r O → X87 (nI k) (nI r) (gs_A (gs_A σ 4 f) 5 g) := by
        intro m
        induction m with
        | zero =>
          intro r O g hr hg hsb hsn hcp han
          have hr : r = G.length := hr
          subst hr
          apply h87
          refine pk_le G.length G.length (fun _ => nm_r (nI_1 k) (ih (k + 1) O g (by omega) hg hsb hsn ?_)) (fun q => absurd q (by omega)) h.2.1
          exact han.next h.1 (hcp 0 0 ⟨(0, []), gm_A_mem.mpr (Or.inl rfl), rfl, rfl⟩)
        | succ m ihm =>
          intro r O g hr hg hsb hsn hcp han
          apply h87
          refine pk_le G.length r (fun q => absurd q (by omega)) (fun _ => ?_) h.2.1
          refine s_lowerAround (D := D) (O := O) (g5 f g) (by omega) hf hbd hg hsb hsn (fun O' g' hg' hsb' hle' hsn' hall' => ?_)
          rw [gs_AA]
          refine nm_r (nI_1 r) (ihm (r + 1) O' g' (by omega) hg' hsb' hsn' (hcp.mono hle') (fun q hq i hi a ha w hw hx => ?_))
          by_cases e : q = r
          · subst e
            obtain ⟨a', e1, e2⟩ := hcp _ a ha
            obtain ⟨n', e3, e4⟩ := hall' i hi a' w e2 hw hx
            exact ⟨n', by omega, e4⟩
          · exact (han.mono hle') q (by omega) i hi a ha w hw hx
      exact inner G.length 0 O g (by omega) hg hsb hsn hcp (fun q hq => absurd hq (Nat.not_lt_zero _))
  have ph1 : ∀ (n k : Nat) (D : Nat → Option Nat) (f : Nat → Int32), k + n = 8 → (∀ A, A < 8 → f A = gg_o (D A)) → gg_sb gg_b1 D → gm_snd G D → gm_cpl G k D → X10 (nI k) (gs_A σ 4 f) := by
    intro n
    induction n with
    | zero =>
      intro k D f hk hf hsb hsn hcp
      have hk : k = 8 := hk
      subst hk
      apply h10
      refine br_t (by decide) (s_fill8 (fun τ hτ => ?_))
      have hbd : gg_bd D 1679616 := gg_sb_bd gg_b1_up hsb
      subst hτ
      refine ⟨vp_in_nI (n := 0) (by decide) (by decide), ?_⟩
      intro τ hτ
      have e : τ = gs_A (gs_A σ 4 f) 5 (upd (fun j => if j < 8 then (-1 : Int32) else σ.2.1 5 j) 0 0) := by
        rw [hτ, gs_AA]
        rfl
      rw [e]
      refine ph2 D f hf (gm_L_of hsn hcp) hbd 8 0 (gg_up (fun _ => none) 0 (some 0)) _ rfl (fun A hA => ?_) (fun A hA n hn => ?_) (fun A m hm => ?_) (fun A m hm => ?_)
      · show (if A = 0 then (0 : Int32) else (if A < 8 then (-1 : Int32) else σ.2.1 5 A)) = gg_o (if A = 0 then some 0 else none)
        by_cases e0 : A = 0
        · rw [if_pos e0, if_pos e0]
          rfl
        · rw [if_neg e0, if_neg e0, if_pos hA]
          rfl
      · by_cases e0 : A = 0
        · subst e0
          rw [gg_up_s] at hn
          injection hn with hn
          omega
        · rw [gg_up_n e0] at hn
          cases hn
      · by_cases e0 : A = 0
        · subst e0
          rw [gg_up_s] at hm
          injection hm with hm
          subst hm
          exact ⟨1, (0, []), gm_A_mem.mpr (Or.inl rfl), rfl, rfl⟩
        · rw [gg_up_n e0] at hm
          cases hm
      · obtain ⟨q, q1, q2, q3⟩ := hm
        rcases gm_A_mem.mp q1 with e1 | ⟨r, i, w, hr, hi, hx, hw, e1⟩
        · subst e1
          have q2 : (0 : Nat) = A := q2
          subst q2
          exact ⟨0, Nat.zero_le _, gg_up_s⟩
        · subst e1
          obtain ⟨a, a1, a2⟩ := (gm_S_arw (h.1.2 r hr).1).mp q3
          exact a1.elim
    | succ n ih =>
      intro k D f hk hf hsb hsn hcp
      apply h10
      refine pk_le 8 k (fun q => absurd q (by omega)) (fun _ => ?_)
      have inner : ∀ (m r : Nat) (D : Nat → Option Nat) (f : Nat → Int32), r + m = G.length → (∀ A, A < 8 → f A = gg_o (D A)) → gg_sb gg_b1 D → gm_snd G D → gm_cpl G k D → gm_dn G k r D → X18 (nI k) (nI r) (gs_A σ 4 f) := by
        intro m
        induction m with
        | zero =>
          intro r D f hr hf hsb hsn hcp hdn
          have hr : r = G.length := hr
          subst hr
          apply h18
          exact pk_le G.length G.length (fun _ => nm_r (nI_1 k) (ih (k + 1) D f (by omega) hf hsb hsn hdn.next)) (fun q => absurd q (by omega)) h.2.1
        | succ m ihm =>
          intro r D f hr hf hsb hsn hcp hdn
          have hr' : r < G.length := by omega
          obtain ⟨hl8, hz, h24⟩ := h.1.2 r hr'
          apply h18
          refine pk_le G.length r (fun q => absurd q (by omega)) (fun _ => ?_) h.2.1
          refine s_leftOf (g4 f) hr' ?_
          have hbd : gg_bd D 1679616 := gg_sb_bd gg_b1_up hsb
          refine s_leastBut (D := D) (B := 1679616) (g4 f) hr' hf hbd (by decide) (by decide) ?_
          rw [gg_but_no _ 0 (by omega)]
          have hsum : ∀ x, gg_sum D (gg_y G r) = some x → x ≤ gg_b1 (gg_cnt D 8 + 1) := fun x hx => by
            rw [← gg_but_no _ 0 (by omega)] at hx
            have e1 := gg_but_le hsb (gg_b1_pos _) (gg_y G r) 0 x hx
            refine Nat.le_trans e1 ?_
            unfold gg_b1
            rw [Nat.pow_succ, Nat.mul_comm]
            exact Nat.mul_le_mul_left _ hz
          have hb8 : gg_b1 (gg_cnt D 8 + 1) ≤ gg_b1 9 := gg_mono gg_b1_up (by have := gg_cnt_le D 8; omega)
          have hb9 : gg_b1 9 = 10077696 := by decide
          refine s_lower7 (D := D) hl8 hf (fun x hx => ?_) (fun x hx => ?_) (fun f2 hf2 => ?_)
          · have := hbd _ hl8 x hx
            omega
          · have := hsum x hx
            omega
          · rw [gs_AA]
            obtain ⟨s1, s2, s3⟩ := gm_step hr' hsn hcp hdn
            exact nm_r (nI_1 r) (ihm (r + 1) _ f2 (by omega) hf2 (gg_sb_low gg_b1_up hl8 hsb hsum) s1 s2 s3)
      exact inner G.length 0 D f (by omega) hf hsb hsn hcp (fun q hq => absurd hq (Nat.not_lt_zero _))
  refine s_fill7 (fun τ hτ => ?_)
  subst hτ
  refine ph1 8 0 (fun _ => none) _ rfl (fun A hA => ?_) (fun A _ n hn => by cases hn) (fun A m hm => by cases hm) (fun A m hm => hm.elim)
  show (if A < 8 then (-1 : Int32) else σ.2.1 4 A) = gg_o none
  rw [if_pos hA]
  rfl
end L2D
