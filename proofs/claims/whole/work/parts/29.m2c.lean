/-! Layer 2 of the reference, part c: least lengths, as longs. -/
def mo : Option Nat → Nat
  | none => 1152921504606846976
  | some n => n
/-- a plain sum of lengths -/
def gg_bs (D : Nat → Option Nat) (x : Int32) : Nat → List Nat → Nat
  | _, [] => 0
  | i, s :: zs => (if nI i = x then 0 else mo (gg_len D s)) + gg_bs D x (i + 1) zs
theorem gg_bs_some {D : Nat → Option Nat} {x : Int32} : ∀ (zs : List Nat) (i n : Nat), gg_but D x i zs = some n → gg_bs D x i zs = n
  | [], _, n, h => by
    injection h with h
  | s :: zs, i, n, h => by
    have h : (if nI i = x then gg_but D x (i + 1) zs else gg_add (gg_len D s) (gg_but D x (i + 1) zs)) = some n := h
    show (if nI i = x then 0 else mo (gg_len D s)) + gg_bs D x (i + 1) zs = n
    by_cases e : nI i = x
    · rw [if_pos e] at h ⊢
      rw [gg_bs_some zs (i + 1) n h, Nat.zero_add]
    · rw [if_neg e] at h ⊢
      obtain ⟨a, b, h1, h2, h3⟩ := gg_add_some h
      rw [gg_bs_some zs (i + 1) b h2, h1]
      exact h3.symm
theorem gg_bs_none {D : Nat → Option Nat} {x : Int32} : ∀ (zs : List Nat) (i : Nat), gg_but D x i zs = none → 1152921504606846976 ≤ gg_bs D x i zs
  | [], _, h => by cases h
  | s :: zs, i, h => by
    have h : (if nI i = x then gg_but D x (i + 1) zs else gg_add (gg_len D s) (gg_but D x (i + 1) zs)) = none := h
    show 1152921504606846976 ≤ (if nI i = x then 0 else mo (gg_len D s)) + gg_bs D x (i + 1) zs
    by_cases e : nI i = x
    · rw [if_pos e] at h ⊢
      have := gg_bs_none zs (i + 1) h
      omega
    · rw [if_neg e] at h ⊢
      cases ha : gg_len D s with
      | none =>
        show 1152921504606846976 ≤ 1152921504606846976 + _
        omega
      | some a =>
        cases hb : gg_but D x (i + 1) zs with
        | none =>
          have := gg_bs_none zs (i + 1) hb
          omega
        | some b =>
          rw [ha, hb] at h
          cases h
theorem mo_le {o : Option Nat} (h : ∀ n, o = some n → n ≤ 1152921504606846976) : mo o ≤ 1152921504606846976 := by
  cases o with
  | none => exact Nat.le_refl _
  | some n => exact h n rfl
section M2C
variable {G : gg_R} {σ : gs_St} {D : Nat → Option Nat}
def me_at (D : Nat → Option Nat) (σ : gs_St) : Prop := ∀ A, A < 8 → σ.2.2 0 A = lN (mo (D A))
def mw_at (D : Nat → Option Nat) (σ : gs_St) : Prop := ∀ A, A < 8 → σ.2.2 1 A = lN (mo (D A))
theorem gl_far : (1152921504606846976 : Int64) = lN 1152921504606846976 := rfl
theorem n_leastOf {s : Nat} {K : Int64 → gs_St → Prop} (hs : s < 2 ^ 31) (hD : me_at D σ) (k : K (lN (mo (gg_len D s))) σ) : C_Mo_leastOf (nI s) σ K := by
  refine n_isNtN hs (fun q => br_f (by decide) ⟨vp_in_nI q (by decide), ?_⟩) (fun q => br_t rfl ?_)
  · rw [nI_clamp (by omega), hD s q]
    have e : gg_len D s = D s := if_pos q
    rw [e] at k
    exact k
  · have e : gg_len D s = some 1 := if_neg (by omega)
    rw [e] at k
    exact k
theorem n_leastBut {r : Nat} {x : Int32} {K : Int64 → gs_St → Prop} (h : mr_at G σ) (hr : r < G.length) (hD : me_at D σ) (hbd : gg_bd D 1679616) (k : K (lN (mo (gg_but D x 0 (gg_y G r)))) σ) : C_Mo_leastBut (nI r) x σ K := by
  intro X5 h5
  have hG := h.1.1
  obtain ⟨hl8, hz, h24⟩ := h.1.2 r hr
  have hmol : ∀ s, mo (gg_len D s) ≤ 1152921504606846976 := fun s => mo_le (fun n hn => by
    have := gg_len_le hbd (by decide) hn
    omega)
  have key : ∀ (zs : List Nat) (i a : Nat), (gg_y G r).drop i = zs → i + zs.length = (gg_y G r).length → a + gg_bs D x i zs = gg_bs D x 0 (gg_y G r) → a ≤ i * 1152921504606846976 → X5 (nI r) x (lN a) (nI i) σ := by
    intro zs
    induction zs with
    | nil =>
      intro i a hd hi ha hb
      have hi : i = (gg_y G r).length := hi
      have ha : a + 0 = gg_bs D x 0 (gg_y G r) := ha
      apply h5
      refine ⟨vp_in_nI (by omega) (by decide), ?_⟩
      rw [nI_clamp (by omega), (h.2.2 r hr).2.1]
      refine pk_le (gg_y G r).length i (fun _ => ?_) (fun q => absurd q (by omega))
      rw [gl_far]
      have hib : i * 1152921504606846976 ≤ 6 * 1152921504606846976 := Nat.mul_le_mul_right _ (by omega)
      cases hs : gg_but D x 0 (gg_y G r) with
      | none =>
        have hn := gg_bs_none _ _ hs
        rw [hs] at k
        refine ek_if (pk_lLE (by decide) (by omega)) (fun _ => k) (fun q => absurd q (by omega))
      | some n =>
        have hn := gg_bs_some _ _ _ hs
        have hle := gg_but_le hbd (by decide) _ _ _ hs
        have : (gg_y G r).length * 1679616 ≤ 6 * 1679616 := Nat.mul_le_mul_right _ hz
        rw [hs] at k
        refine ek_if (pk_lLE (by decide) (by omega)) (fun q => absurd q (by omega)) (fun _ => ?_)
        rw [show a = n by omega]
        exact k
    | cons s zs ih =>
      intro i a hd hi ha hb
      obtain ⟨h1, h2, h3⟩ := gg_cons hd
      have hi : i + (zs.length + 1) = (gg_y G r).length := hi
      have ha : a + ((if nI i = x then 0 else mo (gg_len D s)) + gg_bs D x (i + 1) zs) = gg_bs D x 0 (gg_y G r) := ha
      have h24i := h24 i h1
      rw [h2] at h24i
      have hm := hmol s
      have hi1 : (i + 1) * 1152921504606846976 = i * 1152921504606846976 + 1152921504606846976 := by rw [Nat.add_mul, Nat.one_mul]
      apply h5
      refine ⟨vp_in_nI (by omega) (by decide), ?_⟩
      rw [nI_clamp (by omega), (h.2.2 r hr).2.1]
      refine pk_le (gg_y G r).length i (fun q => absurd q (by omega)) (fun _ => ⟨fun hne => ?_, fun he => ?_⟩)
      · rw [if_neg hne] at ha
        refine n_at h hr h1 ?_
        rw [h2]
        refine n_leastOf (by omega) hD ?_
        exact nm_r (lN_add _ _) (nm_r (nI_1 i) (ih (i + 1) (a + mo (gg_len D s)) h3 (by omega) (by omega) (by omega)))
      · have he : nI i = x := Classical.byContradiction he
        rw [if_pos he, Nat.zero_add] at ha
        have e0 : lN a + (0 : Int64) = lN a := lN_add a 0
        have ha2 : a ≤ (i + 1) * 1152921504606846976 := by rw [hi1]; exact Nat.le_trans hb (Nat.le_add_right _ _)
        exact nm_r e0 (nm_r (nI_1 i) (ih (i + 1) a h3 (by omega) ha ha2))
  exact key (gg_y G r) 0 0 rfl (by omega) (by omega) (by omega)
/-- the shorter of two, by their longs -/
theorem mo_low {W : Nat → Option Nat} {A : Nat} {o : Option Nat} (hW : ∀ n, W A = some n → n < 1152921504606846976) (ho : ∀ n, o = some n → n < 1152921504606846976) : (mo (W A) ≤ mo o → ∀ B, gg_low W A o B = W B) ∧ (¬ mo (W A) ≤ mo o → o ≠ none ∧ ∀ B, gg_low W A o B = gg_up W A o B) := by
  unfold gg_low
  cases o with
  | none =>
    refine ⟨fun _ _ => rfl, fun q => absurd ?_ q⟩
    exact mo_le (fun n hn => by have := hW n hn; omega)
  | some n =>
    have hn := ho n rfl
    cases hd : W A with
    | none =>
      refine ⟨fun q => ?_, fun _ => ⟨(fun z => nomatch z), fun _ => rfl⟩⟩
      have q : 1152921504606846976 ≤ n := q
      omega
    | some m =>
      refine ⟨fun q B => ?_, fun q => ⟨(fun z => nomatch z), fun B => ?_⟩⟩
      · show (if m ≤ n then W else gg_up W A (some n)) B = W B
        rw [if_pos (show m ≤ n from q)]
      · show (if m ≤ n then W else gg_up W A (some n)) B = gg_up W A (some n) B
        rw [if_neg (show ¬ m ≤ n from q)]
theorem n_shorten {K : gs_St → Prop} (h : mr_at G σ) (kk : ∀ (D : Nat → Option Nat) (f : Nat → Int64), (∀ A, A < 8 → f A = lN (mo (D A))) → gm_L G D → gg_bd D 1679616 → K (gs_L σ 0 f)) : C_Mo_shorten σ K := by
  intro X2 X25 X33 h2 h25 h33
  have hG := h.1.1
  have g0 : ∀ f, mr_at G (gs_L σ 0 f) := fun f => h.of rfl rfl rfl rfl
  have ph : ∀ (n k : Nat) (D : Nat → Option Nat) (f : Nat → Int64), k + n = 8 → (∀ A, A < 8 → f A = lN (mo (D A))) → gg_sb gg_b1 D → gm_snd G D → gm_cpl G k D → X25 (nI k) (gs_L σ 0 f) := by
    intro n
    induction n with
    | zero =>
      intro k D f hk hf hsb hsn hcp
      have hk : k = 8 := hk
      subst hk
      apply h25
      exact br_t (by decide) (kk D f hf (gm_L_of hsn hcp) (gg_sb_bd gg_b1_up hsb))
    | succ n ih =>
      intro k D f hk hf hsb hsn hcp
      apply h25
      refine pk_le 8 k (fun q => absurd q (by omega)) (fun _ => ?_)
      have inner : ∀ (m r : Nat) (D : Nat → Option Nat) (f : Nat → Int64), r + m = G.length → (∀ A, A < 8 → f A = lN (mo (D A))) → gg_sb gg_b1 D → gm_snd G D → gm_cpl G k D → gm_dn G k r D → X33 (nI k) (nI r) (gs_L σ 0 f) := by
        intro m
        induction m with
        | zero =>
          intro r D f hr hf hsb hsn hcp hdn
          have hr : r = G.length := hr
          subst hr
          apply h33
          exact pk_le G.length G.length (fun _ => nm_r (nI_1 k) (ih (k + 1) D f (by omega) hf hsb hsn hdn.next)) (fun q => absurd q (by omega)) h.2.1
        | succ m ihm =>
          intro r D f hr hf hsb hsn hcp hdn
          have hr' : r < G.length := by omega
          obtain ⟨hl8, hz, h24⟩ := h.1.2 r hr'
          have hbd : gg_bd D 1679616 := gg_sb_bd gg_b1_up hsb
          apply h33
          refine pk_le G.length r (fun q => absurd q (by omega)) (fun _ => ?_) h.2.1
          refine n_leastBut (D := D) (g0 f) hr' hf hbd ?_
          rw [gg_but_no _ 0 (by omega)]
          have hsum : ∀ x, gg_sum D (gg_y G r) = some x → x ≤ gg_b1 (gg_cnt D 8 + 1) := fun x hx => by
            rw [← gg_but_no _ 0 (by omega)] at hx
            have e1 := gg_but_le hsb (gg_b1_pos _) (gg_y G r) 0 x hx
            refine Nat.le_trans e1 ?_
            unfold gg_b1
            rw [Nat.pow_succ, Nat.mul_comm]
            exact Nat.mul_le_mul_left _ hz
          have hb8 : gg_b1 (gg_cnt D 8 + 1) ≤ gg_b1 9 := gg_mono gg_b1_up (by have := gg_cnt_le D 8; omega)
          have hb9 : gg_b1 9 = 10077696 := by decide
          have hDb : ∀ n, D (gg_l G r) = some n → n < 1152921504606846976 := fun n hn => by have := hbd _ hl8 n hn; omega
          have hob : ∀ n, gg_sum D (gg_y G r) = some n → n < 1152921504606846976 := fun n hn => by have := hsum n hn; omega
          obtain ⟨l1, l2⟩ := mo_low hDb hob
          obtain ⟨s1, s2, s3⟩ := gm_step hr' hsn hcp hdn
          have next : ∀ f2 : Nat → Int64, (∀ B, B < 8 → f2 B = lN (mo (gg_low D (gg_l G r) (gg_sum D (gg_y G r)) B))) → ∀ v7 : Int32, v7 = nI r + 1 → X33 (nI k) v7 (gs_L σ 0 f2) := fun f2 hf2 => nm_r (nI_1 r) (ihm (r + 1) _ f2 (by omega) hf2 (gg_sb_low gg_b1_up hl8 hsb hsum) s1 s2 s3)
          have hv : vp_in (nI r) 24 := vp_in_nI (by omega) (by decide)
          have hv8 : vp_in (nI (gg_l G r)) 8 := vp_in_nI hl8 (by decide)
          rw [nI_clamp (by omega)]
          have ea : (gs_L σ 0 f).2.1 0 r = nI (gg_l G r) := (h.2.2 r hr').1
          have el : (gs_L σ 0 f).2.2 0 (gg_l G r) = lN (mo (D (gg_l G r))) := hf _ hl8
          rw [ea, nI_clamp (by omega), el]
          have m1 : mo (D (gg_l G r)) ≤ 1152921504606846976 := mo_le (fun n hn => by have := hDb n hn; omega)
          have m2 : mo (gg_sum D (gg_y G r)) ≤ 1152921504606846976 := mo_le (fun n hn => by have := hob n hn; omega)
          refine ⟨hv, hv, hv8, ek_if (pk_lLE (by omega) (by omega)) (fun q => ⟨hv, hv8, hv8, ?_⟩) (fun q => ⟨hv8, ?_⟩)⟩
          · intro τ hτ
            rw [gs_LL] at hτ
            rw [hτ]
            refine next _ (fun B hB => ?_)
            rw [l1 q B]
            show (if B = gg_l G r then lN (mo (D (gg_l G r))) else f B) = _
            by_cases e : B = gg_l G r
            · rw [if_pos e, e]
            · rw [if_neg e]
              exact hf B hB
          · intro τ hτ
            rw [gs_LL] at hτ
            rw [hτ]
            refine next _ (fun B hB => ?_)
            rw [(l2 q).2 B]
            show (if B = gg_l G r then lN (mo (gg_sum D (gg_y G r))) else f B) = lN (mo (if B = gg_l G r then gg_sum D (gg_y G r) else D B))
            by_cases e : B = gg_l G r
            · rw [if_pos e, if_pos e]
            · rw [if_neg e, if_neg e]
              exact hf B hB
      exact inner G.length 0 D f (by omega) hf hsb hsn hcp (fun q hq => absurd hq (Nat.not_lt_zero _))
  have fill : ∀ (n i : Nat) (f : Nat → Int64), i + n = 8 → (∀ j, j < i → f j = lN 1152921504606846976) → X2 (nI i) (gs_L σ 0 f) := by
    intro n
    induction n with
    | zero =>
      intro i f hi hf
      have hi : i = 8 := hi
      subst hi
      apply h2
      exact br_t (by decide) (ph 8 0 (fun _ => none) f rfl (fun A hA => hf A hA) (fun A _ n hn => by cases hn) (fun A m hm => by cases hm) (fun A m hm => hm.elim))
    | succ n ih =>
      intro i f hi hf
      apply h2
      refine pk_le 8 i (fun q => absurd q (by omega)) (fun _ => ⟨vp_in_nI (by omega) (by decide), ?_⟩)
      rw [nI_clamp (by omega)]
      intro τ hτ
      have e : τ = gs_L σ 0 (vp_updL f i (lN 1152921504606846976)) := by
        rw [hτ, gs_LL]
        rfl
      rw [e]
      refine nm_r (nI_1 i) (ih (i + 1) _ (by omega) (fun j hj => ?_))
      show (if j = i then lN 1152921504606846976 else f j) = _
      by_cases z : j = i
      · rw [if_pos z]
      · rw [if_neg z]
        exact hf j (by omega)
  have := fill 8 0 (σ.2.2 0) rfl (fun j hj => absurd hj (Nat.not_lt_zero _))
  rw [gs_Lid] at this
  exact this
variable {t : List Nat} {l : List Int32} {d v : List Nat}
theorem n_shortest {x : Int32} {K : Int32 → gs_St → Prop} (h : ml_at t G l d v σ) (k0 : (∀ j, j < 8 → x ≠ nI j) → K (-1) σ) (k1 : ∀ j, j < 8 → x = nI j → ∀ r τ, ml_at t G l d v τ → an_short G j r → K r τ) : C_Mo_shortest x σ K := by
  refine n_isNt (fun j hj e => ?_) (fun hno => br_f (fun z => z rfl) (k0 hno))
  subst e
  refine br_t (by decide) (n_shorten h.2.1 (fun D f hf hL hbd => ⟨vp_in_nI hj (by decide), ?_⟩))
  have hml : ml_at t G l d v (gs_L σ 0 f) := ⟨h.1.of rfl rfl, h.2.1.of rfl rfl rfl rfl, h.2.2.1.of rfl rfl, h.2.2.2.1.of rfl rfl rfl rfl, h.2.2.2.2.elim Or.inl (fun z => Or.inr ⟨z.1, z.2.of rfl rfl⟩)⟩
  have e : (gs_L σ 0 f).2.2 0 j = lN (mo (D j)) := hf j hj
  rw [nI_clamp (by omega), e, gl_far]
  have fin : ∀ r, r = gg_o (D j) → K r (gs_L σ 0 f) := fun r hr => k1 j hj rfl r _ hml ⟨D, hL, hbd, hr⟩
  cases hd : D j with
  | none => exact br_t (by decide) (fin _ (by rw [hd]; rfl))
  | some n =>
    have hn := hbd j hj n hd
    refine ek_if (pk_lLE (by decide) (show n < 2 ^ 63 by omega)) (fun q => absurd (show 1152921504606846976 ≤ n from q) (by omega)) (fun _ => ⟨vp_in_nI hj (by decide), fin _ ?_⟩)
    rw [hd]
    exact lN_i n
end M2C
