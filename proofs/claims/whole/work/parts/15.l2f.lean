/-! Layer 2, part f: counts, by rules that are kept. Sums and products of longs. -/
/-- over the kept rules of A below r -/
def gc_pt (T : Nat → Nat → Nat) (G : gg_R) (kp : Nat → Bool) (A n : Nat) : Nat → Nat
  | 0 => 0
  | r + 1 => gc_pt T G kp A n r + (if kp r = true ∧ gg_l G r = A then gc_E T (gg_y G r) n else 0)
def gc_okk (em : Nat → Prop) (G : gg_R) (kp : Nat → Bool) (T : Nat → Nat → Nat) (N : Nat) : Prop :=
  (∀ A n, A < 8 → n < N → T A n = gc_cap (gc_pt T G kp A n G.length)) ∧ ∀ A, A < 8 → ¬ em A → 0 < N → T A 0 = 0
theorem gg_pl_of {G : gg_R} {D : Nat → Option Nat} {r A x : Nat} {l1 l2 : List Nat} (hl : gg_l G r = A) (hz : (gg_y G r).length ≤ 6) (e : gg_y G r = l1 ++ x :: l2) (hx : x < 8) (h : ∀ y, y ∈ l1 ++ l2 → y < 8 ∧ D y = some 0) : gg_pl G D r l1.length A x := by
  have hlen : (gg_y G r).length = l1.length + (l2.length + 1) := by rw [e, List.length_append]; rfl
  refine ⟨by omega, hl, ?_, hx, fun j hj hne => ?_⟩
  · rw [e, List.getD_eq_getElem?_getD, List.getElem?_append_right (Nat.le_refl _), Nat.sub_self]
    rfl
  · have hji : j ≠ l1.length := fun q => hne (by rw [q])
    refine h _ ?_
    rw [e, List.getD_eq_getElem?_getD]
    rcases Nat.lt_or_ge j l1.length with q | q
    · rw [List.getElem?_append_left q, List.getElem?_eq_getElem q]
      exact List.mem_append_left _ (List.getElem_mem q)
    · rw [List.getElem?_append_right q]
      have hq : j - l1.length = (j - l1.length - 1) + 1 := by omega
      rw [hq, List.getElem?_cons_succ]
      have hb : j - l1.length - 1 < l2.length := by omega
      rw [List.getElem?_eq_getElem hb]
      exact List.mem_append_right _ (List.getElem_mem hb)
/-- one rule's count is the same for two tables that are alike where A's rules look -/
theorem gc_E_same {G : gg_R} {D : Nat → Option Nat} {T T' : Nat → Nat → Nat} {n A r : Nat} (hG : gg_ok G) (hr : r < G.length) (hl : gg_l G r = A) (ha : ∀ x p, x < 8 → p < n → T x p = T' x p) (hb : ∀ x, x < 8 → ¬ D x = some 0 → T x 0 = 0 ∧ T' x 0 = 0) (hc : ∀ x, x < 8 → gg_to G D A x → T x n = T' x n) : gc_E T (gg_y G r) n = gc_E T' (gg_y G r) n :=
  gc_E_congr (em := fun y => D y = some 0) ha hb _ (fun l1 x l2 e hx hall => hc x hx ⟨r, l1.length, hr, gg_pl_of hl (hG.2 r hr).2.1 e hx hall⟩)
theorem gc_pt_same {G : gg_R} {D : Nat → Option Nat} {kp : Nat → Bool} {T T' : Nat → Nat → Nat} {n A : Nat} (hG : gg_ok G) (ha : ∀ x p, x < 8 → p < n → T x p = T' x p) (hb : ∀ x, x < 8 → ¬ D x = some 0 → T x 0 = 0 ∧ T' x 0 = 0) (hc : ∀ x, x < 8 → gg_to G D A x → T x n = T' x n) : ∀ r, r ≤ G.length → gc_pt T G kp A n r = gc_pt T' G kp A n r
  | 0, _ => rfl
  | r + 1, h => by
    show gc_pt T G kp A n r + (if kp r = true ∧ gg_l G r = A then gc_E T (gg_y G r) n else 0) = gc_pt T' G kp A n r + (if kp r = true ∧ gg_l G r = A then gc_E T' (gg_y G r) n else 0)
    rw [gc_pt_same hG ha hb hc r (by omega)]
    split
    · rename_i q
      rw [gc_E_same hG (by omega) q.2 ha hb hc]
    · rfl
/-- one table only -/
theorem gc_onek {G : gg_R} {D : Nat → Option Nat} {kp : Nat → Bool} {T T' : Nat → Nat → Nat} {N N' : Nat} (hG : gg_ok G) (rk : Nat → Nat) (hrk : ∀ A x, A < 8 → x < 8 → gg_to G D A x → rk x < rk A) (h : gc_okk (fun y => D y = some 0) G kp T N) (h' : gc_okk (fun y => D y = some 0) G kp T' N') : ∀ n, n < N → n < N' → ∀ A, A < 8 → T A n = T' A n := by
  intro n
  induction n using Nat.strongRecOn with
  | _ n ihn =>
    intro hn hn'
    have key : ∀ (k A : Nat), A < 8 → rk A < k → T A n = T' A n := by
      intro k
      induction k with
      | zero => exact fun A _ hk => absurd hk (Nat.not_lt_zero _)
      | succ k ih =>
        intro A hA hk
        rw [h.1 A n hA hn, h'.1 A n hA hn', gc_pt_same (D := D) hG (fun x p hx hp => ihn p hp (by omega) (by omega) x hx) (fun x hx he => ⟨h.2 x hx he (by omega), h'.2 x hx he (by omega)⟩) (fun x hx hl => ih x hx (by have := hrk A x hA hx hl; omega)) _ (Nat.le_refl _)]
    exact fun A hA => key (rk A + 1) A hA (Nat.lt_succ_self _)
theorem gc_cap_add2 (a b : Nat) : gc_cap (gc_cap a + gc_cap b) = gc_cap (a + b) := by
  rw [gc_cap_add, Nat.add_comm, gc_cap_add, Nat.add_comm]
theorem gc_E_le (T : Nat → Nat → Nat) (ys : List Nat) (n : Nat) : gc_E T ys n ≤ 1000000000000000001 := by
  induction ys generalizing n with
  | nil =>
    show (if n = 0 then 1 else 0) ≤ _
    split <;> omega
  | cons x xs ih =>
    by_cases hx : x < 8
    · rw [gc_E_nt hx]
      exact gc_cap_le _
    · rw [gc_E_t hx]
      split
      · omega
      · exact ih _
theorem gl_18 : (1000000000000000000 : Int64) = lN 1000000000000000000 := rfl
theorem gl_19 : (1000000000000000001 : Int64) = lN 1000000000000000001 := rfl
section L2F
variable {σ : gs_St}
theorem s_plus {a b : Nat} {K : Int64 → gs_St → Prop} (ha : a ≤ 1000000000000000001) (hb : b ≤ 1000000000000000001) (k : K (lN (gc_cap (a + b))) σ) : C_Co_plus (lN a) (lN b) σ K := by
  have e : (if (1000000000000000001 : Int64) < (lN a + lN b) then (1000000000000000001 : Int64) else (lN a + lN b)) = lN (gc_cap (a + b)) := by
    rw [lN_add, gl_19]
    have hiff : lN 1000000000000000001 < lN (a + b) ↔ 1000000000000000001 < a + b := pk_lLT (by omega) (by omega)
    unfold gc_cap
    by_cases q : a + b ≤ 1000000000000000000
    · rw [if_neg (fun z => by have := hiff.mp z; omega), if_pos q]
    · rw [if_neg q]
      by_cases z : 1000000000000000001 < a + b
      · rw [if_pos (hiff.mpr z)]
      · rw [if_neg (fun y => z (hiff.mp y)), show a + b = 1000000000000000001 by omega]
  show K (if (1000000000000000001 : Int64) < (lN a + lN b) then (1000000000000000001 : Int64) else (lN a + lN b)) σ
  rw [e]
  exact k
theorem s_times {a b : Nat} {K : Int64 → gs_St → Prop} (ha : a ≤ 1000000000000000001) (hb : b ≤ 1000000000000000001) (k : K (lN (gc_cap (a * b))) σ) : C_Co_times (lN a) (lN b) σ K := by
  have hz : (lN b = (0 : Int64)) ↔ b = 0 := pk_lEQ (a := b) (b := 0) (by omega) (by decide)
  unfold C_Co_times
  rw [hz]
  refine ⟨fun hb0 => ⟨hb0, ?_⟩, fun hb0 => ?_⟩
  · rw [gl_18, pk_lDiv (by omega) (by omega) (by omega)]
    have hd : 1000000000000000000 / b ≤ 1000000000000000000 := Nat.div_le_self _ _
    have hm := Nat.le_div_iff_mul_le (x := a) (y := 1000000000000000000) (show 0 < b by omega)
    rw [pk_lLE (by omega) (by omega)]
    refine ⟨fun q => ?_, fun q => ?_⟩
    · have hq := hm.mp q
      rw [lN_mul]
      unfold gc_cap at k
      rw [if_pos hq] at k
      exact k
    · have hq : ¬ a * b ≤ 1000000000000000000 := fun z => q (hm.mpr z)
      unfold gc_cap at k
      rw [if_neg hq] at k
      exact k
  · have hb0 : b = 0 := Classical.byContradiction hb0
    subst hb0
    rw [Nat.mul_zero] at k
    exact k
/-- the place of an ending -/
def ge_at (r i p : Nat) : Nat := (r * 7 + i) * 17 + p
theorem ge_at_e (r i : Nat) : (nI r * (7 : Int32) + nI i) * (17 : Int32) = nI ((r * 7 + i) * 17) := by
  rw [show (7 : Int32) = nI 7 from rfl, show (17 : Int32) = nI 17 from rfl, pk_mul, nI_add, pk_mul]
theorem gt_at_e (A p : Nat) : nI A * (17 : Int32) + nI p = nI (A * 17 + p) := by
  rw [show (17 : Int32) = nI 17 from rfl, pk_mul, nI_add]
theorem gv_m1 (c : Nat) : nI c + (-1) = nI c - 1 := by
  cases c with
  | zero => decide
  | succ c => rw [pk_m1, nI_pred]
end L2F
