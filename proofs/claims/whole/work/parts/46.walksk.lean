abbrev rm_Mo_isLength : Room := { frames := 0, cells := 0, slots := 0, locals := 0 }
set_option maxHeartbeats 4000000 in
set_option maxRecDepth 100000 in
theorem c_Mo_isLength (l : Launch) (dC : Nat → ClassId) (dI : Nat → Nat → Nat) (h : Nat → Nat) (cI cL cZ : ClassId) (σ : gs_St) (a0 : Int32) (K : Int32 → gs_St → Prop) (hC : C_Mo_isLength a0 σ K) : gj_MI l y_Mo_isLength (gj_ws y_Mo_isLength b_Mo_isLength 1 (some .boolean)) rm_Mo_isLength (dC, dI) gs_C (gs_T cI cL cZ) ((wM h cI cL cZ) σ) (wM h cI cL cZ) [.int a0] (fun r u => K r u ∧ (r = 0 ∨ r = 1)) := by
  refine gj_enterZ (by decide) (Nat.le_of_ble_eq_true rfl) (fun p e s m args below meth c A X hr hlk hA hnm => ?_)
  change gj_J p l e rm_Mo_isLength s m args below meth c 0 0 (MQ below (va_Qi (fun r u => K r u ∧ (r = 0 ∨ r = 1)) (gj_at (dC, dI) gs_C (gs_T cI cL cZ) (wM h cI cL cZ) A) A) args s 0 0 A) (dC, dI) gs_C A 1 0 [(0, .int a0)] [] ((wM h cI cL cZ) σ)
  refine gj_iload_n X d_Mo_isLength_0 rfl 0 rfl ?_
  refine gj_if_lt (tgt := 14) X d_Mo_isLength_1 (by decide) (fun c0 => ?_) (fun c0 => ?_)
  · have hC := hC.1 c0
    refine gj_iconst (v := 0) X d_Mo_isLength_14 (by decide) ?_
    exact gj_zret X hr hlk (by decide) ⟨hC, Or.inl rfl⟩ d_Mo_isLength_15
  · have hC := hC.2 c0
    refine gj_iload_n X d_Mo_isLength_4 rfl 0 rfl ?_
    refine gj_bipush (v := 17) X d_Mo_isLength_5 (by decide) ?_
    refine gj_icmp_ge (tgt := 14) X d_Mo_isLength_7 (by decide) (fun c0 => ?_) (fun c0 => ?_)
    · have hC := hC.1 c0
      refine gj_iconst (v := 0) X d_Mo_isLength_14 (by decide) ?_
      exact gj_zret X hr hlk (by decide) ⟨hC, Or.inl rfl⟩ d_Mo_isLength_15
    · have hC := hC.2 c0
      refine gj_iconst (v := 1) X d_Mo_isLength_10 (by decide) ?_
      refine gj_goto (tgt := 15) X d_Mo_isLength_11 (by decide) ?_
      exact gj_zret X hr hlk (by decide) ⟨hC, Or.inr rfl⟩ d_Mo_isLength_15
abbrev rm_Mo_of : Room := { frames := 1, cells := 0, slots := 0, locals := 20 }
set_option maxHeartbeats 4000000 in
set_option maxRecDepth 100000 in
theorem c_Mo_of (l : Launch) (dC : Nat → ClassId) (dI : Nat → Nat → Nat) (h : Nat → Nat) (cI cL cZ : ClassId) (σ : gs_St) (a0 : Int32) (a1 : Int32) (K : Int64 → gs_St → Prop) (hC : C_Mo_of a0 a1 σ K) : gj_ML l y_Mo_of (gj_ws y_Mo_of b_Mo_of 3 (some .long)) rm_Mo_of (dC, dI) gs_C (gs_T cI cL cZ) ((wM h cI cL cZ) σ) (wM h cI cL cZ) [.ref (h 0), .int a0, .int a1] K := by
  refine gj_enterL (by decide) (Nat.le_of_ble_eq_true rfl) (fun p e s m args below meth c A X hr hlk hA hnm => ?_)
  change gj_J p l e rm_Mo_of s m args below meth c 0 0 (MQ below (va_Ql K (gj_at (dC, dI) gs_C (gs_T cI cL cZ) (wM h cI cL cZ) A) A) args s 0 0 A) (dC, dI) gs_C A 3 0 [(0, .ref (h 0)), (1, .int a0), (2, .int a1)] [] ((wM h cI cL cZ) σ)
  refine gj_iload_n X d_Mo_of_0 rfl 1 rfl ?_
  refine gj_callSI (As := [.int a0]) (st := []) X (c_Mo_isNonterminal l dC dI h cI cL cZ σ a0 _ hC) ⟨gj_cwB X tw_644 tw_10 tw_642 hd_Mo_isNonterminal rfl rfl ⟨Nat.le_of_ble_eq_true rfl, Nat.le_of_ble_eq_true rfl⟩, X.2.2.2.2.1 _ tw_643⟩ hA rfl (Nat.le_of_ble_eq_true rfl) ⟨Nat.zero_le _, Nat.zero_le _⟩ d_Mo_of_1 rfl (fun r2 σ1 hC => ?_)
  obtain ⟨hC, hb⟩ := hC
  refine gj_if_eq (tgt := 21) X d_Mo_of_4 (by decide) (fun c0 => ?_) (fun c0 => ?_)
  · have hC := hC.1 c0
    refine gj_iload_n X d_Mo_of_21 rfl 2 rfl ?_
    refine gj_iconst (v := 1) X d_Mo_of_22 (by decide) ?_
    refine gj_icmp_ne (tgt := 30) X d_Mo_of_23 (by decide) (fun c0 => ?_) (fun c0 => ?_)
    · have hC := hC.1 c0
      refine gj_lconst (v := 0) X d_Mo_of_30 (by decide) ?_
      exact gj_lret X hr hlk hC d_Mo_of_31
    · have hC := hC.2 c0
      refine gj_lconst (v := 1) X d_Mo_of_26 (by decide) ?_
      refine gj_goto (tgt := 31) X d_Mo_of_27 (by decide) ?_
      exact gj_lret X hr hlk hC d_Mo_of_31
  · have hC := hC.2 c0
    refine gj_aload_n X d_Mo_of_7 rfl 0 rfl ?_
    refine gj_get X inX9 0 rfl rfl 16 (by decide) tw_564 rfl rfl d_Mo_of_8 ?_
    refine gj_bipush (v := 17) X d_Mo_of_11 (by decide) ?_
    refine gj_iload_n X d_Mo_of_13 rfl 1 rfl ?_
    refine gj_imul X d_Mo_of_14 ?_
    refine gj_iload_n X d_Mo_of_15 rfl 2 rfl ?_
    refine gj_iadd X d_Mo_of_16 ?_
    refine gj_lald X 12 1 rfl rfl hC.1 d_Mo_of_17 ?_
    have hC := hC.2
    refine gj_goto (tgt := 31) X d_Mo_of_18 (by decide) ?_
    exact gj_lret X hr hlk hC d_Mo_of_31
abbrev rm_Mo_product : Room := { frames := 0, cells := 0, slots := 0, locals := 0 }
set_option maxHeartbeats 4000000 in
set_option maxRecDepth 100000 in
theorem c_Mo_product (l : Launch) (dC : Nat → ClassId) (dI : Nat → Nat → Nat) (h : Nat → Nat) (cI cL cZ : ClassId) (σ : gs_St) (a0 : Int64) (a1 : Int64) (K : Int64 → gs_St → Prop) (hC : C_Mo_product a0 a1 σ K) : gj_ML l y_Mo_product (gj_ws y_Mo_product b_Mo_product 4 (some .long)) rm_Mo_product (dC, dI) gs_C (gs_T cI cL cZ) ((wM h cI cL cZ) σ) (wM h cI cL cZ) [.long a0, .long a1] K := by
  refine gj_enterL (by decide) (Nat.le_of_ble_eq_true rfl) (fun p e s m args below meth c A X hr hlk hA hnm => ?_)
  change gj_J p l e rm_Mo_product s m args below meth c 0 0 (MQ below (va_Ql K (gj_at (dC, dI) gs_C (gs_T cI cL cZ) (wM h cI cL cZ) A) A) args s 0 0 A) (dC, dI) gs_C A 4 0 [(0, .long a0), (2, .long a1)] [] ((wM h cI cL cZ) σ)
  refine gj_lload_n X d_Mo_product_0 rfl 0 rfl ?_
  refine gj_lconst (v := 0) X d_Mo_product_1 (by decide) ?_
  refine gj_lcmp_eq (tgt := 12) X d_Mo_product_2 d_Mo_product_3 (by decide) (fun c0 => ?_) (fun c0 => ?_)
  · have hC := hC.1 c0
    refine gj_lconst (v := 0) X d_Mo_product_12 (by decide) ?_
    exact gj_lret X hr hlk hC d_Mo_product_13
  · have hC := hC.2 c0
    refine gj_lload_n X d_Mo_product_6 rfl 1 rfl ?_
    refine gj_lconst (v := 0) X d_Mo_product_7 (by decide) ?_
    refine gj_lcmp_ne (tgt := 14) X d_Mo_product_8 d_Mo_product_9 (by decide) (fun c0 => ?_) (fun c0 => ?_)
    · have hC := hC.1 c0
      refine gj_lload_n X d_Mo_product_14 rfl 0 rfl ?_
      refine gj_ldc2 (v := 1000000000000000000) X tw_722 d_Mo_product_15 ?_
      refine gj_lload_n X d_Mo_product_18 rfl 1 rfl ?_
      refine gj_ldiv X d_Mo_product_19 hC.1 ?_
      have hC := hC.2
      refine gj_lcmp_le (tgt := 30) X d_Mo_product_20 d_Mo_product_21 (by decide) (fun c0 => ?_) (fun c0 => ?_)
      · have hC := hC.1 c0
        refine gj_lload_n X d_Mo_product_30 rfl 0 rfl ?_
        refine gj_lload_n X d_Mo_product_31 rfl 1 rfl ?_
        refine gj_lmul X d_Mo_product_32 ?_
        exact gj_lret X hr hlk hC d_Mo_product_33
      · have hC := hC.2 c0
        refine gj_ldc2 (v := 1000000000000000001) X tw_723 d_Mo_product_24 ?_
        refine gj_goto (tgt := 33) X d_Mo_product_27 (by decide) ?_
        exact gj_lret X hr hlk hC d_Mo_product_33
    · have hC := hC.2 c0
      refine gj_lconst (v := 0) X d_Mo_product_12 (by decide) ?_
      exact gj_lret X hr hlk hC d_Mo_product_13
abbrev rm_Mo_sum : Room := { frames := 0, cells := 0, slots := 0, locals := 0 }
set_option maxHeartbeats 4000000 in
set_option maxRecDepth 100000 in
theorem c_Mo_sum (l : Launch) (dC : Nat → ClassId) (dI : Nat → Nat → Nat) (h : Nat → Nat) (cI cL cZ : ClassId) (σ : gs_St) (a0 : Int64) (a1 : Int64) (K : Int64 → gs_St → Prop) (hC : C_Mo_sum a0 a1 σ K) : gj_ML l y_Mo_sum (gj_ws y_Mo_sum b_Mo_sum 4 (some .long)) rm_Mo_sum (dC, dI) gs_C (gs_T cI cL cZ) ((wM h cI cL cZ) σ) (wM h cI cL cZ) [.long a0, .long a1] K := by
  refine gj_enterL (by decide) (Nat.le_of_ble_eq_true rfl) (fun p e s m args below meth c A X hr hlk hA hnm => ?_)
  change gj_J p l e rm_Mo_sum s m args below meth c 0 0 (MQ below (va_Ql K (gj_at (dC, dI) gs_C (gs_T cI cL cZ) (wM h cI cL cZ) A) A) args s 0 0 A) (dC, dI) gs_C A 4 0 [(0, .long a0), (2, .long a1)] [] ((wM h cI cL cZ) σ)
  refine gj_lload_n X d_Mo_sum_0 rfl 0 rfl ?_
  refine gj_lload_n X d_Mo_sum_1 rfl 1 rfl ?_
  refine gj_ladd X d_Mo_sum_2 ?_
  refine gj_ldc2 (v := 1000000000000000000) X tw_722 d_Mo_sum_3 ?_
  refine gj_lcmp_le (tgt := 16) X d_Mo_sum_6 d_Mo_sum_7 (by decide) (fun c0 => ?_) (fun c0 => ?_)
  · have hC := hC.1 c0
    refine gj_lload_n X d_Mo_sum_16 rfl 0 rfl ?_
    refine gj_lload_n X d_Mo_sum_17 rfl 1 rfl ?_
    refine gj_ladd X d_Mo_sum_18 ?_
    exact gj_lret X hr hlk hC d_Mo_sum_19
  · have hC := hC.2 c0
    refine gj_ldc2 (v := 1000000000000000001) X tw_723 d_Mo_sum_10 ?_
    refine gj_goto (tgt := 19) X d_Mo_sum_13 (by decide) ?_
    exact gj_lret X hr hlk hC d_Mo_sum_19
abbrev rm_Mo_fill : Room := { frames := 2, cells := 0, slots := 0, locals := 42 }
set_option maxHeartbeats 4000000 in
set_option maxRecDepth 100000 in
theorem c_Mo_fill (l : Launch) (dC : Nat → ClassId) (dI : Nat → Nat → Nat) (h : Nat → Nat) (cI cL cZ : ClassId) (σ : gs_St) (a0 : Int32) (a1 : Int32) (K : gs_St → Prop) (hC : C_Mo_fill a0 a1 σ K) : gj_MV 0 0 l y_Mo_fill (gj_ws y_Mo_fill b_Mo_fill 8 (none)) rm_Mo_fill (dC, dI) gs_C (gs_T cI cL cZ) ((wM h cI cL cZ) σ) (wM h cI cL cZ) [.ref (h 0), .int a0, .int a1] K := by
  refine gj_enterV (by decide) (Nat.le_of_ble_eq_true rfl) (fun p e s m args below meth c A X hr hlk hA hnm => ?_)
  change gj_J p l e rm_Mo_fill s m args below meth c 0 0 (MQ below (va_Qv K (gj_at (dC, dI) gs_C (gs_T cI cL cZ) (wM h cI cL cZ) A) A) args s 0 0 A) (dC, dI) gs_C A 8 0 [(0, .ref (h 0)), (1, .int a0), (2, .int a1)] [] ((wM h cI cL cZ) σ)
  have hC := hC
    (fun (v_1 : Int32) (v_2 : Int32) (v_3 : Int32) (σ : gs_St) => gj_J p l e rm_Mo_fill s m args below meth c 0 0 (MQ below (va_Qv K (gj_at (dC, dI) gs_C (gs_T cI cL cZ) (wM h cI cL cZ) A) A) args s 0 0 A) (dC, dI) gs_C A 8 2 [(0, .ref (h 0)), (1, .int v_1), (2, .int v_2), (3, .int v_3)] [] ((wM h cI cL cZ) σ))
    (fun (v_1 : Int32) (v_2 : Int32) (v_3 : Int32) (σ : gs_St) => gj_J p l e rm_Mo_fill s m args below meth c 0 0 (MQ below (va_Qv K (gj_at (dC, dI) gs_C (gs_T cI cL cZ) (wM h cI cL cZ) A) A) args s 0 0 A) (dC, dI) gs_C A 8 47 [(0, .ref (h 0)), (1, .int v_1), (2, .int v_2), (3, .int v_3)] [] ((wM h cI cL cZ) σ))
    (fun (v_1 : Int32) (v_2 : Int32) (v_3 : Int32) (v_4 : Int32) (σ : gs_St) => gj_J p l e rm_Mo_fill s m args below meth c 0 0 (MQ below (va_Qv K (gj_at (dC, dI) gs_C (gs_T cI cL cZ) (wM h cI cL cZ) A) A) args s 0 0 A) (dC, dI) gs_C A 8 54 [(0, .ref (h 0)), (1, .int v_1), (2, .int v_2), (3, .int v_3), (4, .int v_4)] [] ((wM h cI cL cZ) σ))
    (fun (v_1 : Int32) (v_2 : Int32) (v_3 : Int32) (v_4 : Int32) (v_5 : Int64) (v_7 : Int32) (σ : gs_St) => gj_J p l e rm_Mo_fill s m args below meth c 0 0 (MQ below (va_Qv K (gj_at (dC, dI) gs_C (gs_T cI cL cZ) (wM h cI cL cZ) A) A) args s 0 0 A) (dC, dI) gs_C A 8 66 [(0, .ref (h 0)), (1, .int v_1), (2, .int v_2), (3, .int v_3), (4, .int v_4), (5, .long v_5), (7, .int v_7)] [] ((wM h cI cL cZ) σ))
    (by
      intro v_1 v_2 v_3 σ hC
      refine gj_iload_n X d_Mo_fill_2 rfl 3 rfl ?_
      refine gj_iload_n X d_Mo_fill_3 rfl 2 rfl ?_
      refine gj_icmp_gt (tgt := 38) X d_Mo_fill_4 (by decide) (fun c0 => ?_) (fun c0 => ?_)
      · have hC := hC.1 c0
        refine gj_aload_n X d_Mo_fill_38 rfl 0 rfl ?_
        refine gj_get X inX9 0 rfl rfl 1 (by decide) tw_549 rfl rfl d_Mo_fill_39 ?_
        refine gj_iload_n X d_Mo_fill_42 rfl 1 rfl ?_
        refine gj_iald X 2 0 rfl rfl hC.1 d_Mo_fill_43 ?_
        have hC := hC.2
        refine gj_iconst (v := 1) X d_Mo_fill_44 (by decide) ?_
        refine gj_isub X d_Mo_fill_45 ?_
        refine gj_topi (fun v1 ev1 => ?_)
        have hC := hC v1 ev1
        refine gj_istore_n (L' := [(3, .int v1), (0, .ref (h 0)), (1, .int v_1), (2, .int v_2)]) X d_Mo_fill_46 rfl (by decide) rfl ?_
        exact gj_loc [1, 2, 3, 0] rfl hC
      · have hC := hC.2 c0
        refine gj_aload_n X d_Mo_fill_7 rfl 0 rfl ?_
        refine gj_get X inX9 0 rfl rfl 19 (by decide) tw_567 rfl rfl d_Mo_fill_8 ?_
        refine gj_bipush (v := 17) X d_Mo_fill_11 (by decide) ?_
        refine gj_aload_n X d_Mo_fill_13 rfl 0 rfl ?_
        refine gj_get X inX9 0 rfl rfl 1 (by decide) tw_549 rfl rfl d_Mo_fill_14 ?_
        refine gj_iload_n X d_Mo_fill_17 rfl 1 rfl ?_
        refine gj_iald X 2 0 rfl rfl hC.1 d_Mo_fill_18 ?_
        have hC := hC.2
        refine gj_imul X d_Mo_fill_19 ?_
        refine gj_iload_n X d_Mo_fill_20 rfl 3 rfl ?_
        refine gj_iadd X d_Mo_fill_21 ?_
        refine gj_iload_n X d_Mo_fill_22 rfl 3 rfl ?_
        refine gj_if_ne (tgt := 30) X d_Mo_fill_23 (by decide) (fun c0 => ?_) (fun c0 => ?_)
        · have hC := hC.1 c0
          refine gj_lconst (v := 0) X d_Mo_fill_30 (by decide) ?_
          refine gj_last (w' := (wM h cI cL cZ) (gs_L σ 3 (vp_updL (σ.2.2 3) (((17 : Int32) * (σ.2.1 1 v_1.toNatClampNeg)) + v_3).toNatClampNeg (0 : Int64)))) X 13 1 rfl rfl hC.1 (set_wM_L3 h cI cL cZ σ _) d_Mo_fill_31 ?_
          refine gj_topw (wof := (wM h cI cL cZ)) (fun σ2 eσ2 => ?_)
          have hC := hC.2 σ2 eσ2
          obtain ⟨v3, ev3⟩ : ∃ y : Int32, y = v_3 + 1 := ⟨_, rfl⟩
          have hC := hC v3 ev3
          refine gj_iinc (v := v3) (L' := [(3, .int v3), (0, .ref (h 0)), (1, .int v_1), (2, .int v_2)]) X d_Mo_fill_32 3 rfl (by rw [ev3]; rfl) (by decide) rfl ?_
          refine gj_goto (tgt := 2) X d_Mo_fill_35 (by decide) ?_
          exact gj_loc [1, 2, 3, 0] rfl hC
        · have hC := hC.2 c0
          refine gj_lconst (v := 1) X d_Mo_fill_26 (by decide) ?_
          refine gj_goto (tgt := 31) X d_Mo_fill_27 (by decide) ?_
          refine gj_last (w' := (wM h cI cL cZ) (gs_L σ 3 (vp_updL (σ.2.2 3) (((17 : Int32) * (σ.2.1 1 v_1.toNatClampNeg)) + v_3).toNatClampNeg (1 : Int64)))) X 13 1 rfl rfl hC.1 (set_wM_L3 h cI cL cZ σ _) d_Mo_fill_31 ?_
          refine gj_topw (wof := (wM h cI cL cZ)) (fun σ4 eσ4 => ?_)
          have hC := hC.2 σ4 eσ4
          obtain ⟨v5, ev5⟩ : ∃ y : Int32, y = v_3 + 1 := ⟨_, rfl⟩
          have hC := hC v5 ev5
          refine gj_iinc (v := v5) (L' := [(3, .int v5), (0, .ref (h 0)), (1, .int v_1), (2, .int v_2)]) X d_Mo_fill_32 3 rfl (by rw [ev5]; rfl) (by decide) rfl ?_
          refine gj_goto (tgt := 2) X d_Mo_fill_35 (by decide) ?_
          exact gj_loc [1, 2, 3, 0] rfl hC)
    (by
      intro v_1 v_2 v_3 σ hC
      refine gj_iload_n X d_Mo_fill_47 rfl 3 rfl ?_
      refine gj_if_lt (tgt := 145) X d_Mo_fill_48 (by decide) (fun c0 => ?_) (fun c0 => ?_)
      · have hC := hC.1 c0
        exact gj_vret X hr hlk hC d_Mo_fill_145
      · have hC := hC.2 c0
        refine gj_iconst (v := 0) X d_Mo_fill_51 (by decide) ?_
        refine gj_istore (L' := [(4, .int (0 : Int32)), (0, .ref (h 0)), (1, .int v_1), (2, .int v_2), (3, .int v_3)]) X d_Mo_fill_52 (by decide) rfl ?_
        exact gj_loc [1, 2, 3, 4, 0] rfl hC)
    (by
      intro v_1 v_2 v_3 v_4 σ hC
      refine gj_iload X d_Mo_fill_54 4 rfl ?_
      refine gj_iload_n X d_Mo_fill_56 rfl 2 rfl ?_
      refine gj_icmp_gt (tgt := 139) X d_Mo_fill_57 (by decide) (fun c0 => ?_) (fun c0 => ?_)
      · have hC := hC.1 c0
        obtain ⟨v6, ev6⟩ : ∃ y : Int32, y = v_3 + (-1) := ⟨_, rfl⟩
        have hC := hC v6 ev6
        refine gj_iinc (v := v6) (L' := [(3, .int v6), (0, .ref (h 0)), (1, .int v_1), (2, .int v_2), (4, .int v_4)]) X d_Mo_fill_139 3 rfl (by rw [ev6]; rfl) (by decide) rfl ?_
        refine gj_goto (tgt := 47) X d_Mo_fill_142 (by decide) ?_
        exact gj_loc [1, 2, 3, 0] rfl hC
      · have hC := hC.2 c0
        refine gj_lconst (v := 0) X d_Mo_fill_60 (by decide) ?_
        refine gj_lstore (L' := [(5, .long (0 : Int64)), (0, .ref (h 0)), (1, .int v_1), (2, .int v_2), (3, .int v_3), (4, .int v_4)]) X d_Mo_fill_61 (by decide) rfl ?_
        refine gj_iconst (v := 0) X d_Mo_fill_63 (by decide) ?_
        refine gj_istore (L' := [(7, .int (0 : Int32)), (5, .long (0 : Int64)), (0, .ref (h 0)), (1, .int v_1), (2, .int v_2), (3, .int v_3), (4, .int v_4)]) X d_Mo_fill_64 (by decide) rfl ?_
        exact gj_loc [2, 3, 4, 5, 6, 1, 0] rfl hC)
    (by
      intro v_1 v_2 v_3 v_4 v_5 v_7 σ hC
      refine gj_iload X d_Mo_fill_66 6 rfl ?_
      refine gj_iload X d_Mo_fill_68 4 rfl ?_
      refine gj_icmp_gt (tgt := 119) X d_Mo_fill_70 (by decide) (fun c0 => ?_) (fun c0 => ?_)
      · have hC := hC.1 c0
        refine gj_aload_n X d_Mo_fill_119 rfl 0 rfl ?_
        refine gj_get X inX9 0 rfl rfl 19 (by decide) tw_567 rfl rfl d_Mo_fill_120 ?_
        refine gj_bipush (v := 17) X d_Mo_fill_123 (by decide) ?_
        refine gj_iload_n X d_Mo_fill_125 rfl 3 rfl ?_
        refine gj_imul X d_Mo_fill_126 ?_
        refine gj_iload X d_Mo_fill_127 4 rfl ?_
        refine gj_iadd X d_Mo_fill_129 ?_
        refine gj_lload X d_Mo_fill_130 5 rfl ?_
        refine gj_last (w' := (wM h cI cL cZ) (gs_L σ 3 (vp_updL (σ.2.2 3) (((17 : Int32) * v_3) + v_4).toNatClampNeg v_5))) X 13 1 rfl rfl hC.1 (set_wM_L3 h cI cL cZ σ _) d_Mo_fill_132 ?_
        refine gj_topw (wof := (wM h cI cL cZ)) (fun σ7 eσ7 => ?_)
        have hC := hC.2 σ7 eσ7
        obtain ⟨v8, ev8⟩ : ∃ y : Int32, y = v_4 + 1 := ⟨_, rfl⟩
        have hC := hC v8 ev8
        refine gj_iinc (v := v8) (L' := [(4, .int v8), (0, .ref (h 0)), (1, .int v_1), (2, .int v_2), (3, .int v_3), (5, .long v_5), (7, .int v_7)]) X d_Mo_fill_133 4 rfl (by rw [ev8]; rfl) (by decide) rfl ?_
        refine gj_goto (tgt := 54) X d_Mo_fill_136 (by decide) ?_
        exact gj_loc [1, 2, 3, 4, 0] rfl hC
      · have hC := hC.2 c0
        refine gj_lload X d_Mo_fill_73 5 rfl ?_
        refine gj_aload_n X d_Mo_fill_75 rfl 0 rfl ?_
        refine gj_aload_n X d_Mo_fill_76 rfl 0 rfl ?_
        refine gj_iload_n X d_Mo_fill_77 rfl 1 rfl ?_
        refine gj_iload_n X d_Mo_fill_78 rfl 3 rfl ?_
        refine gj_callVI (As := [.int v_1, .int v_3]) (st := [.ref (h 0), .long v_5]) X (c_Mo_at l dC dI h cI cL cZ σ v_1 v_3 _ hC) ⟨gj_cwB X tw_664 tw_10 tw_661 hd_Mo_at rfl rfl ⟨Nat.le_of_ble_eq_true rfl, Nat.le_of_ble_eq_true rfl⟩, X.2.2.2.2.1 _ tw_663, X.2.2.2.2.1 _ ts_17⟩ 0 rfl rfl hA rfl (Nat.le_of_ble_eq_true rfl) ⟨Nat.zero_le _, Nat.zero_le _⟩ d_Mo_fill_79 rfl (fun r10 σ9 hC => ?_)
        refine gj_iload X d_Mo_fill_82 6 rfl ?_
        refine gj_callVL (As := [.int r10, .int v_7]) (st := [.long v_5]) X (c_Mo_of l dC dI h cI cL cZ σ9 r10 v_7 _ hC) ⟨gj_cwB X tw_718 tw_10 tw_715 hd_Mo_of rfl rfl ⟨Nat.le_of_ble_eq_true rfl, Nat.le_of_ble_eq_true rfl⟩, X.2.2.2.2.1 _ tw_717, X.2.2.2.2.1 _ ts_25⟩ 0 rfl rfl hA rfl (Nat.le_of_ble_eq_true rfl) ⟨Nat.zero_le _, Nat.zero_le _⟩ d_Mo_fill_84 rfl (fun r12 σ11 hC => ?_)
        refine gj_aload_n X d_Mo_fill_87 rfl 0 rfl ?_
        refine gj_get X inX9 0 rfl rfl 19 (by decide) tw_567 rfl rfl d_Mo_fill_88 ?_
        refine gj_bipush (v := 17) X d_Mo_fill_91 (by decide) ?_
        refine gj_iload_n X d_Mo_fill_93 rfl 3 rfl ?_
        refine gj_imul X d_Mo_fill_94 ?_
        refine gj_bipush (v := 17) X d_Mo_fill_95 (by decide) ?_
        refine gj_iadd X d_Mo_fill_97 ?_
        refine gj_iload X d_Mo_fill_98 4 rfl ?_
        refine gj_iadd X d_Mo_fill_100 ?_
        refine gj_iload X d_Mo_fill_101 6 rfl ?_
        refine gj_isub X d_Mo_fill_103 ?_
        refine gj_lald X 13 1 rfl rfl hC.1 d_Mo_fill_104 ?_
        have hC := hC.2
        refine gj_callSL (As := [.long r12, .long (σ11.2.2 3 (((((17 : Int32) * v_3) + (17 : Int32)) + v_4) - v_7).toNatClampNeg)]) (st := [.long v_5]) X (c_Mo_product l dC dI h cI cL cZ σ11 r12 (σ11.2.2 3 (((((17 : Int32) * v_3) + (17 : Int32)) + v_4) - v_7).toNatClampNeg) _ hC) ⟨gj_cwB X tw_721 tw_10 tw_719 hd_Mo_product rfl rfl ⟨Nat.le_of_ble_eq_true rfl, Nat.le_of_ble_eq_true rfl⟩, X.2.2.2.2.1 _ tw_720⟩ hA rfl (Nat.le_of_ble_eq_true rfl) ⟨Nat.zero_le _, Nat.zero_le _⟩ d_Mo_fill_105 rfl (fun r14 σ13 hC => ?_)
        refine gj_callSL (As := [.long v_5, .long r14]) (st := []) X (c_Mo_sum l dC dI h cI cL cZ σ13 v_5 r14 _ hC) ⟨gj_cwB X tw_726 tw_10 tw_724 hd_Mo_sum rfl rfl ⟨Nat.le_of_ble_eq_true rfl, Nat.le_of_ble_eq_true rfl⟩, X.2.2.2.2.1 _ tw_725⟩ hA rfl (Nat.le_of_ble_eq_true rfl) ⟨Nat.zero_le _, Nat.zero_le _⟩ d_Mo_fill_108 rfl (fun r16 σ15 hC => ?_)
        refine gj_lstore (L' := [(5, .long r16), (0, .ref (h 0)), (1, .int v_1), (2, .int v_2), (3, .int v_3), (4, .int v_4), (7, .int v_7)]) X d_Mo_fill_111 (by decide) rfl ?_
        obtain ⟨v17, ev17⟩ : ∃ y : Int32, y = v_7 + 1 := ⟨_, rfl⟩
        have hC := hC v17 ev17
        refine gj_iinc (v := v17) (L' := [(7, .int v17), (5, .long r16), (0, .ref (h 0)), (1, .int v_1), (2, .int v_2), (3, .int v_3), (4, .int v_4)]) X d_Mo_fill_113 6 rfl (by rw [ev17]; rfl) (by decide) rfl ?_
        refine gj_goto (tgt := 66) X d_Mo_fill_116 (by decide) ?_
        exact gj_loc [2, 3, 4, 5, 6, 1, 0] rfl hC)
  refine gj_iconst (v := 0) X d_Mo_fill_0 (by decide) ?_
  refine gj_istore_n (L' := [(3, .int (0 : Int32)), (0, .ref (h 0)), (1, .int a0), (2, .int a1)]) X d_Mo_fill_1 rfl (by decide) rfl ?_
  exact gj_loc [1, 2, 3, 0] rfl hC
abbrev rm_Mo_reckon : Room := { frames := 3, cells := 0, slots := 0, locals := 69 }
set_option maxHeartbeats 4000000 in
set_option maxRecDepth 100000 in
theorem c_Mo_reckon (l : Launch) (dC : Nat → ClassId) (dI : Nat → Nat → Nat) (h : Nat → Nat) (cI cL cZ : ClassId) (σ : gs_St) (a0 : Int32) (K : gs_St → Prop) (hC : C_Mo_reckon a0 σ K) : gj_MV 0 0 l y_Mo_reckon (gj_ws y_Mo_reckon b_Mo_reckon 9 (none)) rm_Mo_reckon (dC, dI) gs_C (gs_T cI cL cZ) ((wM h cI cL cZ) σ) (wM h cI cL cZ) [.ref (h 0), .int a0] K := by
  refine gj_enterV (by decide) (Nat.le_of_ble_eq_true rfl) (fun p e s m args below meth c A X hr hlk hA hnm => ?_)
  change gj_J p l e rm_Mo_reckon s m args below meth c 0 0 (MQ below (va_Qv K (gj_at (dC, dI) gs_C (gs_T cI cL cZ) (wM h cI cL cZ) A) A) args s 0 0 A) (dC, dI) gs_C A 9 0 [(0, .ref (h 0)), (1, .int a0)] [] ((wM h cI cL cZ) σ)
  have hC := hC
    (fun (v_1 : Int32) (v_2 : Int32) (σ : gs_St) => gj_J p l e rm_Mo_reckon s m args below meth c 0 0 (MQ below (va_Qv K (gj_at (dC, dI) gs_C (gs_T cI cL cZ) (wM h cI cL cZ) A) A) args s 0 0 A) (dC, dI) gs_C A 9 28 [(0, .ref (h 0)), (1, .int v_1), (2, .int v_2)] [] ((wM h cI cL cZ) σ))
    (fun (v_1 : Int32) (v_2 : Int32) (σ : gs_St) => gj_J p l e rm_Mo_reckon s m args below meth c 0 0 (MQ below (va_Qv K (gj_at (dC, dI) gs_C (gs_T cI cL cZ) (wM h cI cL cZ) A) A) args s 0 0 A) (dC, dI) gs_C A 9 50 [(0, .ref (h 0)), (1, .int v_1), (2, .int v_2)] [] ((wM h cI cL cZ) σ))
    (fun (v_1 : Int32) (v_2 : Int32) (v_3 : Int32) (v_4 : Int32) (σ : gs_St) => gj_J p l e rm_Mo_reckon s m args below meth c 0 0 (MQ below (va_Qv K (gj_at (dC, dI) gs_C (gs_T cI cL cZ) (wM h cI cL cZ) A) A) args s 0 0 A) (dC, dI) gs_C A 9 61 [(0, .ref (h 0)), (1, .int v_1), (2, .int v_2), (3, .int v_3), (4, .int v_4)] [] ((wM h cI cL cZ) σ))
    (fun (v_1 : Int32) (v_2 : Int32) (v_3 : Int32) (v_4 : Int32) (v_5 : Int32) (σ : gs_St) => gj_J p l e rm_Mo_reckon s m args below meth c 0 0 (MQ below (va_Qv K (gj_at (dC, dI) gs_C (gs_T cI cL cZ) (wM h cI cL cZ) A) A) args s 0 0 A) (dC, dI) gs_C A 9 77 [(0, .ref (h 0)), (1, .int v_1), (2, .int v_2), (3, .int v_3), (4, .int v_4), (5, .int v_5)] [] ((wM h cI cL cZ) σ))
    (fun (v_1 : Int32) (v_2 : Int32) (v_3 : Int32) (v_4 : Int32) (v_5 : Int32) (v_6 : Int64) (v_8 : Int32) (σ : gs_St) => gj_J p l e rm_Mo_reckon s m args below meth c 0 0 (MQ below (va_Qv K (gj_at (dC, dI) gs_C (gs_T cI cL cZ) (wM h cI cL cZ) A) A) args s 0 0 A) (dC, dI) gs_C A 9 90 [(0, .ref (h 0)), (1, .int v_1), (2, .int v_2), (3, .int v_3), (4, .int v_4), (5, .int v_5), (6, .long v_6), (8, .int v_8)] [] ((wM h cI cL cZ) σ))
    (by
      intro v_1 v_2 σ hC
      refine gj_iload_n X d_Mo_reckon_28 rfl 2 rfl ?_
      refine gj_sipush (v := 136) X d_Mo_reckon_29 (by decide) ?_
      refine gj_icmp_ge (tgt := 48) X d_Mo_reckon_32 (by decide) (fun c0 => ?_) (fun c0 => ?_)
      · have hC := hC.1 c0
        refine gj_iconst (v := 0) X d_Mo_reckon_48 (by decide) ?_
        refine gj_istore_n (L' := [(2, .int (0 : Int32)), (0, .ref (h 0)), (1, .int v_1)]) X d_Mo_reckon_49 rfl (by decide) rfl ?_
        exact gj_loc [1, 2, 0] rfl hC
      · have hC := hC.2 c0
        refine gj_aload_n X d_Mo_reckon_35 rfl 0 rfl ?_
        refine gj_get X inX9 0 rfl rfl 16 (by decide) tw_564 rfl rfl d_Mo_reckon_36 ?_
        refine gj_iload_n X d_Mo_reckon_39 rfl 2 rfl ?_
        refine gj_lconst (v := 0) X d_Mo_reckon_40 (by decide) ?_
        refine gj_last (w' := (wM h cI cL cZ) (gs_L σ 2 (vp_updL (σ.2.2 2) v_2.toNatClampNeg (0 : Int64)))) X 12 1 rfl rfl hC.1 (set_wM_L2 h cI cL cZ σ _) d_Mo_reckon_41 ?_
        refine gj_topw (wof := (wM h cI cL cZ)) (fun σ5 eσ5 => ?_)
        have hC := hC.2 σ5 eσ5
        obtain ⟨v6, ev6⟩ : ∃ y : Int32, y = v_2 + 1 := ⟨_, rfl⟩
        have hC := hC v6 ev6
        refine gj_iinc (v := v6) (L' := [(2, .int v6), (0, .ref (h 0)), (1, .int v_1)]) X d_Mo_reckon_42 2 rfl (by rw [ev6]; rfl) (by decide) rfl ?_
        refine gj_goto (tgt := 28) X d_Mo_reckon_45 (by decide) ?_
        exact gj_loc [1, 2, 0] rfl hC)
    (by
      intro v_1 v_2 σ hC
      refine gj_iload_n X d_Mo_reckon_50 rfl 2 rfl ?_
      refine gj_bipush (v := 17) X d_Mo_reckon_51 (by decide) ?_
      refine gj_icmp_ge (tgt := 203) X d_Mo_reckon_53 (by decide) (fun c0 => ?_) (fun c0 => ?_)
      · have hC := hC.1 c0
        exact gj_vret X hr hlk hC d_Mo_reckon_203
      · have hC := hC.2 c0
        refine gj_iconst (v := 1) X d_Mo_reckon_56 (by decide) ?_
        refine gj_istore_n (L' := [(3, .int (1 : Int32)), (0, .ref (h 0)), (1, .int v_1), (2, .int v_2)]) X d_Mo_reckon_57 rfl (by decide) rfl ?_
        refine gj_iconst (v := 0) X d_Mo_reckon_58 (by decide) ?_
        refine gj_istore (L' := [(4, .int (0 : Int32)), (3, .int (1 : Int32)), (0, .ref (h 0)), (1, .int v_1), (2, .int v_2)]) X d_Mo_reckon_59 (by decide) rfl ?_
        exact gj_loc [2, 3, 4, 1, 0] rfl hC)
    (by
      intro v_1 v_2 v_3 v_4 σ hC
      refine gj_iload X d_Mo_reckon_61 4 rfl ?_
      refine gj_bipush (v := 10) X d_Mo_reckon_63 (by decide) ?_
      refine gj_icmp_ge (tgt := 197) X d_Mo_reckon_65 (by decide) (fun c0 => ?_) (fun c0 => ?_)
      · have hC := hC.1 c0
        obtain ⟨v7, ev7⟩ : ∃ y : Int32, y = v_2 + 1 := ⟨_, rfl⟩
        have hC := hC v7 ev7
        refine gj_iinc (v := v7) (L' := [(2, .int v7), (0, .ref (h 0)), (1, .int v_1), (3, .int v_3), (4, .int v_4)]) X d_Mo_reckon_197 2 rfl (by rw [ev7]; rfl) (by decide) rfl ?_
        refine gj_goto (tgt := 50) X d_Mo_reckon_200 (by decide) ?_
        exact gj_loc [1, 2, 0] rfl hC
      · have hC := hC.2 c0
        refine gj_iload_n X d_Mo_reckon_68 rfl 3 rfl ?_
        refine gj_if_eq (tgt := 197) X d_Mo_reckon_69 (by decide) (fun c0 => ?_) (fun c0 => ?_)
        · have hC := hC.1 c0
          obtain ⟨v8, ev8⟩ : ∃ y : Int32, y = v_2 + 1 := ⟨_, rfl⟩
          have hC := hC v8 ev8
          refine gj_iinc (v := v8) (L' := [(2, .int v8), (0, .ref (h 0)), (1, .int v_1), (3, .int v_3), (4, .int v_4)]) X d_Mo_reckon_197 2 rfl (by rw [ev8]; rfl) (by decide) rfl ?_
          refine gj_goto (tgt := 50) X d_Mo_reckon_200 (by decide) ?_
          exact gj_loc [1, 2, 0] rfl hC
        · have hC := hC.2 c0
          refine gj_iconst (v := 0) X d_Mo_reckon_72 (by decide) ?_
          refine gj_istore_n (L' := [(3, .int (0 : Int32)), (0, .ref (h 0)), (1, .int v_1), (2, .int v_2), (4, .int v_4)]) X d_Mo_reckon_73 rfl (by decide) rfl ?_
          refine gj_iconst (v := 0) X d_Mo_reckon_74 (by decide) ?_
          refine gj_istore (L' := [(5, .int (0 : Int32)), (3, .int (0 : Int32)), (0, .ref (h 0)), (1, .int v_1), (2, .int v_2), (4, .int v_4)]) X d_Mo_reckon_75 (by decide) rfl ?_
          exact gj_loc [2, 3, 4, 1, 5, 0] rfl hC)
    (by
      intro v_1 v_2 v_3 v_4 v_5 σ hC
      refine gj_iload X d_Mo_reckon_77 5 rfl ?_
      refine gj_bipush (v := 8) X d_Mo_reckon_79 (by decide) ?_
      refine gj_icmp_ge (tgt := 191) X d_Mo_reckon_81 (by decide) (fun c0 => ?_) (fun c0 => ?_)
      · have hC := hC.1 c0
        obtain ⟨v9, ev9⟩ : ∃ y : Int32, y = v_4 + 1 := ⟨_, rfl⟩
        have hC := hC v9 ev9
        refine gj_iinc (v := v9) (L' := [(4, .int v9), (0, .ref (h 0)), (1, .int v_1), (2, .int v_2), (3, .int v_3), (5, .int v_5)]) X d_Mo_reckon_191 4 rfl (by rw [ev9]; rfl) (by decide) rfl ?_
        refine gj_goto (tgt := 61) X d_Mo_reckon_194 (by decide) ?_
        exact gj_loc [1, 2, 3, 4, 0] rfl hC
      · have hC := hC.2 c0
        refine gj_lconst (v := 0) X d_Mo_reckon_84 (by decide) ?_
        refine gj_lstore (L' := [(6, .long (0 : Int64)), (0, .ref (h 0)), (1, .int v_1), (2, .int v_2), (3, .int v_3), (4, .int v_4), (5, .int v_5)]) X d_Mo_reckon_85 (by decide) rfl ?_
        refine gj_iconst (v := 0) X d_Mo_reckon_87 (by decide) ?_
        refine gj_istore (L' := [(8, .int (0 : Int32)), (6, .long (0 : Int64)), (0, .ref (h 0)), (1, .int v_1), (2, .int v_2), (3, .int v_3), (4, .int v_4), (5, .int v_5)]) X d_Mo_reckon_88 (by decide) rfl ?_
        exact gj_loc [2, 3, 4, 5, 6, 7, 1, 0] rfl hC)
    (by
      intro v_1 v_2 v_3 v_4 v_5 v_6 v_8 σ hC
      refine gj_iload X d_Mo_reckon_90 7 rfl ?_
      refine gj_aload_n X d_Mo_reckon_92 rfl 0 rfl ?_
      refine gj_get X inX9 0 rfl rfl 3 (by decide) tw_551 rfl rfl d_Mo_reckon_93 ?_
      refine gj_icmp_ge (tgt := 143) X d_Mo_reckon_96 (by decide) (fun c0 => ?_) (fun c0 => ?_)
      · have hC := hC.1 c0
        refine gj_iload_n X d_Mo_reckon_143 rfl 3 rfl ?_
        refine gj_if_ne (tgt := 165) X d_Mo_reckon_144 (by decide) (fun c0 => ?_) (fun c0 => ?_)
        · have hC := hC.1 c0
          refine gj_iconst (v := 1) X d_Mo_reckon_165 (by decide) ?_
          refine gj_goto (tgt := 170) X d_Mo_reckon_166 (by decide) ?_
          refine gj_istore_n (L' := [(3, .int (1 : Int32)), (0, .ref (h 0)), (1, .int v_1), (2, .int v_2), (4, .int v_4), (5, .int v_5), (6, .long v_6), (8, .int v_8)]) X d_Mo_reckon_170 rfl (by decide) rfl ?_
          refine gj_aload_n X d_Mo_reckon_171 rfl 1 rfl ?_
          refine gj_get X inX9 0 rfl rfl 16 (by decide) tw_564 rfl rfl d_Mo_reckon_172 ?_
          refine gj_bipush (v := 17) X d_Mo_reckon_175 (by decide) ?_
          refine gj_iload X d_Mo_reckon_177 5 rfl ?_
          refine gj_imul X d_Mo_reckon_179 ?_
          refine gj_iload_n X d_Mo_reckon_180 rfl 3 rfl ?_
          refine gj_iadd X d_Mo_reckon_181 ?_
          refine gj_lload X d_Mo_reckon_182 6 rfl ?_
          refine gj_last (w' := (wM h cI cL cZ) (gs_L σ 2 (vp_updL (σ.2.2 2) (((17 : Int32) * v_5) + v_2).toNatClampNeg v_6))) X 12 1 rfl rfl hC.1 (set_wM_L2 h cI cL cZ σ _) d_Mo_reckon_184 ?_
          refine gj_topw (wof := (wM h cI cL cZ)) (fun σ10 eσ10 => ?_)
          have hC := hC.2 σ10 eσ10
          obtain ⟨v11, ev11⟩ : ∃ y : Int32, y = v_5 + 1 := ⟨_, rfl⟩
          have hC := hC v11 ev11
          refine gj_iinc (v := v11) (L' := [(5, .int v11), (3, .int (1 : Int32)), (0, .ref (h 0)), (1, .int v_1), (2, .int v_2), (4, .int v_4), (6, .long v_6), (8, .int v_8)]) X d_Mo_reckon_185 5 rfl (by rw [ev11]; rfl) (by decide) rfl ?_
          refine gj_goto (tgt := 77) X d_Mo_reckon_188 (by decide) ?_
          exact gj_loc [2, 3, 4, 1, 5, 0] rfl hC
        · have hC := hC.2 c0
          refine gj_lload X d_Mo_reckon_147 6 rfl ?_
          refine gj_aload_n X d_Mo_reckon_149 rfl 0 rfl ?_
          refine gj_get X inX9 0 rfl rfl 16 (by decide) tw_564 rfl rfl d_Mo_reckon_150 ?_
          refine gj_bipush (v := 17) X d_Mo_reckon_153 (by decide) ?_
          refine gj_iload X d_Mo_reckon_155 5 rfl ?_
          refine gj_imul X d_Mo_reckon_157 ?_
          refine gj_iload_n X d_Mo_reckon_158 rfl 2 rfl ?_
          refine gj_iadd X d_Mo_reckon_159 ?_
          refine gj_lald X 12 1 rfl rfl hC.1 d_Mo_reckon_160 ?_
          have hC := hC.2
          refine gj_lcmp_eq (tgt := 169) X d_Mo_reckon_161 d_Mo_reckon_162 (by decide) (fun c0 => ?_) (fun c0 => ?_)
          · have hC := hC.1 c0
            refine gj_iconst (v := 0) X d_Mo_reckon_169 (by decide) ?_
            refine gj_istore_n (L' := [(3, .int (0 : Int32)), (0, .ref (h 0)), (1, .int v_1), (2, .int v_2), (4, .int v_4), (5, .int v_5), (6, .long v_6), (8, .int v_8)]) X d_Mo_reckon_170 rfl (by decide) rfl ?_
            refine gj_aload_n X d_Mo_reckon_171 rfl 1 rfl ?_
            refine gj_get X inX9 0 rfl rfl 16 (by decide) tw_564 rfl rfl d_Mo_reckon_172 ?_
            refine gj_bipush (v := 17) X d_Mo_reckon_175 (by decide) ?_
            refine gj_iload X d_Mo_reckon_177 5 rfl ?_
            refine gj_imul X d_Mo_reckon_179 ?_
            refine gj_iload_n X d_Mo_reckon_180 rfl 3 rfl ?_
            refine gj_iadd X d_Mo_reckon_181 ?_
            refine gj_lload X d_Mo_reckon_182 6 rfl ?_
            refine gj_last (w' := (wM h cI cL cZ) (gs_L σ 2 (vp_updL (σ.2.2 2) (((17 : Int32) * v_5) + v_2).toNatClampNeg v_6))) X 12 1 rfl rfl hC.1 (set_wM_L2 h cI cL cZ σ _) d_Mo_reckon_184 ?_
            refine gj_topw (wof := (wM h cI cL cZ)) (fun σ12 eσ12 => ?_)
            have hC := hC.2 σ12 eσ12
            obtain ⟨v13, ev13⟩ : ∃ y : Int32, y = v_5 + 1 := ⟨_, rfl⟩
            have hC := hC v13 ev13
            refine gj_iinc (v := v13) (L' := [(5, .int v13), (3, .int (0 : Int32)), (0, .ref (h 0)), (1, .int v_1), (2, .int v_2), (4, .int v_4), (6, .long v_6), (8, .int v_8)]) X d_Mo_reckon_185 5 rfl (by rw [ev13]; rfl) (by decide) rfl ?_
            refine gj_goto (tgt := 77) X d_Mo_reckon_188 (by decide) ?_
            exact gj_loc [2, 3, 4, 1, 5, 0] rfl hC
          · have hC := hC.2 c0
            refine gj_iconst (v := 1) X d_Mo_reckon_165 (by decide) ?_
            refine gj_goto (tgt := 170) X d_Mo_reckon_166 (by decide) ?_
            refine gj_istore_n (L' := [(3, .int (1 : Int32)), (0, .ref (h 0)), (1, .int v_1), (2, .int v_2), (4, .int v_4), (5, .int v_5), (6, .long v_6), (8, .int v_8)]) X d_Mo_reckon_170 rfl (by decide) rfl ?_
            refine gj_aload_n X d_Mo_reckon_171 rfl 1 rfl ?_
            refine gj_get X inX9 0 rfl rfl 16 (by decide) tw_564 rfl rfl d_Mo_reckon_172 ?_
            refine gj_bipush (v := 17) X d_Mo_reckon_175 (by decide) ?_
            refine gj_iload X d_Mo_reckon_177 5 rfl ?_
            refine gj_imul X d_Mo_reckon_179 ?_
            refine gj_iload_n X d_Mo_reckon_180 rfl 3 rfl ?_
            refine gj_iadd X d_Mo_reckon_181 ?_
            refine gj_lload X d_Mo_reckon_182 6 rfl ?_
            refine gj_last (w' := (wM h cI cL cZ) (gs_L σ 2 (vp_updL (σ.2.2 2) (((17 : Int32) * v_5) + v_2).toNatClampNeg v_6))) X 12 1 rfl rfl hC.1 (set_wM_L2 h cI cL cZ σ _) d_Mo_reckon_184 ?_
            refine gj_topw (wof := (wM h cI cL cZ)) (fun σ14 eσ14 => ?_)
            have hC := hC.2 σ14 eσ14
            obtain ⟨v15, ev15⟩ : ∃ y : Int32, y = v_5 + 1 := ⟨_, rfl⟩
            have hC := hC v15 ev15
            refine gj_iinc (v := v15) (L' := [(5, .int v15), (3, .int (1 : Int32)), (0, .ref (h 0)), (1, .int v_1), (2, .int v_2), (4, .int v_4), (6, .long v_6), (8, .int v_8)]) X d_Mo_reckon_185 5 rfl (by rw [ev15]; rfl) (by decide) rfl ?_
            refine gj_goto (tgt := 77) X d_Mo_reckon_188 (by decide) ?_
            exact gj_loc [2, 3, 4, 1, 5, 0] rfl hC
      · have hC := hC.2 c0
        refine gj_aload_n X d_Mo_reckon_99 rfl 0 rfl ?_
        refine gj_get X inX9 0 rfl rfl 0 (by decide) tw_548 rfl rfl d_Mo_reckon_100 ?_
        refine gj_iload X d_Mo_reckon_103 7 rfl ?_
        refine gj_iald X 1 0 rfl rfl hC.1 d_Mo_reckon_105 ?_
        have hC := hC.2
        refine gj_iload X d_Mo_reckon_106 5 rfl ?_
        refine gj_icmp_ne (tgt := 137) X d_Mo_reckon_108 (by decide) (fun c0 => ?_) (fun c0 => ?_)
        · have hC := hC.1 c0
          obtain ⟨v16, ev16⟩ : ∃ y : Int32, y = v_8 + 1 := ⟨_, rfl⟩
          have hC := hC v16 ev16
          refine gj_iinc (v := v16) (L' := [(8, .int v16), (0, .ref (h 0)), (1, .int v_1), (2, .int v_2), (3, .int v_3), (4, .int v_4), (5, .int v_5), (6, .long v_6)]) X d_Mo_reckon_137 7 rfl (by rw [ev16]; rfl) (by decide) rfl ?_
          refine gj_goto (tgt := 90) X d_Mo_reckon_140 (by decide) ?_
          exact gj_loc [1, 2, 3, 4, 5, 6, 7, 0] rfl hC
        · have hC := hC.2 c0
          refine gj_iload X d_Mo_reckon_111 7 rfl ?_
          refine gj_iload_n X d_Mo_reckon_113 rfl 1 rfl ?_
          refine gj_icmp_eq (tgt := 137) X d_Mo_reckon_114 (by decide) (fun c0 => ?_) (fun c0 => ?_)
          · have hC := hC.1 c0
            obtain ⟨v17, ev17⟩ : ∃ y : Int32, y = v_8 + 1 := ⟨_, rfl⟩
            have hC := hC v17 ev17
            refine gj_iinc (v := v17) (L' := [(8, .int v17), (0, .ref (h 0)), (1, .int v_1), (2, .int v_2), (3, .int v_3), (4, .int v_4), (5, .int v_5), (6, .long v_6)]) X d_Mo_reckon_137 7 rfl (by rw [ev17]; rfl) (by decide) rfl ?_
            refine gj_goto (tgt := 90) X d_Mo_reckon_140 (by decide) ?_
            exact gj_loc [1, 2, 3, 4, 5, 6, 7, 0] rfl hC
          · have hC := hC.2 c0
            refine gj_aload_n X d_Mo_reckon_117 rfl 0 rfl ?_
            refine gj_iload X d_Mo_reckon_118 7 rfl ?_
            refine gj_iload_n X d_Mo_reckon_120 rfl 2 rfl ?_
            refine gj_callVV (As := [.int v_8, .int v_2]) (st := []) X (c_Mo_fill l dC dI h cI cL cZ σ v_8 v_2 _ hC) ⟨gj_cwB X tw_714 tw_10 tw_711 hd_Mo_fill rfl rfl ⟨Nat.le_of_ble_eq_true rfl, Nat.le_of_ble_eq_true rfl⟩, X.2.2.2.2.1 _ tw_713, X.2.2.2.2.1 _ ts_24⟩ 0 rfl rfl hA rfl (Nat.le_of_ble_eq_true rfl) ⟨Nat.zero_le _, Nat.zero_le _⟩ d_Mo_reckon_121 rfl (fun σ18 hC => ?_)
            refine gj_lload X d_Mo_reckon_124 6 rfl ?_
            refine gj_aload_n X d_Mo_reckon_126 rfl 0 rfl ?_
            refine gj_get X inX9 0 rfl rfl 19 (by decide) tw_567 rfl rfl d_Mo_reckon_127 ?_
            refine gj_iload_n X d_Mo_reckon_130 rfl 2 rfl ?_
            refine gj_lald X 13 1 rfl rfl hC.1 d_Mo_reckon_131 ?_
            have hC := hC.2
            refine gj_callSL (As := [.long v_6, .long (σ18.2.2 3 v_2.toNatClampNeg)]) (st := []) X (c_Mo_sum l dC dI h cI cL cZ σ18 v_6 (σ18.2.2 3 v_2.toNatClampNeg) _ hC) ⟨gj_cwB X tw_726 tw_10 tw_724 hd_Mo_sum rfl rfl ⟨Nat.le_of_ble_eq_true rfl, Nat.le_of_ble_eq_true rfl⟩, X.2.2.2.2.1 _ tw_725⟩ hA rfl (Nat.le_of_ble_eq_true rfl) ⟨Nat.zero_le _, Nat.zero_le _⟩ d_Mo_reckon_132 rfl (fun r20 σ19 hC => ?_)
            refine gj_lstore (L' := [(6, .long r20), (0, .ref (h 0)), (1, .int v_1), (2, .int v_2), (3, .int v_3), (4, .int v_4), (5, .int v_5), (8, .int v_8)]) X d_Mo_reckon_135 (by decide) rfl ?_
            obtain ⟨v21, ev21⟩ : ∃ y : Int32, y = v_8 + 1 := ⟨_, rfl⟩
            have hC := hC v21 ev21
            refine gj_iinc (v := v21) (L' := [(8, .int v21), (6, .long r20), (0, .ref (h 0)), (1, .int v_1), (2, .int v_2), (3, .int v_3), (4, .int v_4), (5, .int v_5)]) X d_Mo_reckon_137 7 rfl (by rw [ev21]; rfl) (by decide) rfl ?_
            refine gj_goto (tgt := 90) X d_Mo_reckon_140 (by decide) ?_
            exact gj_loc [2, 3, 4, 5, 6, 7, 1, 0] rfl hC)
  refine gj_aload_n X d_Mo_reckon_0 rfl 0 rfl ?_
  refine gj_get X inX9 0 rfl rfl 17 (by decide) tw_565 rfl rfl d_Mo_reckon_1 ?_
  refine gj_if_eq (tgt := 16) X d_Mo_reckon_4 (by decide) (fun c0 => ?_) (fun c0 => ?_)
  · have hC := hC.1 c0
    refine gj_aload_n X d_Mo_reckon_16 rfl 0 rfl ?_
    refine gj_iconst (v := 1) X d_Mo_reckon_17 (by decide) ?_
    refine gj_put (w' := (wM h cI cL cZ) (gs_I σ 5 (1 : Int32))) X inX9 tyX9 tyX9_ok nmX9 0 rfl rfl 17 (by decide) tw_565 rfl rfl (tyX9_ok 17 (by decide)) rfl rfl (Nat.le_of_ble_eq_true rfl) (set_wM_I5 h cI cL cZ σ _) d_Mo_reckon_18 ?_
    refine gj_topw (wof := (wM h cI cL cZ)) (fun σ1 eσ1 => ?_)
    have hC := hC σ1 eσ1
    refine gj_aload_n X d_Mo_reckon_21 rfl 0 rfl ?_
    refine gj_iload_n X d_Mo_reckon_22 rfl 1 rfl ?_
    refine gj_put (w' := (wM h cI cL cZ) (gs_I σ1 6 a0)) X inX9 tyX9 tyX9_ok nmX9 0 rfl rfl 18 (by decide) tw_566 rfl rfl (tyX9_ok 18 (by decide)) rfl rfl (Nat.le_of_ble_eq_true rfl) (set_wM_I6 h cI cL cZ σ1 _) d_Mo_reckon_23 ?_
    refine gj_topw (wof := (wM h cI cL cZ)) (fun σ2 eσ2 => ?_)
    have hC := hC σ2 eσ2
    refine gj_iconst (v := 0) X d_Mo_reckon_26 (by decide) ?_
    refine gj_istore_n (L' := [(2, .int (0 : Int32)), (0, .ref (h 0)), (1, .int a0)]) X d_Mo_reckon_27 rfl (by decide) rfl ?_
    exact gj_loc [1, 2, 0] rfl hC
  · have hC := hC.2 c0
    refine gj_aload_n X d_Mo_reckon_7 rfl 0 rfl ?_
    refine gj_get X inX9 0 rfl rfl 18 (by decide) tw_566 rfl rfl d_Mo_reckon_8 ?_
    refine gj_iload_n X d_Mo_reckon_11 rfl 1 rfl ?_
    refine gj_icmp_ne (tgt := 16) X d_Mo_reckon_12 (by decide) (fun c0 => ?_) (fun c0 => ?_)
    · have hC := hC.1 c0
      refine gj_aload_n X d_Mo_reckon_16 rfl 0 rfl ?_
      refine gj_iconst (v := 1) X d_Mo_reckon_17 (by decide) ?_
      refine gj_put (w' := (wM h cI cL cZ) (gs_I σ 5 (1 : Int32))) X inX9 tyX9 tyX9_ok nmX9 0 rfl rfl 17 (by decide) tw_565 rfl rfl (tyX9_ok 17 (by decide)) rfl rfl (Nat.le_of_ble_eq_true rfl) (set_wM_I5 h cI cL cZ σ _) d_Mo_reckon_18 ?_
      refine gj_topw (wof := (wM h cI cL cZ)) (fun σ3 eσ3 => ?_)
      have hC := hC σ3 eσ3
      refine gj_aload_n X d_Mo_reckon_21 rfl 0 rfl ?_
      refine gj_iload_n X d_Mo_reckon_22 rfl 1 rfl ?_
      refine gj_put (w' := (wM h cI cL cZ) (gs_I σ3 6 a0)) X inX9 tyX9 tyX9_ok nmX9 0 rfl rfl 18 (by decide) tw_566 rfl rfl (tyX9_ok 18 (by decide)) rfl rfl (Nat.le_of_ble_eq_true rfl) (set_wM_I6 h cI cL cZ σ3 _) d_Mo_reckon_23 ?_
      refine gj_topw (wof := (wM h cI cL cZ)) (fun σ4 eσ4 => ?_)
      have hC := hC σ4 eσ4
      refine gj_iconst (v := 0) X d_Mo_reckon_26 (by decide) ?_
      refine gj_istore_n (L' := [(2, .int (0 : Int32)), (0, .ref (h 0)), (1, .int a0)]) X d_Mo_reckon_27 rfl (by decide) rfl ?_
      exact gj_loc [1, 2, 0] rfl hC
    · have hC := hC.2 c0
      exact gj_vret X hr hlk hC d_Mo_reckon_15
