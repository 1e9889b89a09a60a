abbrev rm_Mo_row : Room := { frames := 0, cells := 0, slots := 0, locals := 0 }
set_option maxHeartbeats 4000000 in
set_option maxRecDepth 100000 in
theorem c_Mo_row (l : Launch) (dC : Nat → ClassId) (dI : Nat → Nat → Nat) (h : Nat → Nat) (cI cL cZ : ClassId) (σ : gs_St) (a0 : Int32) (K : Int32 → gs_St → Prop) (hC : C_Mo_row a0 σ K) : gj_MI l y_Mo_row (gj_ws y_Mo_row b_Mo_row 2 (some .int)) rm_Mo_row (dC, dI) gs_C (gs_T cI cL cZ) ((wM h cI cL cZ) σ) (wM h cI cL cZ) [.ref (h 0), .int a0] K := by
  refine gj_enterI (by decide) (Nat.le_of_ble_eq_true rfl) (fun p e s m args below meth c A X hr hlk hA hnm => ?_)
  change gj_J p l e rm_Mo_row s m args below meth c 0 0 (MQ below (va_Qi K (gj_at (dC, dI) gs_C (gs_T cI cL cZ) (wM h cI cL cZ) A) A) args s 0 0 A) (dC, dI) gs_C A 2 0 [(0, .ref (h 0)), (1, .int a0)] [] ((wM h cI cL cZ) σ)
  refine gj_iload_n X d_Mo_row_0 rfl 1 rfl ?_
  refine gj_if_lt (tgt := 12) X d_Mo_row_1 (by decide) (fun c0 => ?_) (fun c0 => ?_)
  · have hC := hC.1 c0
    refine gj_iconst (v := -1) X d_Mo_row_12 (by decide) ?_
    refine gj_goto (tgt := 22) X d_Mo_row_13 (by decide) ?_
    exact gj_iret X hr hlk hC d_Mo_row_22
  · have hC := hC.2 c0
    refine gj_iload_n X d_Mo_row_4 rfl 1 rfl ?_
    refine gj_aload_n X d_Mo_row_5 rfl 0 rfl ?_
    refine gj_get X inX9 0 rfl rfl 10 (by decide) tw_558 rfl rfl d_Mo_row_6 ?_
    refine gj_icmp_lt (tgt := 16) X d_Mo_row_9 (by decide) (fun c0 => ?_) (fun c0 => ?_)
    · have hC := hC.1 c0
      refine gj_aload_n X d_Mo_row_16 rfl 0 rfl ?_
      refine gj_get X inX9 0 rfl rfl 8 (by decide) tw_556 rfl rfl d_Mo_row_17 ?_
      refine gj_iload_n X d_Mo_row_20 rfl 1 rfl ?_
      refine gj_iald X 6 0 rfl rfl hC.1 d_Mo_row_21 ?_
      have hC := hC.2
      exact gj_iret X hr hlk hC d_Mo_row_22
    · have hC := hC.2 c0
      refine gj_iconst (v := -1) X d_Mo_row_12 (by decide) ?_
      refine gj_goto (tgt := 22) X d_Mo_row_13 (by decide) ?_
      exact gj_iret X hr hlk hC d_Mo_row_22
abbrev rm_Mo_leaf : Room := { frames := 0, cells := 0, slots := 0, locals := 0 }
set_option maxHeartbeats 4000000 in
set_option maxRecDepth 100000 in
theorem c_Mo_leaf (l : Launch) (dC : Nat → ClassId) (dI : Nat → Nat → Nat) (h : Nat → Nat) (cI cL cZ : ClassId) (σ : gs_St) (a0 : Int32) (K : Int32 → gs_St → Prop) (hC : C_Mo_leaf a0 σ K) : gj_MI l y_Mo_leaf (gj_ws y_Mo_leaf b_Mo_leaf 2 (some .int)) rm_Mo_leaf (dC, dI) gs_C (gs_T cI cL cZ) ((wM h cI cL cZ) σ) (wM h cI cL cZ) [.ref (h 0), .int a0] K := by
  refine gj_enterI (by decide) (Nat.le_of_ble_eq_true rfl) (fun p e s m args below meth c A X hr hlk hA hnm => ?_)
  change gj_J p l e rm_Mo_leaf s m args below meth c 0 0 (MQ below (va_Qi K (gj_at (dC, dI) gs_C (gs_T cI cL cZ) (wM h cI cL cZ) A) A) args s 0 0 A) (dC, dI) gs_C A 2 0 [(0, .ref (h 0)), (1, .int a0)] [] ((wM h cI cL cZ) σ)
  refine gj_iload_n X d_Mo_leaf_0 rfl 1 rfl ?_
  refine gj_if_lt (tgt := 12) X d_Mo_leaf_1 (by decide) (fun c0 => ?_) (fun c0 => ?_)
  · have hC := hC.1 c0
    refine gj_iconst (v := -1) X d_Mo_leaf_12 (by decide) ?_
    refine gj_goto (tgt := 22) X d_Mo_leaf_13 (by decide) ?_
    exact gj_iret X hr hlk hC d_Mo_leaf_22
  · have hC := hC.2 c0
    refine gj_iload_n X d_Mo_leaf_4 rfl 1 rfl ?_
    refine gj_aload_n X d_Mo_leaf_5 rfl 0 rfl ?_
    refine gj_get X inX9 0 rfl rfl 11 (by decide) tw_559 rfl rfl d_Mo_leaf_6 ?_
    refine gj_icmp_lt (tgt := 16) X d_Mo_leaf_9 (by decide) (fun c0 => ?_) (fun c0 => ?_)
    · have hC := hC.1 c0
      refine gj_aload_n X d_Mo_leaf_16 rfl 0 rfl ?_
      refine gj_get X inX9 0 rfl rfl 9 (by decide) tw_557 rfl rfl d_Mo_leaf_17 ?_
      refine gj_iload_n X d_Mo_leaf_20 rfl 1 rfl ?_
      refine gj_iald X 7 0 rfl rfl hC.1 d_Mo_leaf_21 ?_
      have hC := hC.2
      exact gj_iret X hr hlk hC d_Mo_leaf_22
    · have hC := hC.2 c0
      refine gj_iconst (v := -1) X d_Mo_leaf_12 (by decide) ?_
      refine gj_goto (tgt := 22) X d_Mo_leaf_13 (by decide) ?_
      exact gj_iret X hr hlk hC d_Mo_leaf_22
abbrev rm_Mo_list : Room := { frames := 0, cells := 0, slots := 0, locals := 0 }
set_option maxHeartbeats 4000000 in
set_option maxRecDepth 100000 in
theorem c_Mo_list (l : Launch) (dC : Nat → ClassId) (dI : Nat → Nat → Nat) (h : Nat → Nat) (cI cL cZ : ClassId) (σ : gs_St) (a0 : Int32) (K : Int32 → gs_St → Prop) (hC : C_Mo_list a0 σ K) : gj_MI l y_Mo_list (gj_ws y_Mo_list b_Mo_list 2 (some .int)) rm_Mo_list (dC, dI) gs_C (gs_T cI cL cZ) ((wM h cI cL cZ) σ) (wM h cI cL cZ) [.ref (h 0), .int a0] K := by
  refine gj_enterI (by decide) (Nat.le_of_ble_eq_true rfl) (fun p e s m args below meth c A X hr hlk hA hnm => ?_)
  change gj_J p l e rm_Mo_list s m args below meth c 0 0 (MQ below (va_Qi K (gj_at (dC, dI) gs_C (gs_T cI cL cZ) (wM h cI cL cZ) A) A) args s 0 0 A) (dC, dI) gs_C A 2 0 [(0, .ref (h 0)), (1, .int a0)] [] ((wM h cI cL cZ) σ)
  refine gj_aload_n X d_Mo_list_0 rfl 0 rfl ?_
  refine gj_get X inX9 0 rfl rfl 7 (by decide) tw_555 rfl rfl d_Mo_list_1 ?_
  refine gj_sipush (v := 200) X d_Mo_list_4 (by decide) ?_
  refine gj_icmp_ne (tgt := 12) X d_Mo_list_7 (by decide) (fun c0 => ?_) (fun c0 => ?_)
  · have hC := hC.1 c0
    refine gj_aload_n X d_Mo_list_12 rfl 0 rfl ?_
    refine gj_get X inX9 0 rfl rfl 6 (by decide) tw_554 rfl rfl d_Mo_list_13 ?_
    refine gj_aload_n X d_Mo_list_16 rfl 0 rfl ?_
    refine gj_get X inX9 0 rfl rfl 7 (by decide) tw_555 rfl rfl d_Mo_list_17 ?_
    refine gj_iload_n X d_Mo_list_20 rfl 1 rfl ?_
    refine gj_iast (w' := (wM h cI cL cZ) (gs_A σ 4 (upd (σ.2.1 4) (σ.1 2).toNatClampNeg a0))) X 5 0 rfl rfl hC.1 (set_wM_A4 h cI cL cZ σ _) d_Mo_list_21 ?_
    refine gj_topw (wof := (wM h cI cL cZ)) (fun σ1 eσ1 => ?_)
    have hC := hC.2 σ1 eσ1
    refine gj_aload_n X d_Mo_list_22 rfl 0 rfl ?_
    refine gj_dup X d_Mo_list_23 rfl ?_
    refine gj_get X inX9 0 rfl rfl 7 (by decide) tw_555 rfl rfl d_Mo_list_24 ?_
    refine gj_iconst (v := 1) X d_Mo_list_27 (by decide) ?_
    refine gj_iadd X d_Mo_list_28 ?_
    refine gj_put (w' := (wM h cI cL cZ) (gs_I σ1 2 ((σ1.1 2) + (1 : Int32)))) X inX9 tyX9 tyX9_ok nmX9 0 rfl rfl 7 (by decide) tw_555 rfl rfl (tyX9_ok 7 (by decide)) rfl rfl (Nat.le_of_ble_eq_true rfl) (set_wM_I2 h cI cL cZ σ1 _) d_Mo_list_29 ?_
    refine gj_topw (wof := (wM h cI cL cZ)) (fun σ2 eσ2 => ?_)
    have hC := hC σ2 eσ2
    refine gj_aload_n X d_Mo_list_32 rfl 0 rfl ?_
    refine gj_get X inX9 0 rfl rfl 7 (by decide) tw_555 rfl rfl d_Mo_list_33 ?_
    exact gj_iret X hr hlk hC d_Mo_list_36
  · have hC := hC.2 c0
    refine gj_iconst (v := -1) X d_Mo_list_10 (by decide) ?_
    exact gj_iret X hr hlk hC d_Mo_list_11
abbrev rm_Mo_join : Room := { frames := 3, cells := 0, slots := 0, locals := 69 }
set_option maxHeartbeats 4000000 in
set_option maxRecDepth 100000 in
theorem c_Mo_join (l : Launch) (dC : Nat → ClassId) (dI : Nat → Nat → Nat) (h : Nat → Nat) (cI cL cZ : ClassId) (σ : gs_St) (a0 : Int32) (K : Int32 → gs_St → Prop) (hC : C_Mo_join a0 σ K) : gj_MI l y_Mo_join (gj_ws y_Mo_join b_Mo_join 9 (some .boolean)) rm_Mo_join (dC, dI) gs_C (gs_T cI cL cZ) ((wM h cI cL cZ) σ) (wM h cI cL cZ) [.ref (h 0), .int a0] (fun r u => K r u ∧ (r = 0 ∨ r = 1)) := by
  refine gj_enterZ (by decide) (Nat.le_of_ble_eq_true rfl) (fun p e s m args below meth c A X hr hlk hA hnm => ?_)
  change gj_J p l e rm_Mo_join s m args below meth c 0 0 (MQ below (va_Qi (fun r u => K r u ∧ (r = 0 ∨ r = 1)) (gj_at (dC, dI) gs_C (gs_T cI cL cZ) (wM h cI cL cZ) A) A) args s 0 0 A) (dC, dI) gs_C A 9 0 [(0, .ref (h 0)), (1, .int a0)] [] ((wM h cI cL cZ) σ)
  have hC := hC
    (fun (v_1 : Int32) (v_2 : Int32) (v_3 : Int32) (v_4 : Int32) (σ : gs_St) => gj_J p l e rm_Mo_join s m args below meth c 0 0 (MQ below (va_Qi (fun r u => K r u ∧ (r = 0 ∨ r = 1)) (gj_at (dC, dI) gs_C (gs_T cI cL cZ) (wM h cI cL cZ) A) A) args s 0 0 A) (dC, dI) gs_C A 9 10 [(0, .ref (h 0)), (1, .int v_1), (2, .int v_2), (3, .int v_3), (4, .int v_4)] [] ((wM h cI cL cZ) σ))
    (fun (v_1 : Int32) (v_2 : Int32) (v_3 : Int32) (v_4 : Int64) (v_6 : Int32) (σ : gs_St) => gj_J p l e rm_Mo_join s m args below meth c 0 0 (MQ below (va_Qi (fun r u => K r u ∧ (r = 0 ∨ r = 1)) (gj_at (dC, dI) gs_C (gs_T cI cL cZ) (wM h cI cL cZ) A) A) args s 0 0 A) (dC, dI) gs_C A 9 130 [(0, .ref (h 0)), (1, .int v_1), (2, .int v_2), (3, .int v_3), (4, .long v_4), (6, .int v_6)] [] ((wM h cI cL cZ) σ))
    (fun (v_1 : Int32) (v_2 : Int32) (v_3 : Int32) (v_4 : Int64) (v_6 : Int32) (v_7 : Int32) (σ : gs_St) => gj_J p l e rm_Mo_join s m args below meth c 0 0 (MQ below (va_Qi (fun r u => K r u ∧ (r = 0 ∨ r = 1)) (gj_at (dC, dI) gs_C (gs_T cI cL cZ) (wM h cI cL cZ) A) A) args s 0 0 A) (dC, dI) gs_C A 9 190 [(0, .ref (h 0)), (1, .int v_1), (2, .int v_2), (3, .int v_3), (4, .long v_4), (6, .int v_6), (7, .int v_7)] [] ((wM h cI cL cZ) σ))
    (fun (v_1 : Int32) (v_2 : Int32) (v_3 : Int32) (v_4 : Int64) (v_6 : Int32) (v_7 : Int32) (v_8 : Int32) (σ : gs_St) => gj_J p l e rm_Mo_join s m args below meth c 0 0 (MQ below (va_Qi (fun r u => K r u ∧ (r = 0 ∨ r = 1)) (gj_at (dC, dI) gs_C (gs_T cI cL cZ) (wM h cI cL cZ) A) A) args s 0 0 A) (dC, dI) gs_C A 9 204 [(0, .ref (h 0)), (1, .int v_1), (2, .int v_2), (3, .int v_3), (4, .long v_4), (6, .int v_6), (7, .int v_7), (8, .int v_8)] [] ((wM h cI cL cZ) σ))
    (by
      intro v_1 v_2 v_3 v_4 σ hC
      refine gj_iload X d_Mo_join_10 4 rfl ?_
      refine gj_aload_n X d_Mo_join_12 rfl 0 rfl ?_
      refine gj_get X inX9 0 rfl rfl 1 (by decide) tw_549 rfl rfl d_Mo_join_13 ?_
      refine gj_iload_n X d_Mo_join_16 rfl 1 rfl ?_
      refine gj_iald X 2 0 rfl rfl hC.1 d_Mo_join_17 ?_
      have hC := hC.2
      refine gj_icmp_ge (tgt := 116) X d_Mo_join_18 (by decide) (fun c0 => ?_) (fun c0 => ?_)
      · have hC := hC.1 c0
        refine gj_iload_n X d_Mo_join_116 rfl 2 rfl ?_
        refine gj_bipush (v := 17) X d_Mo_join_117 (by decide) ?_
        refine gj_icmp_lt (tgt := 124) X d_Mo_join_119 (by decide) (fun c0 => ?_) (fun c0 => ?_)
        · have hC := hC.1 c0
          refine gj_lconst (v := 0) X d_Mo_join_124 (by decide) ?_
          refine gj_lstore (L' := [(4, .long (0 : Int64)), (0, .ref (h 0)), (1, .int v_1), (2, .int v_2), (3, .int v_3)]) X d_Mo_join_125 (by decide) rfl ?_
          refine gj_iconst (v := 0) X d_Mo_join_127 (by decide) ?_
          refine gj_istore (L' := [(6, .int (0 : Int32)), (4, .long (0 : Int64)), (0, .ref (h 0)), (1, .int v_1), (2, .int v_2), (3, .int v_3)]) X d_Mo_join_128 (by decide) rfl ?_
          exact gj_loc [2, 3, 4, 5, 1, 0] rfl hC
        · have hC := hC.2 c0
          refine gj_iconst (v := 0) X d_Mo_join_122 (by decide) ?_
          exact gj_zret X hr hlk (by decide) ⟨hC, Or.inl rfl⟩ d_Mo_join_123
      · have hC := hC.2 c0
        refine gj_aload_n X d_Mo_join_21 rfl 0 rfl ?_
        refine gj_iload_n X d_Mo_join_22 rfl 1 rfl ?_
        refine gj_iload X d_Mo_join_23 4 rfl ?_
        refine gj_callVI (As := [.int v_1, .int v_4]) (st := []) X (c_Mo_at l dC dI h cI cL cZ σ v_1 v_4 _ hC) ⟨gj_cwB X tw_664 tw_10 tw_661 hd_Mo_at rfl rfl ⟨Nat.le_of_ble_eq_true rfl, Nat.le_of_ble_eq_true rfl⟩, X.2.2.2.2.1 _ tw_663, X.2.2.2.2.1 _ ts_17⟩ 0 rfl rfl hA rfl (Nat.le_of_ble_eq_true rfl) ⟨Nat.zero_le _, Nat.zero_le _⟩ d_Mo_join_25 rfl (fun r3 σ2 hC => ?_)
        refine gj_istore (L' := [(5, .int r3), (0, .ref (h 0)), (1, .int v_1), (2, .int v_2), (3, .int v_3), (4, .int v_4)]) X d_Mo_join_28 (by decide) rfl ?_
        refine gj_aload_n X d_Mo_join_30 rfl 1 rfl ?_
        refine gj_get X inX9 0 rfl rfl 26 (by decide) tw_574 rfl rfl d_Mo_join_31 ?_
        refine gj_iload X d_Mo_join_34 5 rfl ?_
        refine gj_iconst (v := 1) X d_Mo_join_36 (by decide) ?_
        refine gj_iast (w' := (wM h cI cL cZ) (gs_A σ2 13 (upd (σ2.2.1 13) v_4.toNatClampNeg (1 : Int32)))) X 19 0 rfl rfl hC.1 (set_wM_A13 h cI cL cZ σ2 _) d_Mo_join_37 ?_
        refine gj_topw (wof := (wM h cI cL cZ)) (fun σ4 eσ4 => ?_)
        have hC := hC.2 σ4 eσ4
        refine gj_aload_n X d_Mo_join_38 rfl 1 rfl ?_
        refine gj_get X inX9 0 rfl rfl 27 (by decide) tw_575 rfl rfl d_Mo_join_39 ?_
        refine gj_iload X d_Mo_join_42 5 rfl ?_
        refine gj_lconst (v := 0) X d_Mo_join_44 (by decide) ?_
        refine gj_last (w' := (wM h cI cL cZ) (gs_L σ4 5 (vp_updL (σ4.2.2 5) v_4.toNatClampNeg (0 : Int64)))) X 20 1 rfl rfl hC.1 (set_wM_L5 h cI cL cZ σ4 _) d_Mo_join_45 ?_
        refine gj_topw (wof := (wM h cI cL cZ)) (fun σ5 eσ5 => ?_)
        have hC := hC.2 σ5 eσ5
        refine gj_iload X d_Mo_join_46 0 rfl ?_
        refine gj_callSI (As := [.int r3]) (st := []) X (c_Mo_isNonterminal l dC dI h cI cL cZ σ5 r3 _ hC) ⟨gj_cwB X tw_644 tw_10 tw_642 hd_Mo_isNonterminal rfl rfl ⟨Nat.le_of_ble_eq_true rfl, Nat.le_of_ble_eq_true rfl⟩, X.2.2.2.2.1 _ tw_643⟩ hA rfl (Nat.le_of_ble_eq_true rfl) ⟨Nat.zero_le _, Nat.zero_le _⟩ d_Mo_join_48 rfl (fun r7 σ6 hC => ?_)
        obtain ⟨hC, hb⟩ := hC
        refine gj_if_eq (tgt := 100) X d_Mo_join_51 (by decide) (fun c0 => ?_) (fun c0 => ?_)
        · have hC := hC.1 c0
          refine gj_iload_n X d_Mo_join_100 rfl 3 rfl ?_
          refine gj_aload_n X d_Mo_join_101 rfl 1 rfl ?_
          refine gj_get X inX9 0 rfl rfl 26 (by decide) tw_574 rfl rfl d_Mo_join_102 ?_
          refine gj_iload X d_Mo_join_105 5 rfl ?_
          refine gj_iald X 19 0 rfl rfl hC.1 d_Mo_join_107 ?_
          have hC := hC.2
          refine gj_iadd X d_Mo_join_108 ?_
          refine gj_topi (fun v8 ev8 => ?_)
          have hC := hC v8 ev8
          refine gj_istore_n (L' := [(2, .int v8), (5, .int r3), (0, .ref (h 0)), (1, .int v_1), (3, .int v_3), (4, .int v_4)]) X d_Mo_join_109 rfl (by decide) rfl ?_
          obtain ⟨v9, ev9⟩ : ∃ y : Int32, y = v_4 + 1 := ⟨_, rfl⟩
          have hC := hC v9 ev9
          refine gj_iinc (v := v9) (L' := [(4, .int v9), (2, .int v8), (5, .int r3), (0, .ref (h 0)), (1, .int v_1), (3, .int v_3)]) X d_Mo_join_110 5 rfl (by rw [ev9]; rfl) (by decide) rfl ?_
          refine gj_goto (tgt := 10) X d_Mo_join_113 (by decide) ?_
          exact gj_loc [3, 4, 1, 5, 0] rfl hC
        · have hC := hC.2 c0
          obtain ⟨v10, ev10⟩ : ∃ y : Int32, y = v_3 + (-1) := ⟨_, rfl⟩
          have hC := hC v10 ev10
          refine gj_iinc (v := v10) (L' := [(3, .int v10), (5, .int r3), (0, .ref (h 0)), (1, .int v_1), (2, .int v_2), (4, .int v_4)]) X d_Mo_join_54 4 rfl (by rw [ev10]; rfl) (by decide) rfl ?_
          refine gj_iload_n X d_Mo_join_57 rfl 0 rfl ?_
          refine gj_if_lt (tgt := 72) X d_Mo_join_58 (by decide) (fun c0 => ?_) (fun c0 => ?_)
          · have hC := hC.1 c0
            refine gj_iconst (v := 0) X d_Mo_join_72 (by decide) ?_
            exact gj_zret X hr hlk (by decide) ⟨hC, Or.inl rfl⟩ d_Mo_join_73
          · have hC := hC.2 c0
            refine gj_aload_n X d_Mo_join_61 rfl 2 rfl ?_
            refine gj_get X inX9 0 rfl rfl 20 (by decide) tw_568 rfl rfl d_Mo_join_62 ?_
            refine gj_iload_n X d_Mo_join_65 rfl 0 rfl ?_
            refine gj_iald X 14 0 rfl rfl hC.1 d_Mo_join_66 ?_
            have hC := hC.2
            refine gj_iload X d_Mo_join_67 1 rfl ?_
            refine gj_icmp_eq (tgt := 74) X d_Mo_join_69 (by decide) (fun c0 => ?_) (fun c0 => ?_)
            · have hC := hC.1 c0
              refine gj_aload_n X d_Mo_join_74 rfl 2 rfl ?_
              refine gj_get X inX9 0 rfl rfl 26 (by decide) tw_574 rfl rfl d_Mo_join_75 ?_
              refine gj_iload X d_Mo_join_78 5 rfl ?_
              refine gj_aload_n X d_Mo_join_80 rfl 2 rfl ?_
              refine gj_get X inX9 0 rfl rfl 21 (by decide) tw_569 rfl rfl d_Mo_join_81 ?_
              refine gj_iload_n X d_Mo_join_84 rfl 0 rfl ?_
              refine gj_iald X 15 0 rfl rfl hC.1 d_Mo_join_85 ?_
              have hC := hC.2
              refine gj_iast (w' := (wM h cI cL cZ) (gs_A σ6 13 (upd (σ6.2.1 13) v_4.toNatClampNeg (σ6.2.1 10 v10.toNatClampNeg)))) X 19 0 rfl rfl hC.1 (set_wM_A13 h cI cL cZ σ6 _) d_Mo_join_86 ?_
              refine gj_topw (wof := (wM h cI cL cZ)) (fun σ11 eσ11 => ?_)
              have hC := hC.2 σ11 eσ11
              refine gj_aload_n X d_Mo_join_87 rfl 2 rfl ?_
              refine gj_get X inX9 0 rfl rfl 27 (by decide) tw_575 rfl rfl d_Mo_join_88 ?_
              refine gj_iload X d_Mo_join_91 5 rfl ?_
              refine gj_aload_n X d_Mo_join_93 rfl 2 rfl ?_
              refine gj_get X inX9 0 rfl rfl 22 (by decide) tw_570 rfl rfl d_Mo_join_94 ?_
              refine gj_iload_n X d_Mo_join_97 rfl 0 rfl ?_
              refine gj_lald X 16 1 rfl rfl hC.1 d_Mo_join_98 ?_
              have hC := hC.2
              refine gj_last (w' := (wM h cI cL cZ) (gs_L σ11 5 (vp_updL (σ11.2.2 5) v_4.toNatClampNeg (σ11.2.2 4 v10.toNatClampNeg)))) X 20 1 rfl rfl hC.1 (set_wM_L5 h cI cL cZ σ11 _) d_Mo_join_99 ?_
              refine gj_topw (wof := (wM h cI cL cZ)) (fun σ12 eσ12 => ?_)
              have hC := hC.2 σ12 eσ12
              refine gj_iload_n X d_Mo_join_100 rfl 4 rfl ?_
              refine gj_aload_n X d_Mo_join_101 rfl 2 rfl ?_
              refine gj_get X inX9 0 rfl rfl 26 (by decide) tw_574 rfl rfl d_Mo_join_102 ?_
              refine gj_iload X d_Mo_join_105 5 rfl ?_
              refine gj_iald X 19 0 rfl rfl hC.1 d_Mo_join_107 ?_
              have hC := hC.2
              refine gj_iadd X d_Mo_join_108 ?_
              refine gj_topi (fun v13 ev13 => ?_)
              have hC := hC v13 ev13
              refine gj_istore_n (L' := [(2, .int v13), (3, .int v10), (5, .int r3), (0, .ref (h 0)), (1, .int v_1), (4, .int v_4)]) X d_Mo_join_109 rfl (by decide) rfl ?_
              obtain ⟨v14, ev14⟩ : ∃ y : Int32, y = v_4 + 1 := ⟨_, rfl⟩
              have hC := hC v14 ev14
              refine gj_iinc (v := v14) (L' := [(4, .int v14), (2, .int v13), (3, .int v10), (5, .int r3), (0, .ref (h 0)), (1, .int v_1)]) X d_Mo_join_110 5 rfl (by rw [ev14]; rfl) (by decide) rfl ?_
              refine gj_goto (tgt := 10) X d_Mo_join_113 (by decide) ?_
              exact gj_loc [4, 5, 1, 2, 0] rfl hC
            · have hC := hC.2 c0
              refine gj_iconst (v := 0) X d_Mo_join_72 (by decide) ?_
              exact gj_zret X hr hlk (by decide) ⟨hC, Or.inl rfl⟩ d_Mo_join_73)
    (by
      intro v_1 v_2 v_3 v_4 v_6 σ hC
      refine gj_iload X d_Mo_join_130 5 rfl ?_
      refine gj_iload_n X d_Mo_join_132 rfl 1 rfl ?_
      refine gj_icmp_ge (tgt := 178) X d_Mo_join_133 (by decide) (fun c0 => ?_) (fun c0 => ?_)
      · have hC := hC.1 c0
        refine gj_aload_n X d_Mo_join_178 rfl 0 rfl ?_
        refine gj_iload_n X d_Mo_join_179 rfl 1 rfl ?_
        refine gj_iload_n X d_Mo_join_180 rfl 2 rfl ?_
        refine gj_callVV (As := [.int v_1, .int v_2]) (st := []) X (c_Mo_fill l dC dI h cI cL cZ σ v_1 v_2 _ hC) ⟨gj_cwB X tw_714 tw_10 tw_711 hd_Mo_fill rfl rfl ⟨Nat.le_of_ble_eq_true rfl, Nat.le_of_ble_eq_true rfl⟩, X.2.2.2.2.1 _ tw_713, X.2.2.2.2.1 _ ts_24⟩ 0 rfl rfl hA rfl (Nat.le_of_ble_eq_true rfl) ⟨Nat.zero_le _, Nat.zero_le _⟩ d_Mo_join_181 rfl (fun σ15 hC => ?_)
        refine gj_iload_n X d_Mo_join_184 rfl 2 rfl ?_
        refine gj_istore (L' := [(6, .int v_2), (0, .ref (h 0)), (1, .int v_1), (2, .int v_2), (3, .int v_3), (4, .long v_4)]) X d_Mo_join_185 (by decide) rfl ?_
        refine gj_iconst (v := 0) X d_Mo_join_187 (by decide) ?_
        refine gj_istore (L' := [(7, .int (0 : Int32)), (6, .int v_2), (0, .ref (h 0)), (1, .int v_1), (2, .int v_2), (3, .int v_3), (4, .long v_4)]) X d_Mo_join_188 (by decide) rfl ?_
        exact gj_loc [2, 3, 4, 5, 6, 1, 0] rfl hC
      · have hC := hC.2 c0
        refine gj_aload_n X d_Mo_join_136 rfl 0 rfl ?_
        refine gj_get X inX9 0 rfl rfl 0 (by decide) tw_548 rfl rfl d_Mo_join_137 ?_
        refine gj_iload X d_Mo_join_140 5 rfl ?_
        refine gj_iald X 1 0 rfl rfl hC.1 d_Mo_join_142 ?_
        have hC := hC.2
        refine gj_aload_n X d_Mo_join_143 rfl 0 rfl ?_
        refine gj_get X inX9 0 rfl rfl 0 (by decide) tw_548 rfl rfl d_Mo_join_144 ?_
        refine gj_iload_n X d_Mo_join_147 rfl 1 rfl ?_
        refine gj_iald X 1 0 rfl rfl hC.1 d_Mo_join_148 ?_
        have hC := hC.2
        refine gj_icmp_ne (tgt := 172) X d_Mo_join_149 (by decide) (fun c0 => ?_) (fun c0 => ?_)
        · have hC := hC.1 c0
          obtain ⟨v16, ev16⟩ : ∃ y : Int32, y = v_6 + 1 := ⟨_, rfl⟩
          have hC := hC v16 ev16
          refine gj_iinc (v := v16) (L' := [(6, .int v16), (0, .ref (h 0)), (1, .int v_1), (2, .int v_2), (3, .int v_3), (4, .long v_4)]) X d_Mo_join_172 5 rfl (by rw [ev16]; rfl) (by decide) rfl ?_
          refine gj_goto (tgt := 130) X d_Mo_join_175 (by decide) ?_
          exact gj_loc [1, 2, 3, 4, 5, 0] rfl hC
        · have hC := hC.2 c0
          refine gj_aload_n X d_Mo_join_152 rfl 0 rfl ?_
          refine gj_iload X d_Mo_join_153 5 rfl ?_
          refine gj_iload_n X d_Mo_join_155 rfl 2 rfl ?_
          refine gj_callVV (As := [.int v_6, .int v_2]) (st := []) X (c_Mo_fill l dC dI h cI cL cZ σ v_6 v_2 _ hC) ⟨gj_cwB X tw_714 tw_10 tw_711 hd_Mo_fill rfl rfl ⟨Nat.le_of_ble_eq_true rfl, Nat.le_of_ble_eq_true rfl⟩, X.2.2.2.2.1 _ tw_713, X.2.2.2.2.1 _ ts_24⟩ 0 rfl rfl hA rfl (Nat.le_of_ble_eq_true rfl) ⟨Nat.zero_le _, Nat.zero_le _⟩ d_Mo_join_156 rfl (fun σ17 hC => ?_)
          refine gj_lload X d_Mo_join_159 4 rfl ?_
          refine gj_aload_n X d_Mo_join_161 rfl 0 rfl ?_
          refine gj_get X inX9 0 rfl rfl 19 (by decide) tw_567 rfl rfl d_Mo_join_162 ?_
          refine gj_iload_n X d_Mo_join_165 rfl 2 rfl ?_
          refine gj_lald X 13 1 rfl rfl hC.1 d_Mo_join_166 ?_
          have hC := hC.2
          refine gj_callSL (As := [.long v_4, .long (σ17.2.2 3 v_2.toNatClampNeg)]) (st := []) X (c_Mo_sum l dC dI h cI cL cZ σ17 v_4 (σ17.2.2 3 v_2.toNatClampNeg) _ hC) ⟨gj_cwB X tw_726 tw_10 tw_724 hd_Mo_sum rfl rfl ⟨Nat.le_of_ble_eq_true rfl, Nat.le_of_ble_eq_true rfl⟩, X.2.2.2.2.1 _ tw_725⟩ hA rfl (Nat.le_of_ble_eq_true rfl) ⟨Nat.zero_le _, Nat.zero_le _⟩ d_Mo_join_167 rfl (fun r19 σ18 hC => ?_)
          refine gj_lstore (L' := [(4, .long r19), (0, .ref (h 0)), (1, .int v_1), (2, .int v_2), (3, .int v_3), (6, .int v_6)]) X d_Mo_join_170 (by decide) rfl ?_
          obtain ⟨v20, ev20⟩ : ∃ y : Int32, y = v_6 + 1 := ⟨_, rfl⟩
          have hC := hC v20 ev20
          refine gj_iinc (v := v20) (L' := [(6, .int v20), (4, .long r19), (0, .ref (h 0)), (1, .int v_1), (2, .int v_2), (3, .int v_3)]) X d_Mo_join_172 5 rfl (by rw [ev20]; rfl) (by decide) rfl ?_
          refine gj_goto (tgt := 130) X d_Mo_join_175 (by decide) ?_
          exact gj_loc [2, 3, 4, 5, 1, 0] rfl hC)
    (by
      intro v_1 v_2 v_3 v_4 v_6 v_7 σ hC
      refine gj_iload X d_Mo_join_190 6 rfl ?_
      refine gj_aload_n X d_Mo_join_192 rfl 0 rfl ?_
      refine gj_get X inX9 0 rfl rfl 1 (by decide) tw_549 rfl rfl d_Mo_join_193 ?_
      refine gj_iload_n X d_Mo_join_196 rfl 1 rfl ?_
      refine gj_iald X 2 0 rfl rfl hC.1 d_Mo_join_197 ?_
      have hC := hC.2
      refine gj_icmp_ge (tgt := 315) X d_Mo_join_198 (by decide) (fun c0 => ?_) (fun c0 => ?_)
      · have hC := hC.1 c0
        refine gj_aload_n X d_Mo_join_315 rfl 0 rfl ?_
        refine gj_iload_n X d_Mo_join_316 rfl 3 rfl ?_
        refine gj_put (w' := (wM h cI cL cZ) (gs_I σ 7 v_3)) X inX9 tyX9 tyX9_ok nmX9 0 rfl rfl 23 (by decide) tw_571 rfl rfl (tyX9_ok 23 (by decide)) rfl rfl (Nat.le_of_ble_eq_true rfl) (set_wM_I7 h cI cL cZ σ _) d_Mo_join_317 ?_
        refine gj_topw (wof := (wM h cI cL cZ)) (fun σ21 eσ21 => ?_)
        have hC := hC σ21 eσ21
        refine gj_aload_n X d_Mo_join_320 rfl 0 rfl ?_
        refine gj_aload_n X d_Mo_join_321 rfl 0 rfl ?_
        refine gj_get X inX9 0 rfl rfl 0 (by decide) tw_548 rfl rfl d_Mo_join_322 ?_
        refine gj_iload_n X d_Mo_join_325 rfl 1 rfl ?_
        refine gj_iald X 1 0 rfl rfl hC.1 d_Mo_join_326 ?_
        have hC := hC.2
        refine gj_iload_n X d_Mo_join_327 rfl 2 rfl ?_
        refine gj_lload X d_Mo_join_328 4 rfl ?_
        refine gj_callVV (As := [.int (σ21.2.1 0 v_1.toNatClampNeg), .int v_2, .long v_4]) (st := []) X (c_Mo_put l dC dI h cI cL cZ σ21 (σ21.2.1 0 v_1.toNatClampNeg) v_2 v_4 _ hC) ⟨gj_cwB X tw_740 tw_10 tw_737 hd_Mo_put rfl rfl ⟨Nat.le_of_ble_eq_true rfl, Nat.le_of_ble_eq_true rfl⟩, X.2.2.2.2.1 _ tw_739, X.2.2.2.2.1 _ ts_26⟩ 0 rfl rfl hA rfl (Nat.le_of_ble_eq_true rfl) ⟨Nat.zero_le _, Nat.zero_le _⟩ d_Mo_join_330 rfl (fun σ22 hC => ?_)
        refine gj_iconst (v := 1) X d_Mo_join_333 (by decide) ?_
        exact gj_zret X hr hlk (by decide) ⟨hC, Or.inr rfl⟩ d_Mo_join_334
      · have hC := hC.2 c0
        refine gj_iconst (v := 0) X d_Mo_join_201 (by decide) ?_
        refine gj_istore (L' := [(8, .int (0 : Int32)), (0, .ref (h 0)), (1, .int v_1), (2, .int v_2), (3, .int v_3), (4, .long v_4), (6, .int v_6), (7, .int v_7)]) X d_Mo_join_202 (by decide) rfl ?_
        exact gj_loc [1, 2, 3, 4, 5, 6, 7, 0] rfl hC)
    (by
      intro v_1 v_2 v_3 v_4 v_6 v_7 v_8 σ hC
      refine gj_iload X d_Mo_join_204 7 rfl ?_
      refine gj_aload_n X d_Mo_join_206 rfl 0 rfl ?_
      refine gj_get X inX9 0 rfl rfl 26 (by decide) tw_574 rfl rfl d_Mo_join_207 ?_
      refine gj_iload X d_Mo_join_210 6 rfl ?_
      refine gj_iald X 19 0 rfl rfl hC.1 d_Mo_join_212 ?_
      have hC := hC.2
      refine gj_icmp_ge (tgt := 264) X d_Mo_join_213 (by decide) (fun c0 => ?_) (fun c0 => ?_)
      · have hC := hC.1 c0
        refine gj_iload X d_Mo_join_264 5 rfl ?_
        refine gj_aload_n X d_Mo_join_266 rfl 0 rfl ?_
        refine gj_get X inX9 0 rfl rfl 26 (by decide) tw_574 rfl rfl d_Mo_join_267 ?_
        refine gj_iload X d_Mo_join_270 6 rfl ?_
        refine gj_iald X 19 0 rfl rfl hC.1 d_Mo_join_272 ?_
        have hC := hC.2
        refine gj_isub X d_Mo_join_273 ?_
        refine gj_topi (fun v23 ev23 => ?_)
        have hC := hC v23 ev23
        refine gj_istore (L' := [(6, .int v23), (0, .ref (h 0)), (1, .int v_1), (2, .int v_2), (3, .int v_3), (4, .long v_4), (7, .int v_7), (8, .int v_8)]) X d_Mo_join_274 (by decide) rfl ?_
        refine gj_lload X d_Mo_join_276 5 rfl ?_
        refine gj_aload_n X d_Mo_join_278 rfl 1 rfl ?_
        refine gj_get X inX9 0 rfl rfl 27 (by decide) tw_575 rfl rfl d_Mo_join_279 ?_
        refine gj_iload X d_Mo_join_282 6 rfl ?_
        refine gj_lald X 20 1 rfl rfl hC.1 d_Mo_join_284 ?_
        have hC := hC.2
        refine gj_aload_n X d_Mo_join_285 rfl 1 rfl ?_
        refine gj_get X inX9 0 rfl rfl 19 (by decide) tw_567 rfl rfl d_Mo_join_286 ?_
        refine gj_bipush (v := 17) X d_Mo_join_289 (by decide) ?_
        refine gj_iload X d_Mo_join_291 6 rfl ?_
        refine gj_imul X d_Mo_join_293 ?_
        refine gj_bipush (v := 17) X d_Mo_join_294 (by decide) ?_
        refine gj_iadd X d_Mo_join_296 ?_
        refine gj_iload X d_Mo_join_297 0 rfl ?_
        refine gj_iadd X d_Mo_join_299 ?_
        refine gj_lald X 13 1 rfl rfl hC.1 d_Mo_join_300 ?_
        have hC := hC.2
        refine gj_callSL (As := [.long (σ.2.2 5 v_7.toNatClampNeg), .long (σ.2.2 3 ((((17 : Int32) * v_7) + (17 : Int32)) + v23).toNatClampNeg)]) (st := [.long v_4]) X (c_Mo_product l dC dI h cI cL cZ σ (σ.2.2 5 v_7.toNatClampNeg) (σ.2.2 3 ((((17 : Int32) * v_7) + (17 : Int32)) + v23).toNatClampNeg) _ hC) ⟨gj_cwB X tw_721 tw_10 tw_719 hd_Mo_product rfl rfl ⟨Nat.le_of_ble_eq_true rfl, Nat.le_of_ble_eq_true rfl⟩, X.2.2.2.2.1 _ tw_720⟩ hA rfl (Nat.le_of_ble_eq_true rfl) ⟨Nat.zero_le _, Nat.zero_le _⟩ d_Mo_join_301 rfl (fun r25 σ24 hC => ?_)
        refine gj_callSL (As := [.long v_4, .long r25]) (st := []) X (c_Mo_sum l dC dI h cI cL cZ σ24 v_4 r25 _ hC) ⟨gj_cwB X tw_726 tw_10 tw_724 hd_Mo_sum rfl rfl ⟨Nat.le_of_ble_eq_true rfl, Nat.le_of_ble_eq_true rfl⟩, X.2.2.2.2.1 _ tw_725⟩ hA rfl (Nat.le_of_ble_eq_true rfl) ⟨Nat.zero_le _, Nat.zero_le _⟩ d_Mo_join_304 rfl (fun r27 σ26 hC => ?_)
        refine gj_lstore (L' := [(4, .long r27), (6, .int v23), (0, .ref (h 0)), (1, .int v_1), (2, .int v_2), (3, .int v_3), (7, .int v_7), (8, .int v_8)]) X d_Mo_join_307 (by decide) rfl ?_
        obtain ⟨v28, ev28⟩ : ∃ y : Int32, y = v_7 + 1 := ⟨_, rfl⟩
        have hC := hC v28 ev28
        refine gj_iinc (v := v28) (L' := [(7, .int v28), (4, .long r27), (6, .int v23), (0, .ref (h 0)), (1, .int v_1), (2, .int v_2), (3, .int v_3), (8, .int v_8)]) X d_Mo_join_309 6 rfl (by rw [ev28]; rfl) (by decide) rfl ?_
        refine gj_goto (tgt := 190) X d_Mo_join_312 (by decide) ?_
        exact gj_loc [3, 4, 5, 6, 1, 2, 0] rfl hC
      · have hC := hC.2 c0
        refine gj_lload X d_Mo_join_216 4 rfl ?_
        refine gj_aload_n X d_Mo_join_218 rfl 0 rfl ?_
        refine gj_aload_n X d_Mo_join_219 rfl 0 rfl ?_
        refine gj_iload_n X d_Mo_join_220 rfl 1 rfl ?_
        refine gj_iload X d_Mo_join_221 6 rfl ?_
        refine gj_callVI (As := [.int v_1, .int v_7]) (st := [.ref (h 0), .long v_4]) X (c_Mo_at l dC dI h cI cL cZ σ v_1 v_7 _ hC) ⟨gj_cwB X tw_664 tw_10 tw_661 hd_Mo_at rfl rfl ⟨Nat.le_of_ble_eq_true rfl, Nat.le_of_ble_eq_true rfl⟩, X.2.2.2.2.1 _ tw_663, X.2.2.2.2.1 _ ts_17⟩ 0 rfl rfl hA rfl (Nat.le_of_ble_eq_true rfl) ⟨Nat.zero_le _, Nat.zero_le _⟩ d_Mo_join_223 rfl (fun r30 σ29 hC => ?_)
        refine gj_iload X d_Mo_join_226 7 rfl ?_
        refine gj_callVL (As := [.int r30, .int v_8]) (st := [.long v_4]) X (c_Mo_of l dC dI h cI cL cZ σ29 r30 v_8 _ hC) ⟨gj_cwB X tw_718 tw_10 tw_715 hd_Mo_of rfl rfl ⟨Nat.le_of_ble_eq_true rfl, Nat.le_of_ble_eq_true rfl⟩, X.2.2.2.2.1 _ tw_717, X.2.2.2.2.1 _ ts_25⟩ 0 rfl rfl hA rfl (Nat.le_of_ble_eq_true rfl) ⟨Nat.zero_le _, Nat.zero_le _⟩ d_Mo_join_228 rfl (fun r32 σ31 hC => ?_)
        refine gj_aload_n X d_Mo_join_231 rfl 0 rfl ?_
        refine gj_get X inX9 0 rfl rfl 19 (by decide) tw_567 rfl rfl d_Mo_join_232 ?_
        refine gj_bipush (v := 17) X d_Mo_join_235 (by decide) ?_
        refine gj_iload X d_Mo_join_237 6 rfl ?_
        refine gj_imul X d_Mo_join_239 ?_
        refine gj_bipush (v := 17) X d_Mo_join_240 (by decide) ?_
        refine gj_iadd X d_Mo_join_242 ?_
        refine gj_iload X d_Mo_join_243 5 rfl ?_
        refine gj_iadd X d_Mo_join_245 ?_
        refine gj_iload X d_Mo_join_246 7 rfl ?_
        refine gj_isub X d_Mo_join_248 ?_
        refine gj_lald X 13 1 rfl rfl hC.1 d_Mo_join_249 ?_
        have hC := hC.2
        refine gj_callSL (As := [.long r32, .long (σ31.2.2 3 (((((17 : Int32) * v_7) + (17 : Int32)) + v_6) - v_8).toNatClampNeg)]) (st := [.long v_4]) X (c_Mo_product l dC dI h cI cL cZ σ31 r32 (σ31.2.2 3 (((((17 : Int32) * v_7) + (17 : Int32)) + v_6) - v_8).toNatClampNeg) _ hC) ⟨gj_cwB X tw_721 tw_10 tw_719 hd_Mo_product rfl rfl ⟨Nat.le_of_ble_eq_true rfl, Nat.le_of_ble_eq_true rfl⟩, X.2.2.2.2.1 _ tw_720⟩ hA rfl (Nat.le_of_ble_eq_true rfl) ⟨Nat.zero_le _, Nat.zero_le _⟩ d_Mo_join_250 rfl (fun r34 σ33 hC => ?_)
        refine gj_callSL (As := [.long v_4, .long r34]) (st := []) X (c_Mo_sum l dC dI h cI cL cZ σ33 v_4 r34 _ hC) ⟨gj_cwB X tw_726 tw_10 tw_724 hd_Mo_sum rfl rfl ⟨Nat.le_of_ble_eq_true rfl, Nat.le_of_ble_eq_true rfl⟩, X.2.2.2.2.1 _ tw_725⟩ hA rfl (Nat.le_of_ble_eq_true rfl) ⟨Nat.zero_le _, Nat.zero_le _⟩ d_Mo_join_253 rfl (fun r36 σ35 hC => ?_)
        refine gj_lstore (L' := [(4, .long r36), (0, .ref (h 0)), (1, .int v_1), (2, .int v_2), (3, .int v_3), (6, .int v_6), (7, .int v_7), (8, .int v_8)]) X d_Mo_join_256 (by decide) rfl ?_
        obtain ⟨v37, ev37⟩ : ∃ y : Int32, y = v_8 + 1 := ⟨_, rfl⟩
        have hC := hC v37 ev37
        refine gj_iinc (v := v37) (L' := [(8, .int v37), (4, .long r36), (0, .ref (h 0)), (1, .int v_1), (2, .int v_2), (3, .int v_3), (6, .int v_6), (7, .int v_7)]) X d_Mo_join_258 7 rfl (by rw [ev37]; rfl) (by decide) rfl ?_
        refine gj_goto (tgt := 204) X d_Mo_join_261 (by decide) ?_
        exact gj_loc [2, 3, 4, 5, 1, 6, 7, 0] rfl hC)
  refine gj_iconst (v := 0) X d_Mo_join_0 (by decide) ?_
  refine gj_istore_n (L' := [(2, .int (0 : Int32)), (0, .ref (h 0)), (1, .int a0)]) X d_Mo_join_1 rfl (by decide) rfl ?_
  refine gj_aload_n X d_Mo_join_2 rfl 1 rfl ?_
  refine gj_get X inX9 0 rfl rfl 23 (by decide) tw_571 rfl rfl d_Mo_join_3 ?_
  refine gj_topi (fun v1 ev1 => ?_)
  have hC := hC v1 ev1
  refine gj_istore_n (L' := [(3, .int v1), (2, .int (0 : Int32)), (0, .ref (h 0)), (1, .int a0)]) X d_Mo_join_6 rfl (by decide) rfl ?_
  refine gj_iconst (v := 0) X d_Mo_join_7 (by decide) ?_
  refine gj_istore (L' := [(4, .int (0 : Int32)), (3, .int v1), (2, .int (0 : Int32)), (0, .ref (h 0)), (1, .int a0)]) X d_Mo_join_8 (by decide) rfl ?_
  exact gj_loc [3, 4, 2, 1, 0] rfl hC
abbrev rm_Mo_number : Room := { frames := 4, cells := 0, slots := 0, locals := 97 }
set_option maxHeartbeats 4000000 in
set_option maxRecDepth 100000 in
theorem c_Mo_number (l : Launch) (dC : Nat → ClassId) (dI : Nat → Nat → Nat) (h : Nat → Nat) (cI cL cZ : ClassId) (σ : gs_St) (a0 : Int32) (K : Int64 → gs_St → Prop) (hC : C_Mo_number a0 σ K) : gj_ML l y_Mo_number (gj_ws y_Mo_number b_Mo_number 4 (some .long)) rm_Mo_number (dC, dI) gs_C (gs_T cI cL cZ) ((wM h cI cL cZ) σ) (wM h cI cL cZ) [.ref (h 0), .int a0] K := by
  refine gj_enterL (by decide) (Nat.le_of_ble_eq_true rfl) (fun p e s m args below meth c A X hr hlk hA hnm => ?_)
  change gj_J p l e rm_Mo_number s m args below meth c 0 0 (MQ below (va_Ql K (gj_at (dC, dI) gs_C (gs_T cI cL cZ) (wM h cI cL cZ) A) A) args s 0 0 A) (dC, dI) gs_C A 4 0 [(0, .ref (h 0)), (1, .int a0)] [] ((wM h cI cL cZ) σ)
  have hC := hC
    (fun (v_1 : Int32) (v_3 : Int32) (σ : gs_St) => gj_J p l e rm_Mo_number s m args below meth c 0 0 (MQ below (va_Ql K (gj_at (dC, dI) gs_C (gs_T cI cL cZ) (wM h cI cL cZ) A) A) args s 0 0 A) (dC, dI) gs_C A 4 42 [(0, .ref (h 0)), (1, .int v_1), (3, .int v_3)] [] ((wM h cI cL cZ) σ))
    (by
      intro v_1 v_3 σ hC
      refine gj_iload_n X d_Mo_number_42 rfl 2 rfl ?_
      refine gj_if_lt (tgt := 82) X d_Mo_number_43 (by decide) (fun c0 => ?_) (fun c0 => ?_)
      · have hC := hC.1 c0
        refine gj_aload_n X d_Mo_number_82 rfl 0 rfl ?_
        refine gj_get X inX9 0 rfl rfl 23 (by decide) tw_571 rfl rfl d_Mo_number_83 ?_
        refine gj_iconst (v := 1) X d_Mo_number_86 (by decide) ?_
        refine gj_icmp_ne (tgt := 118) X d_Mo_number_87 (by decide) (fun c0 => ?_) (fun c0 => ?_)
        · have hC := hC.1 c0
          refine gj_ldc2 (v := -1) X tw_706 d_Mo_number_118 ?_
          exact gj_lret X hr hlk hC d_Mo_number_121
        · have hC := hC.2 c0
          refine gj_aload_n X d_Mo_number_90 rfl 0 rfl ?_
          refine gj_get X inX9 0 rfl rfl 20 (by decide) tw_568 rfl rfl d_Mo_number_91 ?_
          refine gj_iconst (v := 0) X d_Mo_number_94 (by decide) ?_
          refine gj_iald X 14 0 rfl rfl hC.1 d_Mo_number_95 ?_
          have hC := hC.2
          refine gj_iload_n X d_Mo_number_96 rfl 1 rfl ?_
          refine gj_icmp_ne (tgt := 118) X d_Mo_number_97 (by decide) (fun c0 => ?_) (fun c0 => ?_)
          · have hC := hC.1 c0
            refine gj_ldc2 (v := -1) X tw_706 d_Mo_number_118 ?_
            exact gj_lret X hr hlk hC d_Mo_number_121
          · have hC := hC.2 c0
            refine gj_aload_n X d_Mo_number_100 rfl 0 rfl ?_
            refine gj_iload_n X d_Mo_number_101 rfl 1 rfl ?_
            refine gj_aload_n X d_Mo_number_102 rfl 0 rfl ?_
            refine gj_get X inX9 0 rfl rfl 21 (by decide) tw_569 rfl rfl d_Mo_number_103 ?_
            refine gj_iconst (v := 0) X d_Mo_number_106 (by decide) ?_
            refine gj_iald X 15 0 rfl rfl hC.1 d_Mo_number_107 ?_
            have hC := hC.2
            refine gj_callVL (As := [.int v_1, .int (σ.2.1 10 (0 : Int32).toNatClampNeg)]) (st := []) X (c_Mo_of l dC dI h cI cL cZ σ v_1 (σ.2.1 10 (0 : Int32).toNatClampNeg) _ hC) ⟨gj_cwB X tw_718 tw_10 tw_715 hd_Mo_of rfl rfl ⟨Nat.le_of_ble_eq_true rfl, Nat.le_of_ble_eq_true rfl⟩, X.2.2.2.2.1 _ tw_717, X.2.2.2.2.1 _ ts_25⟩ 0 rfl rfl hA rfl (Nat.le_of_ble_eq_true rfl) ⟨Nat.zero_le _, Nat.zero_le _⟩ d_Mo_number_108 rfl (fun r11 σ10 hC => ?_)
            refine gj_ldc2 (v := 1000000000000000000) X tw_722 d_Mo_number_111 ?_
            refine gj_lcmp_le (tgt := 122) X d_Mo_number_114 d_Mo_number_115 (by decide) (fun c0 => ?_) (fun c0 => ?_)
            · have hC := hC.1 c0
              refine gj_aload_n X d_Mo_number_122 rfl 0 rfl ?_
              refine gj_get X inX9 0 rfl rfl 22 (by decide) tw_570 rfl rfl d_Mo_number_123 ?_
              refine gj_iconst (v := 0) X d_Mo_number_126 (by decide) ?_
              refine gj_lald X 16 1 rfl rfl hC.1 d_Mo_number_127 ?_
              have hC := hC.2
              exact gj_lret X hr hlk hC d_Mo_number_128
            · have hC := hC.2 c0
              refine gj_ldc2 (v := -1) X tw_706 d_Mo_number_118 ?_
              exact gj_lret X hr hlk hC d_Mo_number_121
      · have hC := hC.2 c0
        refine gj_aload_n X d_Mo_number_46 rfl 0 rfl ?_
        refine gj_aload_n X d_Mo_number_47 rfl 0 rfl ?_
        refine gj_get X inX9 0 rfl rfl 6 (by decide) tw_554 rfl rfl d_Mo_number_48 ?_
        refine gj_iload_n X d_Mo_number_51 rfl 2 rfl ?_
        refine gj_iald X 5 0 rfl rfl hC.1 d_Mo_number_52 ?_
        have hC := hC.2
        refine gj_callVI (As := [.int (σ.2.1 4 v_3.toNatClampNeg)]) (st := []) X (c_Mo_isRule l dC dI h cI cL cZ σ (σ.2.1 4 v_3.toNatClampNeg) _ hC) ⟨gj_cwB X tw_652 tw_10 tw_649 hd_Mo_isRule rfl rfl ⟨Nat.le_of_ble_eq_true rfl, Nat.le_of_ble_eq_true rfl⟩, X.2.2.2.2.1 _ tw_651, X.2.2.2.2.1 _ ts_16⟩ 0 rfl rfl hA rfl (Nat.le_of_ble_eq_true rfl) ⟨Nat.zero_le _, Nat.zero_le _⟩ d_Mo_number_53 rfl (fun r13 σ12 hC => ?_)
        obtain ⟨hC, hb⟩ := hC
        refine gj_if_eq (tgt := 72) X d_Mo_number_56 (by decide) (fun c0 => ?_) (fun c0 => ?_)
        · have hC := hC.1 c0
          refine gj_ldc2 (v := -1) X tw_706 d_Mo_number_72 ?_
          exact gj_lret X hr hlk hC d_Mo_number_75
        · have hC := hC.2 c0
          refine gj_aload_n X d_Mo_number_59 rfl 0 rfl ?_
          refine gj_aload_n X d_Mo_number_60 rfl 0 rfl ?_
          refine gj_get X inX9 0 rfl rfl 6 (by decide) tw_554 rfl rfl d_Mo_number_61 ?_
          refine gj_iload_n X d_Mo_number_64 rfl 2 rfl ?_
          refine gj_iald X 5 0 rfl rfl hC.1 d_Mo_number_65 ?_
          have hC := hC.2
          refine gj_callVI (As := [.int (σ12.2.1 4 v_3.toNatClampNeg)]) (st := []) X (c_Mo_join l dC dI h cI cL cZ σ12 (σ12.2.1 4 v_3.toNatClampNeg) _ hC) ⟨gj_cwB X tw_764 tw_10 tw_761 hd_Mo_join rfl rfl ⟨Nat.le_of_ble_eq_true rfl, Nat.le_of_ble_eq_true rfl⟩, X.2.2.2.2.1 _ tw_763, X.2.2.2.2.1 _ ts_28⟩ 0 rfl rfl hA rfl (Nat.le_of_ble_eq_true rfl) ⟨Nat.zero_le _, Nat.zero_le _⟩ d_Mo_number_66 rfl (fun r15 σ14 hC => ?_)
          obtain ⟨hC, hb⟩ := hC
          refine gj_if_ne (tgt := 76) X d_Mo_number_69 (by decide) (fun c0 => ?_) (fun c0 => ?_)
          · have hC := hC.1 c0
            obtain ⟨v16, ev16⟩ : ∃ y : Int32, y = v_3 + (-1) := ⟨_, rfl⟩
            have hC := hC v16 ev16
            refine gj_iinc (v := v16) (L' := [(3, .int v16), (0, .ref (h 0)), (1, .int v_1)]) X d_Mo_number_76 2 rfl (by rw [ev16]; rfl) (by decide) rfl ?_
            refine gj_goto (tgt := 42) X d_Mo_number_79 (by decide) ?_
            exact gj_loc [1, 2, 0] rfl hC
          · have hC := hC.2 c0
            refine gj_ldc2 (v := -1) X tw_706 d_Mo_number_72 ?_
            exact gj_lret X hr hlk hC d_Mo_number_75)
  refine gj_aload_n X d_Mo_number_0 rfl 0 rfl ?_
  refine gj_get X inX9 0 rfl rfl 7 (by decide) tw_555 rfl rfl d_Mo_number_1 ?_
  refine gj_topi (fun v1 ev1 => ?_)
  have hC := hC v1 ev1
  refine gj_istore_n (L' := [(2, .int v1), (0, .ref (h 0)), (1, .int a0)]) X d_Mo_number_4 rfl (by decide) rfl ?_
  refine gj_aload_n X d_Mo_number_5 rfl 1 rfl ?_
  refine gj_iconst (v := 0) X d_Mo_number_6 (by decide) ?_
  refine gj_put (w' := (wM h cI cL cZ) (gs_I σ 2 (0 : Int32))) X inX9 tyX9 tyX9_ok nmX9 0 rfl rfl 7 (by decide) tw_555 rfl rfl (tyX9_ok 7 (by decide)) rfl rfl (Nat.le_of_ble_eq_true rfl) (set_wM_I2 h cI cL cZ σ _) d_Mo_number_7 ?_
  refine gj_topw (wof := (wM h cI cL cZ)) (fun σ2 eσ2 => ?_)
  have hC := hC σ2 eσ2
  refine gj_iload_n X d_Mo_number_10 rfl 2 rfl ?_
  refine gj_callSI (As := [.int a0]) (st := []) X (c_Mo_isNonterminal l dC dI h cI cL cZ σ2 a0 _ hC) ⟨gj_cwB X tw_644 tw_10 tw_642 hd_Mo_isNonterminal rfl rfl ⟨Nat.le_of_ble_eq_true rfl, Nat.le_of_ble_eq_true rfl⟩, X.2.2.2.2.1 _ tw_643⟩ hA rfl (Nat.le_of_ble_eq_true rfl) ⟨Nat.zero_le _, Nat.zero_le _⟩ d_Mo_number_11 rfl (fun r4 σ3 hC => ?_)
  obtain ⟨hC, hb⟩ := hC
  refine gj_if_eq (tgt := 24) X d_Mo_number_14 (by decide) (fun c0 => ?_) (fun c0 => ?_)
  · have hC := hC.1 c0
    refine gj_ldc2 (v := -1) X tw_706 d_Mo_number_24 ?_
    exact gj_lret X hr hlk hC d_Mo_number_27
  · have hC := hC.2 c0
    refine gj_aload_n X d_Mo_number_17 rfl 1 rfl ?_
    refine gj_callVI (As := []) (st := []) X (c_Mo_circle l dC dI h cI cL cZ σ3 _ hC) ⟨gj_cwB X tw_689 tw_10 tw_705 hd_Mo_circle rfl rfl ⟨Nat.le_of_ble_eq_true rfl, Nat.le_of_ble_eq_true rfl⟩, X.2.2.2.2.1 _ tw_687, X.2.2.2.2.1 _ tw_688⟩ 0 rfl rfl hA rfl (Nat.le_of_ble_eq_true rfl) ⟨Nat.zero_le _, Nat.zero_le _⟩ d_Mo_number_18 rfl (fun r6 σ5 hC => ?_)
    obtain ⟨hC, hb⟩ := hC
    refine gj_if_eq (tgt := 28) X d_Mo_number_21 (by decide) (fun c0 => ?_) (fun c0 => ?_)
    · have hC := hC.1 c0
      refine gj_aload_n X d_Mo_number_28 rfl 1 rfl ?_
      refine gj_iconst (v := -1) X d_Mo_number_29 (by decide) ?_
      refine gj_callVV (As := [.int (-1 : Int32)]) (st := []) X (c_Mo_reckon l dC dI h cI cL cZ σ5 (-1 : Int32) _ hC) ⟨gj_cwB X tw_710 tw_10 tw_707 hd_Mo_reckon rfl rfl ⟨Nat.le_of_ble_eq_true rfl, Nat.le_of_ble_eq_true rfl⟩, X.2.2.2.2.1 _ tw_709, X.2.2.2.2.1 _ ts_23⟩ 0 rfl rfl hA rfl (Nat.le_of_ble_eq_true rfl) ⟨Nat.zero_le _, Nat.zero_le _⟩ d_Mo_number_30 rfl (fun σ7 hC => ?_)
      refine gj_aload_n X d_Mo_number_33 rfl 1 rfl ?_
      refine gj_iconst (v := 0) X d_Mo_number_34 (by decide) ?_
      refine gj_put (w' := (wM h cI cL cZ) (gs_I σ7 7 (0 : Int32))) X inX9 tyX9 tyX9_ok nmX9 0 rfl rfl 23 (by decide) tw_571 rfl rfl (tyX9_ok 23 (by decide)) rfl rfl (Nat.le_of_ble_eq_true rfl) (set_wM_I7 h cI cL cZ σ7 _) d_Mo_number_35 ?_
      refine gj_topw (wof := (wM h cI cL cZ)) (fun σ8 eσ8 => ?_)
      have hC := hC σ8 eσ8
      refine gj_iload_n X d_Mo_number_38 rfl 0 rfl ?_
      refine gj_iconst (v := 1) X d_Mo_number_39 (by decide) ?_
      refine gj_isub X d_Mo_number_40 ?_
      refine gj_topi (fun v9 ev9 => ?_)
      have hC := hC v9 ev9
      refine gj_istore_n (L' := [(3, .int v9), (2, .int v1), (0, .ref (h 0)), (1, .int a0)]) X d_Mo_number_41 rfl (by decide) rfl ?_
      exact gj_loc [2, 3, 0] rfl hC
    · have hC := hC.2 c0
      refine gj_ldc2 (v := -1) X tw_706 d_Mo_number_24 ?_
      exact gj_lret X hr hlk hC d_Mo_number_27
