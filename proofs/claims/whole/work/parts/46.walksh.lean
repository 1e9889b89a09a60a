abbrev rm_Li_treesBefore : Room := { frames := 2, cells := 0, slots := 0, locals := 44 }
set_option maxHeartbeats 4000000 in
set_option maxRecDepth 100000 in
theorem c_Li_treesBefore (l : Launch) (dC : Nat → ClassId) (dI : Nat → Nat → Nat) (h : Nat → Nat) (cI cL cZ : ClassId) (σ : gs_St) (a0 : Int32) (a1 : Int32) (K : Int64 → gs_St → Prop) (hC : C_Li_treesBefore a0 a1 σ K) : gj_ML l y_Li_treesBefore (gj_ws y_Li_treesBefore b_Li_treesBefore 6 (some .long)) rm_Li_treesBefore (dC, dI) gs_C (gs_T cI cL cZ) ((wG h cI cL) σ) (wG h cI cL) [.ref (h 29), .int a0, .int a1] K := by
  refine gj_enterL (by decide) (Nat.le_of_ble_eq_true rfl) (fun p e s m args below meth c A X hr hlk hA hnm => ?_)
  change gj_J p l e rm_Li_treesBefore s m args below meth c 0 0 (MQ below (va_Ql K (gj_at (dC, dI) gs_C (gs_T cI cL cZ) (wG h cI cL) A) A) args s 0 0 A) (dC, dI) gs_C A 6 0 [(0, .ref (h 29)), (1, .int a0), (2, .int a1)] [] ((wG h cI cL) σ)
  have hC := hC
    (fun (v_1 : Int32) (v_2 : Int32) (v_3 : Int64) (v_5 : Int32) (σ : gs_St) => gj_J p l e rm_Li_treesBefore s m args below meth c 0 0 (MQ below (va_Ql K (gj_at (dC, dI) gs_C (gs_T cI cL cZ) (wG h cI cL) A) A) args s 0 0 A) (dC, dI) gs_C A 6 5 [(0, .ref (h 29)), (1, .int v_1), (2, .int v_2), (3, .long v_3), (5, .int v_5)] [] ((wG h cI cL) σ))
    (by
      intro v_1 v_2 v_3 v_5 σ hC
      refine gj_iload X d_Li_treesBefore_5 4 rfl ?_
      refine gj_iload_n X d_Li_treesBefore_7 rfl 1 rfl ?_
      refine gj_icmp_ge (tgt := 51) X d_Li_treesBefore_8 (by decide) (fun c0 => ?_) (fun c0 => ?_)
      · have hC := hC.1 c0
        refine gj_lload_n X d_Li_treesBefore_51 rfl 3 rfl ?_
        exact gj_lret X hr hlk hC d_Li_treesBefore_52
      · have hC := hC.2 c0
        refine gj_aload_n X d_Li_treesBefore_11 rfl 0 rfl ?_
        refine gj_get X inX5 29 rfl rfl 0 (by decide) tw_191 rfl rfl d_Li_treesBefore_12 ?_
        refine gj_iload X d_Li_treesBefore_15 4 rfl ?_
        refine gj_callVI (As := [.int v_5]) (st := []) X (c_Gr_leftOf l dC dI h cI cL cZ σ v_5 _ hC) ⟨gj_cwB X tw_284 tw_2 tw_534 hd_Gr_leftOf rfl rfl ⟨Nat.le_of_ble_eq_true rfl, Nat.le_of_ble_eq_true rfl⟩, X.2.2.2.2.1 _ tw_282, X.2.2.2.2.1 _ tw_283⟩ 2 rfl rfl hA rfl (Nat.le_of_ble_eq_true rfl) ⟨Nat.zero_le _, Nat.zero_le _⟩ d_Li_treesBefore_17 rfl (fun r2 σ1 hC => ?_)
        refine gj_aload_n X d_Li_treesBefore_20 rfl 0 rfl ?_
        refine gj_get X inX5 29 rfl rfl 0 (by decide) tw_191 rfl rfl d_Li_treesBefore_21 ?_
        refine gj_iload_n X d_Li_treesBefore_24 rfl 1 rfl ?_
        refine gj_callVI (As := [.int v_1]) (st := [.int r2]) X (c_Gr_leftOf l dC dI h cI cL cZ σ1 v_1 _ hC) ⟨gj_cwB X tw_284 tw_2 tw_534 hd_Gr_leftOf rfl rfl ⟨Nat.le_of_ble_eq_true rfl, Nat.le_of_ble_eq_true rfl⟩, X.2.2.2.2.1 _ tw_282, X.2.2.2.2.1 _ tw_283⟩ 2 rfl rfl hA rfl (Nat.le_of_ble_eq_true rfl) ⟨Nat.zero_le _, Nat.zero_le _⟩ d_Li_treesBefore_25 rfl (fun r4 σ3 hC => ?_)
        refine gj_icmp_ne (tgt := 45) X d_Li_treesBefore_28 (by decide) (fun c0 => ?_) (fun c0 => ?_)
        · have hC := hC.1 c0
          obtain ⟨v5, ev5⟩ : ∃ y : Int32, y = v_5 + 1 := ⟨_, rfl⟩
          have hC := hC v5 ev5
          refine gj_iinc (v := v5) (L' := [(5, .int v5), (0, .ref (h 29)), (1, .int v_1), (2, .int v_2), (3, .long v_3)]) X d_Li_treesBefore_45 4 rfl (by rw [ev5]; rfl) (by decide) rfl ?_
          refine gj_goto (tgt := 5) X d_Li_treesBefore_48 (by decide) ?_
          exact gj_loc [1, 2, 3, 4, 0] rfl hC
        · have hC := hC.2 c0
          refine gj_lload_n X d_Li_treesBefore_31 rfl 3 rfl ?_
          refine gj_aload_n X d_Li_treesBefore_32 rfl 0 rfl ?_
          refine gj_get X inX5 29 rfl rfl 1 (by decide) tw_192 rfl rfl d_Li_treesBefore_33 ?_
          refine gj_iload X d_Li_treesBefore_36 4 rfl ?_
          refine gj_iconst (v := 0) X d_Li_treesBefore_38 (by decide) ?_
          refine gj_iload_n X d_Li_treesBefore_39 rfl 2 rfl ?_
          refine gj_callVL (As := [.int v_5, .int (0 : Int32), .int v_2]) (st := [.long v_3]) X (c_Co_endingsOf l dC dI h cI cL cZ σ3 v_5 (0 : Int32) v_2 _ hC) ⟨gj_cwB X tw_414 tw_5 tw_535 hd_Co_endingsOf rfl rfl ⟨Nat.le_of_ble_eq_true rfl, Nat.le_of_ble_eq_true rfl⟩, X.2.2.2.2.1 _ tw_412, X.2.2.2.2.1 _ tw_413⟩ 12 rfl rfl hA rfl (Nat.le_of_ble_eq_true rfl) ⟨Nat.zero_le _, Nat.zero_le _⟩ d_Li_treesBefore_40 rfl (fun r7 σ6 hC => ?_)
          refine gj_ladd X d_Li_treesBefore_43 ?_
          refine gj_topl (fun v8 ev8 => ?_)
          have hC := hC v8 ev8
          refine gj_lstore_n (L' := [(3, .long v8), (0, .ref (h 29)), (1, .int v_1), (2, .int v_2), (5, .int v_5)]) X d_Li_treesBefore_44 rfl (by decide) rfl ?_
          obtain ⟨v9, ev9⟩ : ∃ y : Int32, y = v_5 + 1 := ⟨_, rfl⟩
          have hC := hC v9 ev9
          refine gj_iinc (v := v9) (L' := [(5, .int v9), (3, .long v8), (0, .ref (h 29)), (1, .int v_1), (2, .int v_2)]) X d_Li_treesBefore_45 4 rfl (by rw [ev9]; rfl) (by decide) rfl ?_
          refine gj_goto (tgt := 5) X d_Li_treesBefore_48 (by decide) ?_
          exact gj_loc [2, 3, 4, 1, 0] rfl hC)
  refine gj_lconst (v := 0) X d_Li_treesBefore_0 (by decide) ?_
  refine gj_lstore_n (L' := [(3, .long (0 : Int64)), (0, .ref (h 29)), (1, .int a0), (2, .int a1)]) X d_Li_treesBefore_1 rfl (by decide) rfl ?_
  refine gj_iconst (v := 0) X d_Li_treesBefore_2 (by decide) ?_
  refine gj_istore (L' := [(5, .int (0 : Int32)), (3, .long (0 : Int64)), (0, .ref (h 29)), (1, .int a0), (2, .int a1)]) X d_Li_treesBefore_3 (by decide) rfl ?_
  exact gj_loc [2, 3, 4, 1, 0] rfl hC
abbrev rm_Li_numberInRule : Room := { frames := 2, cells := 0, slots := 0, locals := 50 }
set_option maxHeartbeats 4000000 in
set_option maxRecDepth 100000 in
theorem c_Li_numberInRule (l : Launch) (dC : Nat → ClassId) (dI : Nat → Nat → Nat) (h : Nat → Nat) (cI cL cZ : ClassId) (σ : gs_St) (a0 : Int32) (a1 : Int32) (K : Int64 → gs_St → Prop) (hC : C_Li_numberInRule a0 a1 σ K) : gj_ML l y_Li_numberInRule (gj_ws y_Li_numberInRule b_Li_numberInRule 12 (some .long)) rm_Li_numberInRule (dC, dI) gs_C (gs_T cI cL cZ) ((wG h cI cL) σ) (wG h cI cL) [.ref (h 29), .int a0, .int a1] K := by
  refine gj_enterL (by decide) (Nat.le_of_ble_eq_true rfl) (fun p e s m args below meth c A X hr hlk hA hnm => ?_)
  change gj_J p l e rm_Li_numberInRule s m args below meth c 0 0 (MQ below (va_Ql K (gj_at (dC, dI) gs_C (gs_T cI cL cZ) (wG h cI cL) A) A) args s 0 0 A) (dC, dI) gs_C A 12 0 [(0, .ref (h 29)), (1, .int a0), (2, .int a1)] [] ((wG h cI cL) σ)
  have hC := hC
    (fun (v_1 : Int32) (v_3 : Int64) (v_5 : Int32) (v_6 : Int32) (v_7 : Int32) (σ : gs_St) => gj_J p l e rm_Li_numberInRule s m args below meth c 0 0 (MQ below (va_Ql K (gj_at (dC, dI) gs_C (gs_T cI cL cZ) (wG h cI cL) A) A) args s 0 0 A) (dC, dI) gs_C A 12 17 [(0, .ref (h 29)), (1, .int v_1), (3, .long v_3), (5, .int v_5), (6, .int v_6), (7, .int v_7)] [] ((wG h cI cL) σ))
    (fun (v_1 : Int32) (v_3 : Int64) (v_5 : Int32) (v_6 : Int32) (v_7 : Int32) (v_8 : Int32) (v_9 : Int64) (v_11 : Int32) (σ : gs_St) => gj_J p l e rm_Li_numberInRule s m args below meth c 0 0 (MQ below (va_Ql K (gj_at (dC, dI) gs_C (gs_T cI cL cZ) (wG h cI cL) A) A) args s 0 0 A) (dC, dI) gs_C A 12 82 [(0, .ref (h 29)), (1, .int v_1), (3, .long v_3), (5, .int v_5), (6, .int v_6), (7, .int v_7), (8, .int v_8), (9, .long v_9), (11, .int v_11)] [] ((wG h cI cL) σ))
    (by
      intro v_1 v_3 v_5 v_6 v_7 σ hC
      refine gj_iload X d_Li_numberInRule_17 5 rfl ?_
      refine gj_aload_n X d_Li_numberInRule_19 rfl 0 rfl ?_
      refine gj_get X inX5 29 rfl rfl 0 (by decide) tw_191 rfl rfl d_Li_numberInRule_20 ?_
      refine gj_iload_n X d_Li_numberInRule_23 rfl 1 rfl ?_
      refine gj_callVI (As := [.int v_1]) (st := [.int v_7]) X (c_Gr_sizeOf l dC dI h cI cL cZ σ v_1 _ hC) ⟨gj_cwB X tw_280 tw_2 tw_519 hd_Gr_sizeOf rfl rfl ⟨Nat.le_of_ble_eq_true rfl, Nat.le_of_ble_eq_true rfl⟩, X.2.2.2.2.1 _ tw_278, X.2.2.2.2.1 _ tw_279⟩ 2 rfl rfl hA rfl (Nat.le_of_ble_eq_true rfl) ⟨Nat.zero_le _, Nat.zero_le _⟩ d_Li_numberInRule_24 rfl (fun r3 σ2 hC => ?_)
      refine gj_icmp_ge (tgt := 145) X d_Li_numberInRule_27 (by decide) (fun c0 => ?_) (fun c0 => ?_)
      · have hC := hC.1 c0
        refine gj_lload_n X d_Li_numberInRule_145 rfl 2 rfl ?_
        exact gj_lret X hr hlk hC d_Li_numberInRule_146
      · have hC := hC.2 c0
        refine gj_iconst (v := 1) X d_Li_numberInRule_30 (by decide) ?_
        refine gj_istore (L' := [(8, .int (1 : Int32)), (0, .ref (h 29)), (1, .int v_1), (3, .long v_3), (5, .int v_5), (6, .int v_6), (7, .int v_7)]) X d_Li_numberInRule_31 (by decide) rfl ?_
        refine gj_lconst (v := 0) X d_Li_numberInRule_33 (by decide) ?_
        refine gj_lstore (L' := [(9, .long (0 : Int64)), (8, .int (1 : Int32)), (0, .ref (h 29)), (1, .int v_1), (3, .long v_3), (5, .int v_5), (6, .int v_6), (7, .int v_7)]) X d_Li_numberInRule_34 (by decide) rfl ?_
        refine gj_aload_n X d_Li_numberInRule_36 rfl 2 rfl ?_
        refine gj_get X inX5 29 rfl rfl 0 (by decide) tw_191 rfl rfl d_Li_numberInRule_37 ?_
        refine gj_iload_n X d_Li_numberInRule_40 rfl 3 rfl ?_
        refine gj_iload X d_Li_numberInRule_41 7 rfl ?_
        refine gj_callVI (As := [.int v_1, .int v_7]) (st := []) X (c_Gr_symbolAt l dC dI h cI cL cZ σ2 v_1 v_7 _ hC) ⟨gj_cwB X tw_288 tw_2 tw_528 hd_Gr_symbolAt rfl rfl ⟨Nat.le_of_ble_eq_true rfl, Nat.le_of_ble_eq_true rfl⟩, X.2.2.2.2.1 _ tw_286, X.2.2.2.2.1 _ tw_287⟩ 2 rfl rfl hA rfl (Nat.le_of_ble_eq_true rfl) ⟨Nat.zero_le _, Nat.zero_le _⟩ d_Li_numberInRule_43 rfl (fun r5 σ4 hC => ?_)
        refine gj_callSNI (As := [.int r5]) (st := []) X (c_Gl_isNonterminal l dC dI h cI cL cZ σ4 r5 _ hC) ⟨gj_cwN X tw_249 tw_1 tn_529 hd_Gl_isNonterminal rfl rfl ⟨Nat.le_of_ble_eq_true rfl, Nat.le_of_ble_eq_true rfl⟩, X.2.2.2.2.1 _ tw_248, trivial⟩ hA rfl (Nat.le_of_ble_eq_true rfl) ⟨Nat.zero_le _, Nat.zero_le _⟩ d_Li_numberInRule_46 rfl (fun r7 σ6 hC => ?_)
        obtain ⟨hC, hb⟩ := hC
        refine gj_if_eq (tgt := 79) X d_Li_numberInRule_49 (by decide) (fun c0 => ?_) (fun c0 => ?_)
        · have hC := hC.1 c0
          refine gj_iconst (v := 0) X d_Li_numberInRule_79 (by decide) ?_
          refine gj_istore (L' := [(11, .int (0 : Int32)), (9, .long (0 : Int64)), (8, .int (1 : Int32)), (0, .ref (h 29)), (1, .int v_1), (3, .long v_3), (5, .int v_5), (6, .int v_6), (7, .int v_7)]) X d_Li_numberInRule_80 (by decide) rfl ?_
          exact gj_loc [3, 4, 5, 6, 7, 8, 2, 1, 0] rfl hC
        · have hC := hC.2 c0
          obtain ⟨v8, ev8⟩ : ∃ y : Int32, y = v_6 + (-1) := ⟨_, rfl⟩
          have hC := hC v8 ev8
          refine gj_iinc (v := v8) (L' := [(6, .int v8), (9, .long (0 : Int64)), (8, .int (1 : Int32)), (0, .ref (h 29)), (1, .int v_1), (3, .long v_3), (5, .int v_5), (7, .int v_7)]) X d_Li_numberInRule_52 6 rfl (by rw [ev8]; rfl) (by decide) rfl ?_
          refine gj_aload_n X d_Li_numberInRule_55 rfl 3 rfl ?_
          refine gj_get X inX5 29 rfl rfl 2 (by decide) tw_193 rfl rfl d_Li_numberInRule_56 ?_
          refine gj_getN X inX6 18 rfl rfl 1 (by decide) tn_122 rfl rfl d_Li_numberInRule_59 ?_
          refine gj_iload X d_Li_numberInRule_62 0 rfl ?_
          refine gj_iald X 20 0 rfl rfl hC.1 d_Li_numberInRule_64 ?_
          have hC := hC.2
          refine gj_topi (fun v9 ev9 => ?_)
          have hC := hC v9 ev9
          refine gj_istore (L' := [(8, .int v9), (6, .int v8), (9, .long (0 : Int64)), (0, .ref (h 29)), (1, .int v_1), (3, .long v_3), (5, .int v_5), (7, .int v_7)]) X d_Li_numberInRule_65 (by decide) rfl ?_
          refine gj_aload_n X d_Li_numberInRule_67 rfl 3 rfl ?_
          refine gj_get X inX5 29 rfl rfl 2 (by decide) tw_193 rfl rfl d_Li_numberInRule_68 ?_
          refine gj_getN X inX6 18 rfl rfl 2 (by decide) tn_124 rfl rfl d_Li_numberInRule_71 ?_
          refine gj_iload X d_Li_numberInRule_74 1 rfl ?_
          refine gj_lald X 21 1 rfl rfl hC.1 d_Li_numberInRule_76 ?_
          have hC := hC.2
          refine gj_topl (fun v10 ev10 => ?_)
          have hC := hC v10 ev10
          refine gj_lstore (L' := [(9, .long v10), (8, .int v9), (6, .int v8), (0, .ref (h 29)), (1, .int v_1), (3, .long v_3), (5, .int v_5), (7, .int v_7)]) X d_Li_numberInRule_77 (by decide) rfl ?_
          refine gj_iconst (v := 0) X d_Li_numberInRule_79 (by decide) ?_
          refine gj_istore (L' := [(11, .int (0 : Int32)), (9, .long v10), (8, .int v9), (6, .int v8), (0, .ref (h 29)), (1, .int v_1), (3, .long v_3), (5, .int v_5), (7, .int v_7)]) X d_Li_numberInRule_80 (by decide) rfl ?_
          exact gj_loc [4, 5, 6, 7, 3, 8, 2, 1, 0] rfl hC)
    (by
      intro v_1 v_3 v_5 v_6 v_7 v_8 v_9 v_11 σ hC
      refine gj_iload X d_Li_numberInRule_82 8 rfl ?_
      refine gj_iload X d_Li_numberInRule_84 6 rfl ?_
      refine gj_icmp_ge (tgt := 112) X d_Li_numberInRule_86 (by decide) (fun c0 => ?_) (fun c0 => ?_)
      · have hC := hC.1 c0
        refine gj_iload X d_Li_numberInRule_112 3 rfl ?_
        refine gj_iload X d_Li_numberInRule_114 6 rfl ?_
        refine gj_isub X d_Li_numberInRule_116 ?_
        refine gj_topi (fun v11 ev11 => ?_)
        have hC := hC v11 ev11
        refine gj_istore (L' := [(5, .int v11), (0, .ref (h 29)), (1, .int v_1), (3, .long v_3), (6, .int v_6), (7, .int v_7), (8, .int v_8), (9, .long v_9), (11, .int v_11)]) X d_Li_numberInRule_117 (by decide) rfl ?_
        refine gj_lload_n X d_Li_numberInRule_119 rfl 3 rfl ?_
        refine gj_lload X d_Li_numberInRule_120 7 rfl ?_
        refine gj_aload_n X d_Li_numberInRule_122 rfl 1 rfl ?_
        refine gj_get X inX5 29 rfl rfl 1 (by decide) tw_192 rfl rfl d_Li_numberInRule_123 ?_
        refine gj_iload_n X d_Li_numberInRule_126 rfl 2 rfl ?_
        refine gj_iload X d_Li_numberInRule_127 5 rfl ?_
        refine gj_iconst (v := 1) X d_Li_numberInRule_129 (by decide) ?_
        refine gj_iadd X d_Li_numberInRule_130 ?_
        refine gj_iload X d_Li_numberInRule_131 0 rfl ?_
        refine gj_callVL (As := [.int v_1, .int (v_7 + (1 : Int32)), .int v11]) (st := [.long v_9, .long v_3]) X (c_Co_endingsOf l dC dI h cI cL cZ σ v_1 (v_7 + (1 : Int32)) v11 _ hC) ⟨gj_cwB X tw_414 tw_5 tw_535 hd_Co_endingsOf rfl rfl ⟨Nat.le_of_ble_eq_true rfl, Nat.le_of_ble_eq_true rfl⟩, X.2.2.2.2.1 _ tw_412, X.2.2.2.2.1 _ tw_413⟩ 12 rfl rfl hA rfl (Nat.le_of_ble_eq_true rfl) ⟨Nat.zero_le _, Nat.zero_le _⟩ d_Li_numberInRule_133 rfl (fun r13 σ12 hC => ?_)
        refine gj_lmul X d_Li_numberInRule_136 ?_
        refine gj_ladd X d_Li_numberInRule_137 ?_
        refine gj_topl (fun v14 ev14 => ?_)
        have hC := hC v14 ev14
        refine gj_lstore_n (L' := [(3, .long v14), (5, .int v11), (0, .ref (h 29)), (1, .int v_1), (6, .int v_6), (7, .int v_7), (8, .int v_8), (9, .long v_9), (11, .int v_11)]) X d_Li_numberInRule_138 rfl (by decide) rfl ?_
        obtain ⟨v15, ev15⟩ : ∃ y : Int32, y = v_7 + 1 := ⟨_, rfl⟩
        have hC := hC v15 ev15
        refine gj_iinc (v := v15) (L' := [(7, .int v15), (3, .long v14), (5, .int v11), (0, .ref (h 29)), (1, .int v_1), (6, .int v_6), (8, .int v_8), (9, .long v_9), (11, .int v_11)]) X d_Li_numberInRule_139 5 rfl (by rw [ev15]; rfl) (by decide) rfl ?_
        refine gj_goto (tgt := 17) X d_Li_numberInRule_142 (by decide) ?_
        exact gj_loc [3, 4, 1, 2, 5, 0] rfl hC
      · have hC := hC.2 c0
        refine gj_lload_n X d_Li_numberInRule_89 rfl 2 rfl ?_
        refine gj_aload_n X d_Li_numberInRule_90 rfl 0 rfl ?_
        refine gj_get X inX5 29 rfl rfl 1 (by decide) tw_192 rfl rfl d_Li_numberInRule_91 ?_
        refine gj_iload_n X d_Li_numberInRule_94 rfl 1 rfl ?_
        refine gj_iload X d_Li_numberInRule_95 5 rfl ?_
        refine gj_iload X d_Li_numberInRule_97 8 rfl ?_
        refine gj_iload X d_Li_numberInRule_99 3 rfl ?_
        refine gj_callVL (As := [.int v_1, .int v_7, .int v_11, .int v_5]) (st := [.long v_3]) X (c_Co_endingsWith l dC dI h cI cL cZ σ v_1 v_7 v_11 v_5 _ hC) ⟨gj_cwB X tw_476 tw_5 tw_540 hd_Co_endingsWith rfl rfl ⟨Nat.le_of_ble_eq_true rfl, Nat.le_of_ble_eq_true rfl⟩, X.2.2.2.2.1 _ tw_474, X.2.2.2.2.1 _ tw_475⟩ 12 rfl rfl hA rfl (Nat.le_of_ble_eq_true rfl) ⟨Nat.zero_le _, Nat.zero_le _⟩ d_Li_numberInRule_101 rfl (fun r17 σ16 hC => ?_)
        refine gj_ladd X d_Li_numberInRule_104 ?_
        refine gj_topl (fun v18 ev18 => ?_)
        have hC := hC v18 ev18
        refine gj_lstore_n (L' := [(3, .long v18), (0, .ref (h 29)), (1, .int v_1), (5, .int v_5), (6, .int v_6), (7, .int v_7), (8, .int v_8), (9, .long v_9), (11, .int v_11)]) X d_Li_numberInRule_105 rfl (by decide) rfl ?_
        obtain ⟨v19, ev19⟩ : ∃ y : Int32, y = v_11 + 1 := ⟨_, rfl⟩
        have hC := hC v19 ev19
        refine gj_iinc (v := v19) (L' := [(11, .int v19), (3, .long v18), (0, .ref (h 29)), (1, .int v_1), (5, .int v_5), (6, .int v_6), (7, .int v_7), (8, .int v_8), (9, .long v_9)]) X d_Li_numberInRule_106 8 rfl (by rw [ev19]; rfl) (by decide) rfl ?_
        refine gj_goto (tgt := 82) X d_Li_numberInRule_109 (by decide) ?_
        exact gj_loc [2, 3, 1, 4, 5, 6, 7, 8, 0] rfl hC)
  refine gj_lconst (v := 0) X d_Li_numberInRule_0 (by decide) ?_
  refine gj_lstore_n (L' := [(3, .long (0 : Int64)), (0, .ref (h 29)), (1, .int a0), (2, .int a1)]) X d_Li_numberInRule_1 rfl (by decide) rfl ?_
  refine gj_iload_n X d_Li_numberInRule_2 rfl 3 rfl ?_
  refine gj_istore (L' := [(5, .int a1), (3, .long (0 : Int64)), (0, .ref (h 29)), (1, .int a0), (2, .int a1)]) X d_Li_numberInRule_3 (by decide) rfl ?_
  refine gj_aload_n X d_Li_numberInRule_5 rfl 2 rfl ?_
  refine gj_get X inX5 29 rfl rfl 2 (by decide) tw_193 rfl rfl d_Li_numberInRule_6 ?_
  refine gj_getN X inX6 18 rfl rfl 3 (by decide) tn_126 rfl rfl d_Li_numberInRule_9 ?_
  refine gj_topi (fun v1 ev1 => ?_)
  have hC := hC v1 ev1
  refine gj_istore (L' := [(6, .int v1), (5, .int a1), (3, .long (0 : Int64)), (0, .ref (h 29)), (1, .int a0), (2, .int a1)]) X d_Li_numberInRule_12 (by decide) rfl ?_
  refine gj_iconst (v := 0) X d_Li_numberInRule_14 (by decide) ?_
  refine gj_istore (L' := [(7, .int (0 : Int32)), (6, .int v1), (5, .int a1), (3, .long (0 : Int64)), (0, .ref (h 29)), (1, .int a0), (2, .int a1)]) X d_Li_numberInRule_15 (by decide) rfl ?_
  exact gj_loc [4, 5, 3, 2, 1, 0] rfl hC
abbrev rm_Li_fold : Room := { frames := 3, cells := 0, slots := 0, locals := 81 }
set_option maxHeartbeats 4000000 in
set_option maxRecDepth 100000 in
theorem c_Li_fold (l : Launch) (dC : Nat → ClassId) (dI : Nat → Nat → Nat) (h : Nat → Nat) (cI cL cZ : ClassId) (σ : gs_St) (a0 : Int32) (K : Int32 → gs_St → Prop) (hC : C_Li_fold a0 σ K) : gj_MI l y_Li_fold (gj_ws y_Li_fold b_Li_fold 6 (some .boolean)) rm_Li_fold (dC, dI) gs_C (gs_T cI cL cZ) ((wG h cI cL) σ) (wG h cI cL) [.ref (h 29), .int a0] (fun r u => K r u ∧ (r = 0 ∨ r = 1)) := by
  refine gj_enterZ (by decide) (Nat.le_of_ble_eq_true rfl) (fun p e s m args below meth c A X hr hlk hA hnm => ?_)
  change gj_J p l e rm_Li_fold s m args below meth c 0 0 (MQ below (va_Qi (fun r u => K r u ∧ (r = 0 ∨ r = 1)) (gj_at (dC, dI) gs_C (gs_T cI cL cZ) (wG h cI cL) A) A) args s 0 0 A) (dC, dI) gs_C A 6 0 [(0, .ref (h 29)), (1, .int a0)] [] ((wG h cI cL) σ)
  have hC := hC
    (fun (v_1 : Int32) (v_2 : Int32) (v_3 : Int32) (v_4 : Int32) (σ : gs_St) => gj_J p l e rm_Li_fold s m args below meth c 0 0 (MQ below (va_Qi (fun r u => K r u ∧ (r = 0 ∨ r = 1)) (gj_at (dC, dI) gs_C (gs_T cI cL cZ) (wG h cI cL) A) A) args s 0 0 A) (dC, dI) gs_C A 6 13 [(0, .ref (h 29)), (1, .int v_1), (2, .int v_2), (3, .int v_3), (4, .int v_4)] [] ((wG h cI cL) σ))
    (by
      intro v_1 v_2 v_3 v_4 σ hC
      refine gj_iload X d_Li_fold_13 4 rfl ?_
      refine gj_aload_n X d_Li_fold_15 rfl 0 rfl ?_
      refine gj_get X inX5 29 rfl rfl 0 (by decide) tw_191 rfl rfl d_Li_fold_16 ?_
      refine gj_iload_n X d_Li_fold_19 rfl 1 rfl ?_
      refine gj_callVI (As := [.int v_1]) (st := [.int v_4]) X (c_Gr_sizeOf l dC dI h cI cL cZ σ v_1 _ hC) ⟨gj_cwB X tw_280 tw_2 tw_519 hd_Gr_sizeOf rfl rfl ⟨Nat.le_of_ble_eq_true rfl, Nat.le_of_ble_eq_true rfl⟩, X.2.2.2.2.1 _ tw_278, X.2.2.2.2.1 _ tw_279⟩ 2 rfl rfl hA rfl (Nat.le_of_ble_eq_true rfl) ⟨Nat.zero_le _, Nat.zero_le _⟩ d_Li_fold_20 rfl (fun r3 σ2 hC => ?_)
      refine gj_icmp_ge (tgt := 93) X d_Li_fold_23 (by decide) (fun c0 => ?_) (fun c0 => ?_)
      · have hC := hC.1 c0
        refine gj_aload_n X d_Li_fold_93 rfl 0 rfl ?_
        refine gj_iload_n X d_Li_fold_94 rfl 1 rfl ?_
        refine gj_iload_n X d_Li_fold_95 rfl 2 rfl ?_
        refine gj_callVL (As := [.int v_1, .int v_2]) (st := []) X (c_Li_treesBefore l dC dI h cI cL cZ σ2 v_1 v_2 _ hC) ⟨gj_cwB X tw_533 tw_9 tw_530 hd_Li_treesBefore rfl rfl ⟨Nat.le_of_ble_eq_true rfl, Nat.le_of_ble_eq_true rfl⟩, X.2.2.2.2.1 _ tw_532, X.2.2.2.2.1 _ ts_14⟩ 29 rfl rfl hA rfl (Nat.le_of_ble_eq_true rfl) ⟨Nat.zero_le _, Nat.zero_le _⟩ d_Li_fold_96 rfl (fun r5 σ4 hC => ?_)
        refine gj_aload_n X d_Li_fold_99 rfl 0 rfl ?_
        refine gj_iload_n X d_Li_fold_100 rfl 1 rfl ?_
        refine gj_iload_n X d_Li_fold_101 rfl 2 rfl ?_
        refine gj_callVL (As := [.int v_1, .int v_2]) (st := [.long r5]) X (c_Li_numberInRule l dC dI h cI cL cZ σ4 v_1 v_2 _ hC) ⟨gj_cwB X tw_539 tw_9 tw_536 hd_Li_numberInRule rfl rfl ⟨Nat.le_of_ble_eq_true rfl, Nat.le_of_ble_eq_true rfl⟩, X.2.2.2.2.1 _ tw_538, X.2.2.2.2.1 _ ts_15⟩ 29 rfl rfl hA rfl (Nat.le_of_ble_eq_true rfl) ⟨Nat.zero_le _, Nat.zero_le _⟩ d_Li_fold_102 rfl (fun r7 σ6 hC => ?_)
        refine gj_ladd X d_Li_fold_105 ?_
        refine gj_topl (fun v8 ev8 => ?_)
        have hC := hC v8 ev8
        refine gj_lstore (L' := [(4, .long v8), (0, .ref (h 29)), (1, .int v_1), (2, .int v_2), (3, .int v_3)]) X d_Li_fold_106 (by decide) rfl ?_
        refine gj_aload_n X d_Li_fold_108 rfl 1 rfl ?_
        refine gj_get X inX5 29 rfl rfl 2 (by decide) tw_193 rfl rfl d_Li_fold_109 ?_
        refine gj_iload_n X d_Li_fold_112 rfl 4 rfl ?_
        refine gj_aload_n X d_Li_fold_113 rfl 1 rfl ?_
        refine gj_get X inX5 29 rfl rfl 0 (by decide) tw_191 rfl rfl d_Li_fold_114 ?_
        refine gj_iload_n X d_Li_fold_117 rfl 2 rfl ?_
        refine gj_callVI (As := [.int v_1]) (st := [.int v_3, .ref (h 18)]) X (c_Gr_leftOf l dC dI h cI cL cZ σ6 v_1 _ hC) ⟨gj_cwB X tw_284 tw_2 tw_534 hd_Gr_leftOf rfl rfl ⟨Nat.le_of_ble_eq_true rfl, Nat.le_of_ble_eq_true rfl⟩, X.2.2.2.2.1 _ tw_282, X.2.2.2.2.1 _ tw_283⟩ 2 rfl rfl hA rfl (Nat.le_of_ble_eq_true rfl) ⟨Nat.zero_le _, Nat.zero_le _⟩ d_Li_fold_118 rfl (fun r10 σ9 hC => ?_)
        refine gj_iload_n X d_Li_fold_121 rfl 3 rfl ?_
        refine gj_lload X d_Li_fold_122 0 rfl ?_
        refine gj_callVV (As := [.int v_3, .int r10, .int v_2, .long v8]) (st := []) X (c_Pi_put l dC dI h cI cL cZ σ9 v_3 r10 v_2 v8 _ hC) ⟨gj_cwB X tw_446 tw_6 tw_541 hd_Pi_put rfl rfl ⟨Nat.le_of_ble_eq_true rfl, Nat.le_of_ble_eq_true rfl⟩, X.2.2.2.2.1 _ tw_444, X.2.2.2.2.1 _ tw_445⟩ 18 rfl rfl hA rfl (Nat.le_of_ble_eq_true rfl) ⟨Nat.zero_le _, Nat.zero_le _⟩ d_Li_fold_124 rfl (fun σ11 hC => ?_)
        refine gj_aload_n X d_Li_fold_127 rfl 1 rfl ?_
        refine gj_get X inX5 29 rfl rfl 2 (by decide) tw_193 rfl rfl d_Li_fold_128 ?_
        refine gj_iload_n X d_Li_fold_131 rfl 4 rfl ?_
        refine gj_iconst (v := 1) X d_Li_fold_132 (by decide) ?_
        refine gj_iadd X d_Li_fold_133 ?_
        refine gj_putN (w' := (wG h cI cL) (gs_I σ11 8 (v_3 + (1 : Int32)))) X inX6 tyX6 tyX6_ok nmX6 18 rfl rfl 3 (by decide) tn_126 rfl rfl (tyX6_ok 3 (by decide)) rfl rfl (Nat.le_of_ble_eq_true rfl) (set_wG_I8 h cI cL σ11 _) d_Li_fold_134 ?_
        refine gj_topw (wof := (wG h cI cL)) (fun σ12 eσ12 => ?_)
        have hC := hC σ12 eσ12
        refine gj_iconst (v := 1) X d_Li_fold_137 (by decide) ?_
        exact gj_zret X hr hlk (by decide) ⟨hC, Or.inr rfl⟩ d_Li_fold_138
      · have hC := hC.2 c0
        refine gj_aload_n X d_Li_fold_26 rfl 0 rfl ?_
        refine gj_get X inX5 29 rfl rfl 0 (by decide) tw_191 rfl rfl d_Li_fold_27 ?_
        refine gj_iload_n X d_Li_fold_30 rfl 1 rfl ?_
        refine gj_iload X d_Li_fold_31 4 rfl ?_
        refine gj_callVI (As := [.int v_1, .int v_4]) (st := []) X (c_Gr_symbolAt l dC dI h cI cL cZ σ2 v_1 v_4 _ hC) ⟨gj_cwB X tw_288 tw_2 tw_528 hd_Gr_symbolAt rfl rfl ⟨Nat.le_of_ble_eq_true rfl, Nat.le_of_ble_eq_true rfl⟩, X.2.2.2.2.1 _ tw_286, X.2.2.2.2.1 _ tw_287⟩ 2 rfl rfl hA rfl (Nat.le_of_ble_eq_true rfl) ⟨Nat.zero_le _, Nat.zero_le _⟩ d_Li_fold_33 rfl (fun r14 σ13 hC => ?_)
        refine gj_istore (L' := [(5, .int r14), (0, .ref (h 29)), (1, .int v_1), (2, .int v_2), (3, .int v_3), (4, .int v_4)]) X d_Li_fold_36 (by decide) rfl ?_
        refine gj_iload X d_Li_fold_38 0 rfl ?_
        refine gj_callSNI (As := [.int r14]) (st := []) X (c_Gl_isNonterminal l dC dI h cI cL cZ σ13 r14 _ hC) ⟨gj_cwN X tw_249 tw_1 tn_529 hd_Gl_isNonterminal rfl rfl ⟨Nat.le_of_ble_eq_true rfl, Nat.le_of_ble_eq_true rfl⟩, X.2.2.2.2.1 _ tw_248, trivial⟩ hA rfl (Nat.le_of_ble_eq_true rfl) ⟨Nat.zero_le _, Nat.zero_le _⟩ d_Li_fold_40 rfl (fun r16 σ15 hC => ?_)
        obtain ⟨hC, hb⟩ := hC
        refine gj_if_ne (tgt := 52) X d_Li_fold_43 (by decide) (fun c0 => ?_) (fun c0 => ?_)
        · have hC := hC.1 c0
          obtain ⟨v17, ev17⟩ : ∃ y : Int32, y = v_3 + (-1) := ⟨_, rfl⟩
          have hC := hC v17 ev17
          refine gj_iinc (v := v17) (L' := [(3, .int v17), (5, .int r14), (0, .ref (h 29)), (1, .int v_1), (2, .int v_2), (4, .int v_4)]) X d_Li_fold_52 4 rfl (by rw [ev17]; rfl) (by decide) rfl ?_
          refine gj_iload_n X d_Li_fold_55 rfl 0 rfl ?_
          refine gj_if_lt (tgt := 73) X d_Li_fold_56 (by decide) (fun c0 => ?_) (fun c0 => ?_)
          · have hC := hC.1 c0
            refine gj_iconst (v := 0) X d_Li_fold_73 (by decide) ?_
            exact gj_zret X hr hlk (by decide) ⟨hC, Or.inl rfl⟩ d_Li_fold_74
          · have hC := hC.2 c0
            refine gj_aload_n X d_Li_fold_59 rfl 2 rfl ?_
            refine gj_get X inX5 29 rfl rfl 2 (by decide) tw_193 rfl rfl d_Li_fold_60 ?_
            refine gj_getN X inX6 18 rfl rfl 0 (by decide) tn_118 rfl rfl d_Li_fold_63 ?_
            refine gj_iload_n X d_Li_fold_66 rfl 0 rfl ?_
            refine gj_iald X 19 0 rfl rfl hC.1 d_Li_fold_67 ?_
            have hC := hC.2
            refine gj_iload X d_Li_fold_68 1 rfl ?_
            refine gj_icmp_eq (tgt := 75) X d_Li_fold_70 (by decide) (fun c0 => ?_) (fun c0 => ?_)
            · have hC := hC.1 c0
              refine gj_iload_n X d_Li_fold_75 rfl 4 rfl ?_
              refine gj_aload_n X d_Li_fold_76 rfl 2 rfl ?_
              refine gj_get X inX5 29 rfl rfl 2 (by decide) tw_193 rfl rfl d_Li_fold_77 ?_
              refine gj_getN X inX6 18 rfl rfl 1 (by decide) tn_122 rfl rfl d_Li_fold_80 ?_
              refine gj_iload_n X d_Li_fold_83 rfl 0 rfl ?_
              refine gj_iald X 20 0 rfl rfl hC.1 d_Li_fold_84 ?_
              have hC := hC.2
              refine gj_iadd X d_Li_fold_85 ?_
              refine gj_topi (fun v18 ev18 => ?_)
              have hC := hC v18 ev18
              refine gj_istore_n (L' := [(2, .int v18), (3, .int v17), (5, .int r14), (0, .ref (h 29)), (1, .int v_1), (4, .int v_4)]) X d_Li_fold_86 rfl (by decide) rfl ?_
              obtain ⟨v19, ev19⟩ : ∃ y : Int32, y = v_4 + 1 := ⟨_, rfl⟩
              have hC := hC v19 ev19
              refine gj_iinc (v := v19) (L' := [(4, .int v19), (2, .int v18), (3, .int v17), (5, .int r14), (0, .ref (h 29)), (1, .int v_1)]) X d_Li_fold_87 5 rfl (by rw [ev19]; rfl) (by decide) rfl ?_
              refine gj_goto (tgt := 13) X d_Li_fold_90 (by decide) ?_
              exact gj_loc [4, 5, 1, 2, 0] rfl hC
            · have hC := hC.2 c0
              refine gj_iconst (v := 0) X d_Li_fold_73 (by decide) ?_
              exact gj_zret X hr hlk (by decide) ⟨hC, Or.inl rfl⟩ d_Li_fold_74
        · have hC := hC.2 c0
          obtain ⟨v20, ev20⟩ : ∃ y : Int32, y = v_2 + 1 := ⟨_, rfl⟩
          have hC := hC v20 ev20
          refine gj_iinc (v := v20) (L' := [(2, .int v20), (5, .int r14), (0, .ref (h 29)), (1, .int v_1), (3, .int v_3), (4, .int v_4)]) X d_Li_fold_46 3 rfl (by rw [ev20]; rfl) (by decide) rfl ?_
          refine gj_goto (tgt := 87) X d_Li_fold_49 (by decide) ?_
          obtain ⟨v21, ev21⟩ : ∃ y : Int32, y = v_4 + 1 := ⟨_, rfl⟩
          have hC := hC v21 ev21
          refine gj_iinc (v := v21) (L' := [(4, .int v21), (2, .int v20), (5, .int r14), (0, .ref (h 29)), (1, .int v_1), (3, .int v_3)]) X d_Li_fold_87 5 rfl (by rw [ev21]; rfl) (by decide) rfl ?_
          refine gj_goto (tgt := 13) X d_Li_fold_90 (by decide) ?_
          exact gj_loc [3, 4, 1, 5, 0] rfl hC)
  refine gj_iconst (v := 0) X d_Li_fold_0 (by decide) ?_
  refine gj_istore_n (L' := [(2, .int (0 : Int32)), (0, .ref (h 29)), (1, .int a0)]) X d_Li_fold_1 rfl (by decide) rfl ?_
  refine gj_aload_n X d_Li_fold_2 rfl 1 rfl ?_
  refine gj_get X inX5 29 rfl rfl 2 (by decide) tw_193 rfl rfl d_Li_fold_3 ?_
  refine gj_getN X inX6 18 rfl rfl 3 (by decide) tn_126 rfl rfl d_Li_fold_6 ?_
  refine gj_topi (fun v1 ev1 => ?_)
  have hC := hC v1 ev1
  refine gj_istore_n (L' := [(3, .int v1), (2, .int (0 : Int32)), (0, .ref (h 29)), (1, .int a0)]) X d_Li_fold_9 rfl (by decide) rfl ?_
  refine gj_iconst (v := 0) X d_Li_fold_10 (by decide) ?_
  refine gj_istore (L' := [(4, .int (0 : Int32)), (3, .int v1), (2, .int (0 : Int32)), (0, .ref (h 29)), (1, .int a0)]) X d_Li_fold_11 (by decide) rfl ?_
  exact gj_loc [3, 4, 2, 1, 0] rfl hC
abbrev rm_Li_numberOf : Room := { frames := 6, cells := 0, slots := 0, locals := 141 }
set_option maxHeartbeats 4000000 in
set_option maxRecDepth 100000 in
theorem c_Li_numberOf (l : Launch) (dC : Nat → ClassId) (dI : Nat → Nat → Nat) (h : Nat → Nat) (cI cL cZ : ClassId) (σ : gs_St) (a0 : Int32) (K : Int64 → gs_St → Prop) (hC : C_Li_numberOf a0 σ K) : gj_ML l y_Li_numberOf (gj_ws y_Li_numberOf b_Li_numberOf 4 (some .long)) rm_Li_numberOf (dC, dI) gs_C (gs_T cI cL cZ) ((wG h cI cL) σ) (wG h cI cL) [.ref (h 29), .int a0] K := by
  refine gj_enterL (by decide) (Nat.le_of_ble_eq_true rfl) (fun p e s m args below meth c A X hr hlk hA hnm => ?_)
  change gj_J p l e rm_Li_numberOf s m args below meth c 0 0 (MQ below (va_Ql K (gj_at (dC, dI) gs_C (gs_T cI cL cZ) (wG h cI cL) A) A) args s 0 0 A) (dC, dI) gs_C A 4 0 [(0, .ref (h 29)), (1, .int a0)] [] ((wG h cI cL) σ)
  have hC := hC
    (fun (v_1 : Int32) (v_3 : Int32) (σ : gs_St) => gj_J p l e rm_Li_numberOf s m args below meth c 0 0 (MQ below (va_Ql K (gj_at (dC, dI) gs_C (gs_T cI cL cZ) (wG h cI cL) A) A) args s 0 0 A) (dC, dI) gs_C A 4 51 [(0, .ref (h 29)), (1, .int v_1), (3, .int v_3)] [] ((wG h cI cL) σ))
    (by
      intro v_1 v_3 σ hC
      refine gj_iload_n X d_Li_numberOf_51 rfl 2 rfl ?_
      refine gj_if_lt (tgt := 78) X d_Li_numberOf_52 (by decide) (fun c0 => ?_) (fun c0 => ?_)
      · have hC := hC.1 c0
        refine gj_aload_n X d_Li_numberOf_78 rfl 0 rfl ?_
        refine gj_get X inX5 29 rfl rfl 2 (by decide) tw_193 rfl rfl d_Li_numberOf_79 ?_
        refine gj_getN X inX6 18 rfl rfl 3 (by decide) tn_126 rfl rfl d_Li_numberOf_82 ?_
        refine gj_iconst (v := 1) X d_Li_numberOf_85 (by decide) ?_
        refine gj_icmp_ne (tgt := 114) X d_Li_numberOf_86 (by decide) (fun c0 => ?_) (fun c0 => ?_)
        · have hC := hC.1 c0
          refine gj_ldc2 (v := -1) X tw_523 d_Li_numberOf_114 ?_
          exact gj_lret X hr hlk hC d_Li_numberOf_117
        · have hC := hC.2 c0
          refine gj_aload_n X d_Li_numberOf_89 rfl 0 rfl ?_
          refine gj_get X inX5 29 rfl rfl 2 (by decide) tw_193 rfl rfl d_Li_numberOf_90 ?_
          refine gj_getN X inX6 18 rfl rfl 0 (by decide) tn_118 rfl rfl d_Li_numberOf_93 ?_
          refine gj_iconst (v := 0) X d_Li_numberOf_96 (by decide) ?_
          refine gj_iald X 19 0 rfl rfl hC.1 d_Li_numberOf_97 ?_
          have hC := hC.2
          refine gj_iload_n X d_Li_numberOf_98 rfl 1 rfl ?_
          refine gj_icmp_ne (tgt := 114) X d_Li_numberOf_99 (by decide) (fun c0 => ?_) (fun c0 => ?_)
          · have hC := hC.1 c0
            refine gj_ldc2 (v := -1) X tw_523 d_Li_numberOf_114 ?_
            exact gj_lret X hr hlk hC d_Li_numberOf_117
          · have hC := hC.2 c0
            refine gj_aload_n X d_Li_numberOf_102 rfl 0 rfl ?_
            refine gj_get X inX5 29 rfl rfl 2 (by decide) tw_193 rfl rfl d_Li_numberOf_103 ?_
            refine gj_getN X inX6 18 rfl rfl 2 (by decide) tn_124 rfl rfl d_Li_numberOf_106 ?_
            refine gj_iconst (v := 0) X d_Li_numberOf_109 (by decide) ?_
            refine gj_lald X 21 1 rfl rfl hC.1 d_Li_numberOf_110 ?_
            have hC := hC.2
            refine gj_goto (tgt := 117) X d_Li_numberOf_111 (by decide) ?_
            exact gj_lret X hr hlk hC d_Li_numberOf_117
      · have hC := hC.2 c0
        refine gj_aload_n X d_Li_numberOf_55 rfl 0 rfl ?_
        refine gj_aload_n X d_Li_numberOf_56 rfl 0 rfl ?_
        refine gj_get X inX5 29 rfl rfl 3 (by decide) tw_194 rfl rfl d_Li_numberOf_57 ?_
        refine gj_iload_n X d_Li_numberOf_60 rfl 2 rfl ?_
        refine gj_iald X 30 0 rfl rfl hC.1 d_Li_numberOf_61 ?_
        have hC := hC.2
        refine gj_callVI (As := [.int (σ.2.1 14 v_3.toNatClampNeg)]) (st := []) X (c_Li_fold l dC dI h cI cL cZ σ (σ.2.1 14 v_3.toNatClampNeg) _ hC) ⟨gj_cwB X tw_527 tw_9 tw_524 hd_Li_fold rfl rfl ⟨Nat.le_of_ble_eq_true rfl, Nat.le_of_ble_eq_true rfl⟩, X.2.2.2.2.1 _ tw_526, X.2.2.2.2.1 _ ts_13⟩ 29 rfl rfl hA rfl (Nat.le_of_ble_eq_true rfl) ⟨Nat.zero_le _, Nat.zero_le _⟩ d_Li_numberOf_62 rfl (fun r8 σ7 hC => ?_)
        obtain ⟨hC, hb⟩ := hC
        refine gj_if_ne (tgt := 72) X d_Li_numberOf_65 (by decide) (fun c0 => ?_) (fun c0 => ?_)
        · have hC := hC.1 c0
          obtain ⟨v9, ev9⟩ : ∃ y : Int32, y = v_3 + (-1) := ⟨_, rfl⟩
          have hC := hC v9 ev9
          refine gj_iinc (v := v9) (L' := [(3, .int v9), (0, .ref (h 29)), (1, .int v_1)]) X d_Li_numberOf_72 2 rfl (by rw [ev9]; rfl) (by decide) rfl ?_
          refine gj_goto (tgt := 51) X d_Li_numberOf_75 (by decide) ?_
          exact gj_loc [1, 2, 0] rfl hC
        · have hC := hC.2 c0
          refine gj_ldc2 (v := -1) X tw_523 d_Li_numberOf_68 ?_
          exact gj_lret X hr hlk hC d_Li_numberOf_71)
  refine gj_aload_n X d_Li_numberOf_0 rfl 0 rfl ?_
  refine gj_callVI (As := []) (st := []) X (c_Li_terminals l dC dI h cI cL cZ σ _ hC) ⟨gj_cwB X tw_517 tw_9 tw_514 hd_Li_terminals rfl rfl ⟨Nat.le_of_ble_eq_true rfl, Nat.le_of_ble_eq_true rfl⟩, X.2.2.2.2.1 _ tw_516, X.2.2.2.2.1 _ ts_12⟩ 29 rfl rfl hA rfl (Nat.le_of_ble_eq_true rfl) ⟨Nat.zero_le _, Nat.zero_le _⟩ d_Li_numberOf_1 rfl (fun r2 σ1 hC => ?_)
  refine gj_istore_n (L' := [(2, .int r2), (0, .ref (h 29)), (1, .int a0)]) X d_Li_numberOf_4 rfl (by decide) rfl ?_
  refine gj_iload_n X d_Li_numberOf_5 rfl 0 rfl ?_
  refine gj_iconst (v := -1) X d_Li_numberOf_6 (by decide) ?_
  refine gj_icmp_eq (tgt := 32) X d_Li_numberOf_7 (by decide) (fun c0 => ?_) (fun c0 => ?_)
  · have hC := hC.1 c0
    refine gj_ldc2 (v := -1) X tw_523 d_Li_numberOf_32 ?_
    exact gj_lret X hr hlk hC d_Li_numberOf_35
  · have hC := hC.2 c0
    refine gj_iload_n X d_Li_numberOf_10 rfl 0 rfl ?_
    refine gj_bipush (v := 16) X d_Li_numberOf_11 (by decide) ?_
    refine gj_icmp_gt (tgt := 32) X d_Li_numberOf_13 (by decide) (fun c0 => ?_) (fun c0 => ?_)
    · have hC := hC.1 c0
      refine gj_ldc2 (v := -1) X tw_523 d_Li_numberOf_32 ?_
      exact gj_lret X hr hlk hC d_Li_numberOf_35
    · have hC := hC.2 c0
      refine gj_aload_n X d_Li_numberOf_16 rfl 1 rfl ?_
      refine gj_get X inX5 29 rfl rfl 1 (by decide) tw_192 rfl rfl d_Li_numberOf_17 ?_
      refine gj_iload_n X d_Li_numberOf_20 rfl 2 rfl ?_
      refine gj_iload_n X d_Li_numberOf_21 rfl 0 rfl ?_
      refine gj_callVL (As := [.int a0, .int r2]) (st := []) X (c_Co_treesOf l dC dI h cI cL cZ σ1 a0 r2 _ hC) ⟨gj_cwB X tw_376 tw_5 tw_521 hd_Co_treesOf rfl rfl ⟨Nat.le_of_ble_eq_true rfl, Nat.le_of_ble_eq_true rfl⟩, X.2.2.2.2.1 _ tw_374, X.2.2.2.2.1 _ tw_375⟩ 12 rfl rfl hA rfl (Nat.le_of_ble_eq_true rfl) ⟨Nat.zero_le _, Nat.zero_le _⟩ d_Li_numberOf_22 rfl (fun r4 σ3 hC => ?_)
      refine gj_ldc2 (v := 1000000000000000000) X tw_522 d_Li_numberOf_25 ?_
      refine gj_lcmp_le (tgt := 36) X d_Li_numberOf_28 d_Li_numberOf_29 (by decide) (fun c0 => ?_) (fun c0 => ?_)
      · have hC := hC.1 c0
        refine gj_aload_n X d_Li_numberOf_36 rfl 1 rfl ?_
        refine gj_get X inX5 29 rfl rfl 2 (by decide) tw_193 rfl rfl d_Li_numberOf_37 ?_
        refine gj_iconst (v := 0) X d_Li_numberOf_40 (by decide) ?_
        refine gj_putN (w' := (wG h cI cL) (gs_I σ3 8 (0 : Int32))) X inX6 tyX6 tyX6_ok nmX6 18 rfl rfl 3 (by decide) tn_126 rfl rfl (tyX6_ok 3 (by decide)) rfl rfl (Nat.le_of_ble_eq_true rfl) (set_wG_I8 h cI cL σ3 _) d_Li_numberOf_41 ?_
        refine gj_topw (wof := (wG h cI cL)) (fun σ5 eσ5 => ?_)
        have hC := hC σ5 eσ5
        refine gj_aload_n X d_Li_numberOf_44 rfl 1 rfl ?_
        refine gj_get X inX5 29 rfl rfl 4 (by decide) tw_195 rfl rfl d_Li_numberOf_45 ?_
        refine gj_iconst (v := 1) X d_Li_numberOf_48 (by decide) ?_
        refine gj_isub X d_Li_numberOf_49 ?_
        refine gj_topi (fun v6 ev6 => ?_)
        have hC := hC v6 ev6
        refine gj_istore_n (L' := [(3, .int v6), (2, .int r2), (0, .ref (h 29)), (1, .int a0)]) X d_Li_numberOf_50 rfl (by decide) rfl ?_
        exact gj_loc [2, 3, 0] rfl hC
      · have hC := hC.2 c0
        refine gj_ldc2 (v := -1) X tw_523 d_Li_numberOf_32 ?_
        exact gj_lret X hr hlk hC d_Li_numberOf_35
abbrev rm_Gl_number : Room := { frames := 7, cells := 0, slots := 0, locals := 164 }
set_option maxHeartbeats 4000000 in
set_option maxRecDepth 100000 in
theorem c_Gl_number (l : Launch) (dC : Nat → ClassId) (dI : Nat → Nat → Nat) (h : Nat → Nat) (cI cL cZ : ClassId) (σ : gs_St) (a0 : Int32) (K : Int64 → gs_St → Prop) (hC : C_Gl_number a0 σ K) : gj_ML l y_Gl_number (gj_ws y_Gl_number b_Gl_number 4 (some .long)) rm_Gl_number (dC, dI) gs_C (gs_T cI cL cZ) ((wG h cI cL) σ) (wG h cI cL) [.ref (h 0), .int a0] K := by
  refine gj_enterL (by decide) (Nat.le_of_ble_eq_true rfl) (fun p e s m args below meth c A X hr hlk hA hnm => ?_)
  change gj_J p l e rm_Gl_number s m args below meth c 0 0 (MQ below (va_Ql K (gj_at (dC, dI) gs_C (gs_T cI cL cZ) (wG h cI cL) A) A) args s 0 0 A) (dC, dI) gs_C A 4 0 [(0, .ref (h 0)), (1, .int a0)] [] ((wG h cI cL) σ)
  refine gj_ldc2 (v := -1) X tw_372 d_Gl_number_0 ?_
  refine gj_lstore_n (L' := [(2, .long (-1 : Int64)), (0, .ref (h 0)), (1, .int a0)]) X d_Gl_number_3 rfl (by decide) rfl ?_
  refine gj_iload_n X d_Gl_number_4 rfl 2 rfl ?_
  refine gj_callSI (As := [.int a0]) (st := []) X (c_Gl_isNonterminal l dC dI h cI cL cZ σ a0 _ hC) ⟨gj_cwB X tw_249 tw_1 tw_247 hd_Gl_isNonterminal rfl rfl ⟨Nat.le_of_ble_eq_true rfl, Nat.le_of_ble_eq_true rfl⟩, X.2.2.2.2.1 _ tw_248⟩ hA rfl (Nat.le_of_ble_eq_true rfl) ⟨Nat.zero_le _, Nat.zero_le _⟩ d_Gl_number_5 rfl (fun r2 σ1 hC => ?_)
  obtain ⟨hC, hb⟩ := hC
  refine gj_if_eq (tgt := 27) X d_Gl_number_8 (by decide) (fun c0 => ?_) (fun c0 => ?_)
  · have hC := hC.1 c0
    refine gj_aload_n X d_Gl_number_27 rfl 1 rfl ?_
    refine gj_get X inX8 0 rfl rfl 8 (by decide) tw_216 rfl rfl d_Gl_number_28 ?_
    refine gj_iconst (v := 0) X d_Gl_number_31 (by decide) ?_
    refine gj_putN (w' := (wG h cI cL) (gs_I σ1 14 (0 : Int32))) X inX5 tyX5 tyX5_ok nmX5 29 rfl rfl 4 (by decide) tn_196 rfl rfl (tyX5_ok 4 (by decide)) rfl rfl (Nat.le_of_ble_eq_true rfl) (set_wG_I14 h cI cL σ1 _) d_Gl_number_32 ?_
    refine gj_topw (wof := (wG h cI cL)) (fun σ3 eσ3 => ?_)
    have hC := hC σ3 eσ3
    refine gj_lload_n X d_Gl_number_35 rfl 0 rfl ?_
    exact gj_lret X hr hlk hC d_Gl_number_36
  · have hC := hC.2 c0
    refine gj_aload_n X d_Gl_number_11 rfl 1 rfl ?_
    refine gj_callVI (As := []) (st := []) X (c_Gl_circle l dC dI h cI cL cZ σ1 _ hC) ⟨gj_cwB X tw_359 tw_1 tw_509 hd_Gl_circle rfl rfl ⟨Nat.le_of_ble_eq_true rfl, Nat.le_of_ble_eq_true rfl⟩, X.2.2.2.2.1 _ tw_357, X.2.2.2.2.1 _ tw_358⟩ 0 rfl rfl hA rfl (Nat.le_of_ble_eq_true rfl) ⟨Nat.zero_le _, Nat.zero_le _⟩ d_Gl_number_12 rfl (fun r5 σ4 hC => ?_)
    obtain ⟨hC, hb⟩ := hC
    refine gj_if_ne (tgt := 27) X d_Gl_number_15 (by decide) (fun c0 => ?_) (fun c0 => ?_)
    · have hC := hC.1 c0
      refine gj_aload_n X d_Gl_number_27 rfl 1 rfl ?_
      refine gj_get X inX8 0 rfl rfl 8 (by decide) tw_216 rfl rfl d_Gl_number_28 ?_
      refine gj_iconst (v := 0) X d_Gl_number_31 (by decide) ?_
      refine gj_putN (w' := (wG h cI cL) (gs_I σ4 14 (0 : Int32))) X inX5 tyX5 tyX5_ok nmX5 29 rfl rfl 4 (by decide) tn_196 rfl rfl (tyX5_ok 4 (by decide)) rfl rfl (Nat.le_of_ble_eq_true rfl) (set_wG_I14 h cI cL σ4 _) d_Gl_number_32 ?_
      refine gj_topw (wof := (wG h cI cL)) (fun σ6 eσ6 => ?_)
      have hC := hC σ6 eσ6
      refine gj_lload_n X d_Gl_number_35 rfl 0 rfl ?_
      exact gj_lret X hr hlk hC d_Gl_number_36
    · have hC := hC.2 c0
      refine gj_aload_n X d_Gl_number_18 rfl 1 rfl ?_
      refine gj_get X inX8 0 rfl rfl 8 (by decide) tw_216 rfl rfl d_Gl_number_19 ?_
      refine gj_iload_n X d_Gl_number_22 rfl 2 rfl ?_
      refine gj_callVL (As := [.int a0]) (st := []) X (c_Li_numberOf l dC dI h cI cL cZ σ4 a0 _ hC) ⟨gj_cwB X tw_513 tw_9 tw_510 hd_Li_numberOf rfl rfl ⟨Nat.le_of_ble_eq_true rfl, Nat.le_of_ble_eq_true rfl⟩, X.2.2.2.2.1 _ tw_511, X.2.2.2.2.1 _ tw_512⟩ 29 rfl rfl hA rfl (Nat.le_of_ble_eq_true rfl) ⟨Nat.zero_le _, Nat.zero_le _⟩ d_Gl_number_23 rfl (fun r8 σ7 hC => ?_)
      refine gj_lstore_n (L' := [(2, .long r8), (0, .ref (h 0)), (1, .int a0)]) X d_Gl_number_26 rfl (by decide) rfl ?_
      refine gj_aload_n X d_Gl_number_27 rfl 1 rfl ?_
      refine gj_get X inX8 0 rfl rfl 8 (by decide) tw_216 rfl rfl d_Gl_number_28 ?_
      refine gj_iconst (v := 0) X d_Gl_number_31 (by decide) ?_
      refine gj_putN (w' := (wG h cI cL) (gs_I σ7 14 (0 : Int32))) X inX5 tyX5 tyX5_ok nmX5 29 rfl rfl 4 (by decide) tn_196 rfl rfl (tyX5_ok 4 (by decide)) rfl rfl (Nat.le_of_ble_eq_true rfl) (set_wG_I14 h cI cL σ7 _) d_Gl_number_32 ?_
      refine gj_topw (wof := (wG h cI cL)) (fun σ9 eσ9 => ?_)
      have hC := hC σ9 eσ9
      refine gj_lload_n X d_Gl_number_35 rfl 0 rfl ?_
      exact gj_lret X hr hlk hC d_Gl_number_36
