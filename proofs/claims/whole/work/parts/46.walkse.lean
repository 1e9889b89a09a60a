abbrev rm_Co_pairsw : Room := { frames := 2, cells := 0, slots := 0, locals := 38 }
set_option maxHeartbeats 4000000 in
set_option maxRecDepth 100000 in
theorem c_Co_pairsw (l : Launch) (dC : Nat → ClassId) (dI : Nat → Nat → Nat) (h : Nat → Nat) (cI cL cZ : ClassId) (σ : gs_St) (a0 : Int32) (a1 : Int32) (a2 : Int32) (K : Int64 → gs_St → Prop) (hC : C_Co_pairsw a0 a1 a2 σ K) : gj_ML l y_Co_pairs (gj_ws y_Co_pairs b_Co_pairs 9 (some .long)) rm_Co_pairsw (dC, dI) gs_C (gs_T cI cL cZ) ((wG h cI cL) σ) (wG h cI cL) [.ref (h 15), .int a0, .int a1, .int a2] K := by
  refine gj_enterL (by decide) (Nat.le_of_ble_eq_true rfl) (fun p e s m args below meth c A X hr hlk hA hnm => ?_)
  change gj_J p l e rm_Co_pairsw s m args below meth c 0 0 (MQ below (va_Ql K (gj_at (dC, dI) gs_C (gs_T cI cL cZ) (wG h cI cL) A) A) args s 0 0 A) (dC, dI) gs_C A 9 0 [(0, .ref (h 15)), (1, .int a0), (2, .int a1), (3, .int a2)] [] ((wG h cI cL) σ)
  have hC := hC
    (fun (v_1 : Int32) (v_2 : Int32) (v_3 : Int32) (v_4 : Int64) (v_6 : Int32) (σ : gs_St) => gj_J p l e rm_Co_pairsw s m args below meth c 0 0 (MQ below (va_Ql K (gj_at (dC, dI) gs_C (gs_T cI cL cZ) (wG h cI cL) A) A) args s 0 0 A) (dC, dI) gs_C A 9 6 [(0, .ref (h 15)), (1, .int v_1), (2, .int v_2), (3, .int v_3), (4, .long v_4), (6, .int v_6)] [] ((wG h cI cL) σ))
    (by
      intro v_1 v_2 v_3 v_4 v_6 σ hC
      refine gj_iload X d_Co_pairs_6 5 rfl ?_
      refine gj_iload_n X d_Co_pairs_8 rfl 3 rfl ?_
      refine gj_icmp_gt (tgt := 57) X d_Co_pairs_9 (by decide) (fun c0 => ?_) (fun c0 => ?_)
      · have hC := hC.1 c0
        refine gj_lload X d_Co_pairs_57 4 rfl ?_
        exact gj_lret X hr hlk hC d_Co_pairs_59
      · have hC := hC.2 c0
        refine gj_aload_n X d_Co_pairs_12 rfl 0 rfl ?_
        refine gj_get X inX0 15 rfl rfl 2 (by decide) tw_93 rfl rfl d_Co_pairs_13 ?_
        refine gj_iload_n X d_Co_pairs_16 rfl 1 rfl ?_
        refine gj_iload X d_Co_pairs_17 5 rfl ?_
        refine gj_iadd X d_Co_pairs_19 ?_
        refine gj_lald X 16 1 rfl rfl hC.1 d_Co_pairs_20 ?_
        have hC := hC.2
        refine gj_topl (fun v1 ev1 => ?_)
        have hC := hC v1 ev1
        refine gj_lstore (L' := [(7, .long v1), (0, .ref (h 15)), (1, .int v_1), (2, .int v_2), (3, .int v_3), (4, .long v_4), (6, .int v_6)]) X d_Co_pairs_21 (by decide) rfl ?_
        refine gj_lload X d_Co_pairs_23 0 rfl ?_
        refine gj_lconst (v := 0) X d_Co_pairs_25 (by decide) ?_
        refine gj_lcmp_eq (tgt := 51) X d_Co_pairs_26 d_Co_pairs_27 (by decide) (fun c0 => ?_) (fun c0 => ?_)
        · have hC := hC.1 c0
          obtain ⟨v2, ev2⟩ : ∃ y : Int32, y = v_6 + 1 := ⟨_, rfl⟩
          have hC := hC v2 ev2
          refine gj_iinc (v := v2) (L' := [(6, .int v2), (7, .long v1), (0, .ref (h 15)), (1, .int v_1), (2, .int v_2), (3, .int v_3), (4, .long v_4)]) X d_Co_pairs_51 6 rfl (by rw [ev2]; rfl) (by decide) rfl ?_
          refine gj_goto (tgt := 6) X d_Co_pairs_54 (by decide) ?_
          exact gj_loc [2, 3, 4, 5, 6, 0] rfl hC
        · have hC := hC.2 c0
          refine gj_lload X d_Co_pairs_30 5 rfl ?_
          refine gj_lload X d_Co_pairs_32 0 rfl ?_
          refine gj_aload_n X d_Co_pairs_34 rfl 1 rfl ?_
          refine gj_get X inX0 15 rfl rfl 3 (by decide) tw_94 rfl rfl d_Co_pairs_35 ?_
          refine gj_iload_n X d_Co_pairs_38 rfl 3 rfl ?_
          refine gj_iload X d_Co_pairs_39 6 rfl ?_
          refine gj_isub X d_Co_pairs_41 ?_
          refine gj_lald X 17 1 rfl rfl hC.1 d_Co_pairs_42 ?_
          have hC := hC.2
          refine gj_callSL (As := [.long v1, .long (σ.2.2 3 (v_2 - v_6).toNatClampNeg)]) (st := [.long v_4]) X (c_Co_times l dC dI h cI cL cZ σ v1 (σ.2.2 3 (v_2 - v_6).toNatClampNeg) _ hC) ⟨gj_cwB X tw_402 tw_5 tw_400 hd_Co_times rfl rfl ⟨Nat.le_of_ble_eq_true rfl, Nat.le_of_ble_eq_true rfl⟩, X.2.2.2.2.1 _ tw_401⟩ hA rfl (Nat.le_of_ble_eq_true rfl) ⟨Nat.zero_le _, Nat.zero_le _⟩ d_Co_pairs_43 rfl (fun r4 σ3 hC => ?_)
          refine gj_callSL (As := [.long v_4, .long r4]) (st := []) X (c_Co_plus l dC dI h cI cL cZ σ3 v_4 r4 _ hC) ⟨gj_cwB X tw_407 tw_5 tw_405 hd_Co_plus rfl rfl ⟨Nat.le_of_ble_eq_true rfl, Nat.le_of_ble_eq_true rfl⟩, X.2.2.2.2.1 _ tw_406⟩ hA rfl (Nat.le_of_ble_eq_true rfl) ⟨Nat.zero_le _, Nat.zero_le _⟩ d_Co_pairs_46 rfl (fun r6 σ5 hC => ?_)
          refine gj_lstore (L' := [(4, .long r6), (7, .long v1), (0, .ref (h 15)), (1, .int v_1), (2, .int v_2), (3, .int v_3), (6, .int v_6)]) X d_Co_pairs_49 (by decide) rfl ?_
          obtain ⟨v7, ev7⟩ : ∃ y : Int32, y = v_6 + 1 := ⟨_, rfl⟩
          have hC := hC v7 ev7
          refine gj_iinc (v := v7) (L' := [(6, .int v7), (4, .long r6), (7, .long v1), (0, .ref (h 15)), (1, .int v_1), (2, .int v_2), (3, .int v_3)]) X d_Co_pairs_51 6 rfl (by rw [ev7]; rfl) (by decide) rfl ?_
          refine gj_goto (tgt := 6) X d_Co_pairs_54 (by decide) ?_
          exact gj_loc [3, 4, 5, 6, 1, 0] rfl hC)
  refine gj_lconst (v := 0) X d_Co_pairs_0 (by decide) ?_
  refine gj_lstore (L' := [(4, .long (0 : Int64)), (0, .ref (h 15)), (1, .int a0), (2, .int a1), (3, .int a2)]) X d_Co_pairs_1 (by decide) rfl ?_
  refine gj_iconst (v := 0) X d_Co_pairs_3 (by decide) ?_
  refine gj_istore (L' := [(6, .int (0 : Int32)), (4, .long (0 : Int64)), (0, .ref (h 15)), (1, .int a0), (2, .int a1), (3, .int a2)]) X d_Co_pairs_4 (by decide) rfl ?_
  exact gj_loc [2, 3, 4, 5, 1, 0] rfl hC
abbrev rm_Co_fillEndingsw : Room := { frames := 3, cells := 0, slots := 0, locals := 66 }
set_option maxHeartbeats 4000000 in
set_option maxRecDepth 100000 in
theorem c_Co_fillEndingsw (l : Launch) (dC : Nat → ClassId) (dI : Nat → Nat → Nat) (h : Nat → Nat) (cI cL cZ : ClassId) (σ : gs_St) (a0 : Int32) (a1 : Int32) (K : gs_St → Prop) (hC : C_Co_fillEndingsw a0 a1 σ K) : gj_MV 0 0 l y_Co_fillEndings (gj_ws y_Co_fillEndings b_Co_fillEndings 9 (none)) rm_Co_fillEndingsw (dC, dI) gs_C (gs_T cI cL cZ) ((wG h cI cL) σ) (wG h cI cL) [.ref (h 15), .int a0, .int a1] K := by
  refine gj_enterV (by decide) (Nat.le_of_ble_eq_true rfl) (fun p e s m args below meth c A X hr hlk hA hnm => ?_)
  change gj_J p l e rm_Co_fillEndingsw s m args below meth c 0 0 (MQ below (va_Qv K (gj_at (dC, dI) gs_C (gs_T cI cL cZ) (wG h cI cL) A) A) args s 0 0 A) (dC, dI) gs_C A 9 0 [(0, .ref (h 15)), (1, .int a0), (2, .int a1)] [] ((wG h cI cL) σ)
  have hC := hC
    (fun (v_1 : Int32) (v_2 : Int32) (v_4 : Int32) (σ : gs_St) => gj_J p l e rm_Co_fillEndingsw s m args below meth c 0 0 (MQ below (va_Qv K (gj_at (dC, dI) gs_C (gs_T cI cL cZ) (wG h cI cL) A) A) args s 0 0 A) (dC, dI) gs_C A 9 35 [(0, .ref (h 15)), (1, .int v_1), (2, .int v_2), (4, .int v_4)] [] ((wG h cI cL) σ))
    (by
      intro v_1 v_2 v_4 σ hC
      refine gj_iload X d_Co_fillEndings_35 3 rfl ?_
      refine gj_if_lt (tgt := 128) X d_Co_fillEndings_37 (by decide) (fun c0 => ?_) (fun c0 => ?_)
      · have hC := hC.1 c0
        exact gj_vret X hr hlk hC d_Co_fillEndings_128
      · have hC := hC.2 c0
        refine gj_aload_n X d_Co_fillEndings_40 rfl 0 rfl ?_
        refine gj_get X inX0 15 rfl rfl 0 (by decide) tw_91 rfl rfl d_Co_fillEndings_41 ?_
        refine gj_iload_n X d_Co_fillEndings_44 rfl 1 rfl ?_
        refine gj_iload X d_Co_fillEndings_45 3 rfl ?_
        refine gj_callVI (As := [.int v_1, .int v_4]) (st := []) X (c_Gr_symbolAt l dC dI h cI cL cZ σ v_1 v_4 _ hC) ⟨gj_cwB X tw_288 tw_2 tw_394 hd_Gr_symbolAt rfl rfl ⟨Nat.le_of_ble_eq_true rfl, Nat.le_of_ble_eq_true rfl⟩, X.2.2.2.2.1 _ tw_286, X.2.2.2.2.1 _ tw_287⟩ 2 rfl rfl hA rfl (Nat.le_of_ble_eq_true rfl) ⟨Nat.zero_le _, Nat.zero_le _⟩ d_Co_fillEndings_47 rfl (fun r10 σ9 hC => ?_)
        refine gj_istore (L' := [(5, .int r10), (0, .ref (h 15)), (1, .int v_1), (2, .int v_2), (4, .int v_4)]) X d_Co_fillEndings_50 (by decide) rfl ?_
        refine gj_iload_n X d_Co_fillEndings_52 rfl 2 rfl ?_
        refine gj_iload X d_Co_fillEndings_53 4 rfl ?_
        refine gj_iconst (v := 1) X d_Co_fillEndings_55 (by decide) ?_
        refine gj_iadd X d_Co_fillEndings_56 ?_
        refine gj_callSI (As := [.int v_1, .int (v_4 + (1 : Int32))]) (st := []) X (c_Co_endingsAt l dC dI h cI cL cZ σ9 v_1 (v_4 + (1 : Int32)) _ hC) ⟨gj_cwB X tw_393 tw_5 tw_391 hd_Co_endingsAt rfl rfl ⟨Nat.le_of_ble_eq_true rfl, Nat.le_of_ble_eq_true rfl⟩, X.2.2.2.2.1 _ tw_392⟩ hA rfl (Nat.le_of_ble_eq_true rfl) ⟨Nat.zero_le _, Nat.zero_le _⟩ d_Co_fillEndings_57 rfl (fun r12 σ11 hC => ?_)
        refine gj_iload_n X d_Co_fillEndings_60 rfl 3 rfl ?_
        refine gj_iadd X d_Co_fillEndings_61 ?_
        refine gj_topi (fun v13 ev13 => ?_)
        have hC := hC v13 ev13
        refine gj_istore (L' := [(6, .int v13), (5, .int r10), (0, .ref (h 15)), (1, .int v_1), (2, .int v_2), (4, .int v_4)]) X d_Co_fillEndings_62 (by decide) rfl ?_
        refine gj_lconst (v := 0) X d_Co_fillEndings_64 (by decide) ?_
        refine gj_lstore (L' := [(7, .long (0 : Int64)), (6, .int v13), (5, .int r10), (0, .ref (h 15)), (1, .int v_1), (2, .int v_2), (4, .int v_4)]) X d_Co_fillEndings_65 (by decide) rfl ?_
        refine gj_iload X d_Co_fillEndings_67 2 rfl ?_
        refine gj_callSNI (As := [.int r10]) (st := []) X (c_Gl_isNonterminal l dC dI h cI cL cZ σ11 r10 _ hC) ⟨gj_cwN X tw_249 tw_1 tn_395 hd_Gl_isNonterminal rfl rfl ⟨Nat.le_of_ble_eq_true rfl, Nat.le_of_ble_eq_true rfl⟩, X.2.2.2.2.1 _ tw_248, trivial⟩ hA rfl (Nat.le_of_ble_eq_true rfl) ⟨Nat.zero_le _, Nat.zero_le _⟩ d_Co_fillEndings_69 rfl (fun r15 σ14 hC => ?_)
        obtain ⟨hC, hb⟩ := hC
        refine gj_if_eq (tgt := 92) X d_Co_fillEndings_72 (by decide) (fun c0 => ?_) (fun c0 => ?_)
        · have hC := hC.1 c0
          refine gj_iload_n X d_Co_fillEndings_92 rfl 5 rfl ?_
          refine gj_if_le (tgt := 107) X d_Co_fillEndings_93 (by decide) (fun c0 => ?_) (fun c0 => ?_)
          · have hC := hC.1 c0
            refine gj_aload_n X d_Co_fillEndings_107 rfl 3 rfl ?_
            refine gj_get X inX0 15 rfl rfl 3 (by decide) tw_94 rfl rfl d_Co_fillEndings_108 ?_
            refine gj_iload_n X d_Co_fillEndings_111 rfl 4 rfl ?_
            refine gj_iload X d_Co_fillEndings_112 6 rfl ?_
            refine gj_callSI (As := [.int v_1, .int v_4]) (st := [.ref (h 17)]) X (c_Co_endingsAt l dC dI h cI cL cZ σ14 v_1 v_4 _ hC) ⟨gj_cwB X tw_393 tw_5 tw_391 hd_Co_endingsAt rfl rfl ⟨Nat.le_of_ble_eq_true rfl, Nat.le_of_ble_eq_true rfl⟩, X.2.2.2.2.1 _ tw_392⟩ hA rfl (Nat.le_of_ble_eq_true rfl) ⟨Nat.zero_le _, Nat.zero_le _⟩ d_Co_fillEndings_114 rfl (fun r17 σ16 hC => ?_)
            refine gj_iload_n X d_Co_fillEndings_117 rfl 5 rfl ?_
            refine gj_iadd X d_Co_fillEndings_118 ?_
            refine gj_lload X d_Co_fillEndings_119 0 rfl ?_
            refine gj_last (w' := (wG h cI cL) (gs_L σ16 3 (vp_updL (σ16.2.2 3) (r17 + v_2).toNatClampNeg (0 : Int64)))) X 17 1 rfl rfl hC.1 (set_wG_L3 h cI cL σ16 _) d_Co_fillEndings_121 ?_
            refine gj_topw (wof := (wG h cI cL)) (fun σ18 eσ18 => ?_)
            have hC := hC.2 σ18 eσ18
            obtain ⟨v19, ev19⟩ : ∃ y : Int32, y = v_4 + (-1) := ⟨_, rfl⟩
            have hC := hC v19 ev19
            refine gj_iinc (v := v19) (L' := [(4, .int v19), (7, .long (0 : Int64)), (6, .int v13), (5, .int r10), (0, .ref (h 15)), (1, .int v_1), (2, .int v_2)]) X d_Co_fillEndings_122 6 rfl (by rw [ev19]; rfl) (by decide) rfl ?_
            refine gj_goto (tgt := 35) X d_Co_fillEndings_125 (by decide) ?_
            exact gj_loc [4, 5, 6, 0] rfl hC
          · have hC := hC.2 c0
            refine gj_aload_n X d_Co_fillEndings_96 rfl 3 rfl ?_
            refine gj_get X inX0 15 rfl rfl 3 (by decide) tw_94 rfl rfl d_Co_fillEndings_97 ?_
            refine gj_iload X d_Co_fillEndings_100 1 rfl ?_
            refine gj_iconst (v := 1) X d_Co_fillEndings_102 (by decide) ?_
            refine gj_isub X d_Co_fillEndings_103 ?_
            refine gj_lald X 17 1 rfl rfl hC.1 d_Co_fillEndings_104 ?_
            have hC := hC.2
            refine gj_topl (fun v20 ev20 => ?_)
            have hC := hC v20 ev20
            refine gj_lstore (L' := [(7, .long v20), (6, .int v13), (5, .int r10), (0, .ref (h 15)), (1, .int v_1), (2, .int v_2), (4, .int v_4)]) X d_Co_fillEndings_105 (by decide) rfl ?_
            refine gj_aload_n X d_Co_fillEndings_107 rfl 3 rfl ?_
            refine gj_get X inX0 15 rfl rfl 3 (by decide) tw_94 rfl rfl d_Co_fillEndings_108 ?_
            refine gj_iload_n X d_Co_fillEndings_111 rfl 4 rfl ?_
            refine gj_iload X d_Co_fillEndings_112 6 rfl ?_
            refine gj_callSI (As := [.int v_1, .int v_4]) (st := [.ref (h 17)]) X (c_Co_endingsAt l dC dI h cI cL cZ σ14 v_1 v_4 _ hC) ⟨gj_cwB X tw_393 tw_5 tw_391 hd_Co_endingsAt rfl rfl ⟨Nat.le_of_ble_eq_true rfl, Nat.le_of_ble_eq_true rfl⟩, X.2.2.2.2.1 _ tw_392⟩ hA rfl (Nat.le_of_ble_eq_true rfl) ⟨Nat.zero_le _, Nat.zero_le _⟩ d_Co_fillEndings_114 rfl (fun r22 σ21 hC => ?_)
            refine gj_iload_n X d_Co_fillEndings_117 rfl 5 rfl ?_
            refine gj_iadd X d_Co_fillEndings_118 ?_
            refine gj_lload X d_Co_fillEndings_119 0 rfl ?_
            refine gj_last (w' := (wG h cI cL) (gs_L σ21 3 (vp_updL (σ21.2.2 3) (r22 + v_2).toNatClampNeg v20))) X 17 1 rfl rfl hC.1 (set_wG_L3 h cI cL σ21 _) d_Co_fillEndings_121 ?_
            refine gj_topw (wof := (wG h cI cL)) (fun σ23 eσ23 => ?_)
            have hC := hC.2 σ23 eσ23
            obtain ⟨v24, ev24⟩ : ∃ y : Int32, y = v_4 + (-1) := ⟨_, rfl⟩
            have hC := hC v24 ev24
            refine gj_iinc (v := v24) (L' := [(4, .int v24), (7, .long v20), (6, .int v13), (5, .int r10), (0, .ref (h 15)), (1, .int v_1), (2, .int v_2)]) X d_Co_fillEndings_122 6 rfl (by rw [ev24]; rfl) (by decide) rfl ?_
            refine gj_goto (tgt := 35) X d_Co_fillEndings_125 (by decide) ?_
            exact gj_loc [4, 5, 6, 0] rfl hC
        · have hC := hC.2 c0
          refine gj_aload_n X d_Co_fillEndings_75 rfl 3 rfl ?_
          refine gj_iload X d_Co_fillEndings_76 2 rfl ?_
          refine gj_bipush (v := 17) X d_Co_fillEndings_78 (by decide) ?_
          refine gj_imul X d_Co_fillEndings_80 ?_
          refine gj_iload X d_Co_fillEndings_81 1 rfl ?_
          refine gj_iload_n X d_Co_fillEndings_83 rfl 5 rfl ?_
          refine gj_callVL (As := [.int (r10 * (17 : Int32)), .int v13, .int v_2]) (st := []) X (c_Co_pairsw l dC dI h cI cL cZ σ14 (r10 * (17 : Int32)) v13 v_2 _ hC) ⟨gj_cwB X tw_399 tw_5 tw_396 hd_Co_pairs rfl rfl ⟨Nat.le_of_ble_eq_true rfl, Nat.le_of_ble_eq_true rfl⟩, X.2.2.2.2.1 _ tw_398, X.2.2.2.2.1 _ ts_8⟩ 15 rfl rfl hA rfl (Nat.le_of_ble_eq_true rfl) ⟨Nat.zero_le _, Nat.zero_le _⟩ d_Co_fillEndings_84 rfl (fun r26 σ25 hC => ?_)
          refine gj_lstore (L' := [(7, .long r26), (6, .int v13), (5, .int r10), (0, .ref (h 15)), (1, .int v_1), (2, .int v_2), (4, .int v_4)]) X d_Co_fillEndings_87 (by decide) rfl ?_
          refine gj_goto (tgt := 107) X d_Co_fillEndings_89 (by decide) ?_
          refine gj_aload_n X d_Co_fillEndings_107 rfl 3 rfl ?_
          refine gj_get X inX0 15 rfl rfl 3 (by decide) tw_94 rfl rfl d_Co_fillEndings_108 ?_
          refine gj_iload_n X d_Co_fillEndings_111 rfl 4 rfl ?_
          refine gj_iload X d_Co_fillEndings_112 6 rfl ?_
          refine gj_callSI (As := [.int v_1, .int v_4]) (st := [.ref (h 17)]) X (c_Co_endingsAt l dC dI h cI cL cZ σ25 v_1 v_4 _ hC) ⟨gj_cwB X tw_393 tw_5 tw_391 hd_Co_endingsAt rfl rfl ⟨Nat.le_of_ble_eq_true rfl, Nat.le_of_ble_eq_true rfl⟩, X.2.2.2.2.1 _ tw_392⟩ hA rfl (Nat.le_of_ble_eq_true rfl) ⟨Nat.zero_le _, Nat.zero_le _⟩ d_Co_fillEndings_114 rfl (fun r28 σ27 hC => ?_)
          refine gj_iload_n X d_Co_fillEndings_117 rfl 5 rfl ?_
          refine gj_iadd X d_Co_fillEndings_118 ?_
          refine gj_lload X d_Co_fillEndings_119 0 rfl ?_
          refine gj_last (w' := (wG h cI cL) (gs_L σ27 3 (vp_updL (σ27.2.2 3) (r28 + v_2).toNatClampNeg r26))) X 17 1 rfl rfl hC.1 (set_wG_L3 h cI cL σ27 _) d_Co_fillEndings_121 ?_
          refine gj_topw (wof := (wG h cI cL)) (fun σ29 eσ29 => ?_)
          have hC := hC.2 σ29 eσ29
          obtain ⟨v30, ev30⟩ : ∃ y : Int32, y = v_4 + (-1) := ⟨_, rfl⟩
          have hC := hC v30 ev30
          refine gj_iinc (v := v30) (L' := [(4, .int v30), (7, .long r26), (6, .int v13), (5, .int r10), (0, .ref (h 15)), (1, .int v_1), (2, .int v_2)]) X d_Co_fillEndings_122 6 rfl (by rw [ev30]; rfl) (by decide) rfl ?_
          refine gj_goto (tgt := 35) X d_Co_fillEndings_125 (by decide) ?_
          exact gj_loc [4, 5, 6, 0] rfl hC)
  refine gj_aload_n X d_Co_fillEndings_0 rfl 0 rfl ?_
  refine gj_get X inX0 15 rfl rfl 0 (by decide) tw_91 rfl rfl d_Co_fillEndings_1 ?_
  refine gj_iload_n X d_Co_fillEndings_4 rfl 1 rfl ?_
  refine gj_callVI (As := [.int a0]) (st := []) X (c_Gr_sizeOf l dC dI h cI cL cZ σ a0 _ hC) ⟨gj_cwB X tw_280 tw_2 tw_390 hd_Gr_sizeOf rfl rfl ⟨Nat.le_of_ble_eq_true rfl, Nat.le_of_ble_eq_true rfl⟩, X.2.2.2.2.1 _ tw_278, X.2.2.2.2.1 _ tw_279⟩ 2 rfl rfl hA rfl (Nat.le_of_ble_eq_true rfl) ⟨Nat.zero_le _, Nat.zero_le _⟩ d_Co_fillEndings_5 rfl (fun r2 σ1 hC => ?_)
  refine gj_istore_n (L' := [(3, .int r2), (0, .ref (h 15)), (1, .int a0), (2, .int a1)]) X d_Co_fillEndings_8 rfl (by decide) rfl ?_
  refine gj_aload_n X d_Co_fillEndings_9 rfl 1 rfl ?_
  refine gj_get X inX0 15 rfl rfl 3 (by decide) tw_94 rfl rfl d_Co_fillEndings_10 ?_
  refine gj_iload_n X d_Co_fillEndings_13 rfl 2 rfl ?_
  refine gj_iload_n X d_Co_fillEndings_14 rfl 0 rfl ?_
  refine gj_callSI (As := [.int a0, .int r2]) (st := [.ref (h 17)]) X (c_Co_endingsAt l dC dI h cI cL cZ σ1 a0 r2 _ hC) ⟨gj_cwB X tw_393 tw_5 tw_391 hd_Co_endingsAt rfl rfl ⟨Nat.le_of_ble_eq_true rfl, Nat.le_of_ble_eq_true rfl⟩, X.2.2.2.2.1 _ tw_392⟩ hA rfl (Nat.le_of_ble_eq_true rfl) ⟨Nat.zero_le _, Nat.zero_le _⟩ d_Co_fillEndings_15 rfl (fun r4 σ3 hC => ?_)
  refine gj_iload_n X d_Co_fillEndings_18 rfl 3 rfl ?_
  refine gj_iadd X d_Co_fillEndings_19 ?_
  refine gj_iload_n X d_Co_fillEndings_20 rfl 3 rfl ?_
  refine gj_if_ne (tgt := 28) X d_Co_fillEndings_21 (by decide) (fun c0 => ?_) (fun c0 => ?_)
  · have hC := hC.1 c0
    refine gj_lconst (v := 0) X d_Co_fillEndings_28 (by decide) ?_
    refine gj_last (w' := (wG h cI cL) (gs_L σ3 3 (vp_updL (σ3.2.2 3) (r4 + a1).toNatClampNeg (0 : Int64)))) X 17 1 rfl rfl hC.1 (set_wG_L3 h cI cL σ3 _) d_Co_fillEndings_29 ?_
    refine gj_topw (wof := (wG h cI cL)) (fun σ5 eσ5 => ?_)
    have hC := hC.2 σ5 eσ5
    refine gj_iload_n X d_Co_fillEndings_30 rfl 0 rfl ?_
    refine gj_iconst (v := 1) X d_Co_fillEndings_31 (by decide) ?_
    refine gj_isub X d_Co_fillEndings_32 ?_
    refine gj_topi (fun v6 ev6 => ?_)
    have hC := hC v6 ev6
    refine gj_istore (L' := [(4, .int v6), (3, .int r2), (0, .ref (h 15)), (1, .int a0), (2, .int a1)]) X d_Co_fillEndings_33 (by decide) rfl ?_
    exact gj_loc [2, 3, 4, 0] rfl hC
  · have hC := hC.2 c0
    refine gj_lconst (v := 1) X d_Co_fillEndings_24 (by decide) ?_
    refine gj_goto (tgt := 29) X d_Co_fillEndings_25 (by decide) ?_
    refine gj_last (w' := (wG h cI cL) (gs_L σ3 3 (vp_updL (σ3.2.2 3) (r4 + a1).toNatClampNeg (1 : Int64)))) X 17 1 rfl rfl hC.1 (set_wG_L3 h cI cL σ3 _) d_Co_fillEndings_29 ?_
    refine gj_topw (wof := (wG h cI cL)) (fun σ7 eσ7 => ?_)
    have hC := hC.2 σ7 eσ7
    refine gj_iload_n X d_Co_fillEndings_30 rfl 0 rfl ?_
    refine gj_iconst (v := 1) X d_Co_fillEndings_31 (by decide) ?_
    refine gj_isub X d_Co_fillEndings_32 ?_
    refine gj_topi (fun v8 ev8 => ?_)
    have hC := hC v8 ev8
    refine gj_istore (L' := [(4, .int v8), (3, .int r2), (0, .ref (h 15)), (1, .int a0), (2, .int a1)]) X d_Co_fillEndings_33 (by decide) rfl ?_
    exact gj_loc [2, 3, 4, 0] rfl hC
abbrev rm_Co_endingsOfw : Room := { frames := 1, cells := 0, slots := 0, locals := 21 }
set_option maxHeartbeats 4000000 in
set_option maxRecDepth 100000 in
theorem c_Co_endingsOfw (l : Launch) (dC : Nat → ClassId) (dI : Nat → Nat → Nat) (h : Nat → Nat) (cI cL cZ : ClassId) (σ : gs_St) (a0 : Int32) (a1 : Int32) (a2 : Int32) (K : Int64 → gs_St → Prop) (hC : C_Co_endingsOfw a0 a1 a2 σ K) : gj_ML l y_Co_endingsOf (gj_ws y_Co_endingsOf b_Co_endingsOf 4 (some .long)) rm_Co_endingsOfw (dC, dI) gs_C (gs_T cI cL cZ) ((wG h cI cL) σ) (wG h cI cL) [.ref (h 15), .int a0, .int a1, .int a2] K := by
  refine gj_enterL (by decide) (Nat.le_of_ble_eq_true rfl) (fun p e s m args below meth c A X hr hlk hA hnm => ?_)
  change gj_J p l e rm_Co_endingsOfw s m args below meth c 0 0 (MQ below (va_Ql K (gj_at (dC, dI) gs_C (gs_T cI cL cZ) (wG h cI cL) A) A) args s 0 0 A) (dC, dI) gs_C A 4 0 [(0, .ref (h 15)), (1, .int a0), (2, .int a1), (3, .int a2)] [] ((wG h cI cL) σ)
  refine gj_aload_n X d_Co_endingsOf_0 rfl 0 rfl ?_
  refine gj_get X inX0 15 rfl rfl 3 (by decide) tw_94 rfl rfl d_Co_endingsOf_1 ?_
  refine gj_iload_n X d_Co_endingsOf_4 rfl 1 rfl ?_
  refine gj_iload_n X d_Co_endingsOf_5 rfl 2 rfl ?_
  refine gj_callSI (As := [.int a0, .int a1]) (st := [.ref (h 17)]) X (c_Co_endingsAt l dC dI h cI cL cZ σ a0 a1 _ hC) ⟨gj_cwB X tw_393 tw_5 tw_391 hd_Co_endingsAt rfl rfl ⟨Nat.le_of_ble_eq_true rfl, Nat.le_of_ble_eq_true rfl⟩, X.2.2.2.2.1 _ tw_392⟩ hA rfl (Nat.le_of_ble_eq_true rfl) ⟨Nat.zero_le _, Nat.zero_le _⟩ d_Co_endingsOf_6 rfl (fun r2 σ1 hC => ?_)
  refine gj_iload_n X d_Co_endingsOf_9 rfl 3 rfl ?_
  refine gj_iadd X d_Co_endingsOf_10 ?_
  refine gj_lald X 17 1 rfl rfl hC.1 d_Co_endingsOf_11 ?_
  have hC := hC.2
  exact gj_lret X hr hlk hC d_Co_endingsOf_12
abbrev rm_Co_addTreesw : Room := { frames := 2, cells := 0, slots := 0, locals := 38 }
set_option maxHeartbeats 4000000 in
set_option maxRecDepth 100000 in
theorem c_Co_addTreesw (l : Launch) (dC : Nat → ClassId) (dI : Nat → Nat → Nat) (h : Nat → Nat) (cI cL cZ : ClassId) (σ : gs_St) (a0 : Int32) (a1 : Int32) (a2 : Int64) (K : gs_St → Prop) (hC : C_Co_addTreesw a0 a1 a2 σ K) : gj_MV 0 0 l y_Co_addTrees (gj_ws y_Co_addTrees b_Co_addTrees 6 (none)) rm_Co_addTreesw (dC, dI) gs_C (gs_T cI cL cZ) ((wG h cI cL) σ) (wG h cI cL) [.ref (h 15), .int a0, .int a1, .long a2] K := by
  refine gj_enterV (by decide) (Nat.le_of_ble_eq_true rfl) (fun p e s m args below meth c A X hr hlk hA hnm => ?_)
  change gj_J p l e rm_Co_addTreesw s m args below meth c 0 0 (MQ below (va_Qv K (gj_at (dC, dI) gs_C (gs_T cI cL cZ) (wG h cI cL) A) A) args s 0 0 A) (dC, dI) gs_C A 6 0 [(0, .ref (h 15)), (1, .int a0), (2, .int a1), (3, .long a2)] [] ((wG h cI cL) σ)
  refine gj_iload_n X d_Co_addTrees_0 rfl 1 rfl ?_
  refine gj_bipush (v := 17) X d_Co_addTrees_1 (by decide) ?_
  refine gj_imul X d_Co_addTrees_3 ?_
  refine gj_iload_n X d_Co_addTrees_4 rfl 2 rfl ?_
  refine gj_iadd X d_Co_addTrees_5 ?_
  refine gj_topi (fun v1 ev1 => ?_)
  have hC := hC v1 ev1
  refine gj_istore (L' := [(5, .int v1), (0, .ref (h 15)), (1, .int a0), (2, .int a1), (3, .long a2)]) X d_Co_addTrees_6 (by decide) rfl ?_
  refine gj_aload_n X d_Co_addTrees_8 rfl 1 rfl ?_
  refine gj_get X inX0 15 rfl rfl 2 (by decide) tw_93 rfl rfl d_Co_addTrees_9 ?_
  refine gj_iload X d_Co_addTrees_12 0 rfl ?_
  refine gj_aload_n X d_Co_addTrees_14 rfl 1 rfl ?_
  refine gj_get X inX0 15 rfl rfl 2 (by decide) tw_93 rfl rfl d_Co_addTrees_15 ?_
  refine gj_iload X d_Co_addTrees_18 0 rfl ?_
  refine gj_lald X 16 1 rfl rfl hC.1 d_Co_addTrees_20 ?_
  have hC := hC.2
  refine gj_lload_n X d_Co_addTrees_21 rfl 4 rfl ?_
  refine gj_callSL (As := [.long (σ.2.2 2 v1.toNatClampNeg), .long a2]) (st := [.int v1, .ref (h 16)]) X (c_Co_plus l dC dI h cI cL cZ σ (σ.2.2 2 v1.toNatClampNeg) a2 _ hC) ⟨gj_cwB X tw_407 tw_5 tw_405 hd_Co_plus rfl rfl ⟨Nat.le_of_ble_eq_true rfl, Nat.le_of_ble_eq_true rfl⟩, X.2.2.2.2.1 _ tw_406⟩ hA rfl (Nat.le_of_ble_eq_true rfl) ⟨Nat.zero_le _, Nat.zero_le _⟩ d_Co_addTrees_22 rfl (fun r3 σ2 hC => ?_)
  refine gj_last (w' := (wG h cI cL) (gs_L σ2 2 (vp_updL (σ2.2.2 2) v1.toNatClampNeg r3))) X 16 1 rfl rfl hC.1 (set_wG_L2 h cI cL σ2 _) d_Co_addTrees_25 ?_
  refine gj_topw (wof := (wG h cI cL)) (fun σ4 eσ4 => ?_)
  have hC := hC.2 σ4 eσ4
  exact gj_vret X hr hlk hC d_Co_addTrees_26
abbrev rm_Co_countLengthw : Room := { frames := 4, cells := 0, slots := 0, locals := 94 }
set_option maxHeartbeats 4000000 in
set_option maxRecDepth 100000 in
theorem c_Co_countLengthw (l : Launch) (dC : Nat → ClassId) (dI : Nat → Nat → Nat) (h : Nat → Nat) (cI cL cZ : ClassId) (σ : gs_St) (a0 : Int32) (K : gs_St → Prop) (hC : C_Co_countLengthw a0 σ K) : gj_MV 0 0 l y_Co_countLength (gj_ws y_Co_countLength b_Co_countLength 5 (none)) rm_Co_countLengthw (dC, dI) gs_C (gs_T cI cL cZ) ((wG h cI cL) σ) (wG h cI cL) [.ref (h 15), .int a0] K := by
  refine gj_enterV (by decide) (Nat.le_of_ble_eq_true rfl) (fun p e s m args below meth c A X hr hlk hA hnm => ?_)
  change gj_J p l e rm_Co_countLengthw s m args below meth c 0 0 (MQ below (va_Qv K (gj_at (dC, dI) gs_C (gs_T cI cL cZ) (wG h cI cL) A) A) args s 0 0 A) (dC, dI) gs_C A 5 0 [(0, .ref (h 15)), (1, .int a0)] [] ((wG h cI cL) σ)
  have hC := hC
    (fun (v_1 : Int32) (v_2 : Int32) (σ : gs_St) => gj_J p l e rm_Co_countLengthw s m args below meth c 0 0 (MQ below (va_Qv K (gj_at (dC, dI) gs_C (gs_T cI cL cZ) (wG h cI cL) A) A) args s 0 0 A) (dC, dI) gs_C A 5 2 [(0, .ref (h 15)), (1, .int v_1), (2, .int v_2)] [] ((wG h cI cL) σ))
    (fun (v_1 : Int32) (v_2 : Int32) (σ : gs_St) => gj_J p l e rm_Co_countLengthw s m args below meth c 0 0 (MQ below (va_Qv K (gj_at (dC, dI) gs_C (gs_T cI cL cZ) (wG h cI cL) A) A) args s 0 0 A) (dC, dI) gs_C A 5 28 [(0, .ref (h 15)), (1, .int v_1), (2, .int v_2)] [] ((wG h cI cL) σ))
    (fun (v_1 : Int32) (v_2 : Int32) (v_3 : Int32) (v_4 : Int32) (σ : gs_St) => gj_J p l e rm_Co_countLengthw s m args below meth c 0 0 (MQ below (va_Qv K (gj_at (dC, dI) gs_C (gs_T cI cL cZ) (wG h cI cL) A) A) args s 0 0 A) (dC, dI) gs_C A 5 46 [(0, .ref (h 15)), (1, .int v_1), (2, .int v_2), (3, .int v_3), (4, .int v_4)] [] ((wG h cI cL) σ))
    (fun (v_1 : Int32) (v_2 : Int32) (σ : gs_St) => gj_J p l e rm_Co_countLengthw s m args below meth c 0 0 (MQ below (va_Qv K (gj_at (dC, dI) gs_C (gs_T cI cL cZ) (wG h cI cL) A) A) args s 0 0 A) (dC, dI) gs_C A 5 115 [(0, .ref (h 15)), (1, .int v_1), (2, .int v_2)] [] ((wG h cI cL) σ))
    (by
      intro v_1 v_2 σ hC
      refine gj_iload_n X d_Co_countLength_2 rfl 2 rfl ?_
      refine gj_bipush (v := 8) X d_Co_countLength_3 (by decide) ?_
      refine gj_icmp_ge (tgt := 26) X d_Co_countLength_5 (by decide) (fun c0 => ?_) (fun c0 => ?_)
      · have hC := hC.1 c0
        refine gj_iconst (v := 0) X d_Co_countLength_26 (by decide) ?_
        refine gj_istore_n (L' := [(2, .int (0 : Int32)), (0, .ref (h 15)), (1, .int v_1)]) X d_Co_countLength_27 rfl (by decide) rfl ?_
        exact gj_loc [1, 2, 0] rfl hC
      · have hC := hC.2 c0
        refine gj_aload_n X d_Co_countLength_8 rfl 0 rfl ?_
        refine gj_get X inX0 15 rfl rfl 2 (by decide) tw_93 rfl rfl d_Co_countLength_9 ?_
        refine gj_iload_n X d_Co_countLength_12 rfl 2 rfl ?_
        refine gj_bipush (v := 17) X d_Co_countLength_13 (by decide) ?_
        refine gj_imul X d_Co_countLength_15 ?_
        refine gj_iload_n X d_Co_countLength_16 rfl 1 rfl ?_
        refine gj_iadd X d_Co_countLength_17 ?_
        refine gj_lconst (v := 0) X d_Co_countLength_18 (by decide) ?_
        refine gj_last (w' := (wG h cI cL) (gs_L σ 2 (vp_updL (σ.2.2 2) ((v_2 * (17 : Int32)) + v_1).toNatClampNeg (0 : Int64)))) X 16 1 rfl rfl hC.1 (set_wG_L2 h cI cL σ _) d_Co_countLength_19 ?_
        refine gj_topw (wof := (wG h cI cL)) (fun σ1 eσ1 => ?_)
        have hC := hC.2 σ1 eσ1
        obtain ⟨v2, ev2⟩ : ∃ y : Int32, y = v_2 + 1 := ⟨_, rfl⟩
        have hC := hC v2 ev2
        refine gj_iinc (v := v2) (L' := [(2, .int v2), (0, .ref (h 15)), (1, .int v_1)]) X d_Co_countLength_20 2 rfl (by rw [ev2]; rfl) (by decide) rfl ?_
        refine gj_goto (tgt := 2) X d_Co_countLength_23 (by decide) ?_
        exact gj_loc [1, 2, 0] rfl hC)
    (by
      intro v_1 v_2 σ hC
      refine gj_iload_n X d_Co_countLength_28 rfl 2 rfl ?_
      refine gj_bipush (v := 8) X d_Co_countLength_29 (by decide) ?_
      refine gj_icmp_ge (tgt := 113) X d_Co_countLength_31 (by decide) (fun c0 => ?_) (fun c0 => ?_)
      · have hC := hC.1 c0
        refine gj_iconst (v := 0) X d_Co_countLength_113 (by decide) ?_
        refine gj_istore_n (L' := [(2, .int (0 : Int32)), (0, .ref (h 15)), (1, .int v_1)]) X d_Co_countLength_114 rfl (by decide) rfl ?_
        exact gj_loc [1, 2, 0] rfl hC
      · have hC := hC.2 c0
        refine gj_aload_n X d_Co_countLength_34 rfl 0 rfl ?_
        refine gj_get X inX0 15 rfl rfl 1 (by decide) tw_92 rfl rfl d_Co_countLength_35 ?_
        refine gj_iload_n X d_Co_countLength_38 rfl 2 rfl ?_
        refine gj_callVI (As := [.int v_2]) (st := []) X (c_Ld_inOrder l dC dI h cI cL cZ σ v_2 _ hC) ⟨gj_cwB X tw_384 tw_4 tw_381 hd_Ld_inOrder rfl rfl ⟨Nat.le_of_ble_eq_true rfl, Nat.le_of_ble_eq_true rfl⟩, X.2.2.2.2.1 _ tw_382, X.2.2.2.2.1 _ tw_383⟩ 9 rfl rfl hA rfl (Nat.le_of_ble_eq_true rfl) ⟨Nat.zero_le _, Nat.zero_le _⟩ d_Co_countLength_39 rfl (fun r4 σ3 hC => ?_)
        refine gj_istore_n (L' := [(3, .int r4), (0, .ref (h 15)), (1, .int v_1), (2, .int v_2)]) X d_Co_countLength_42 rfl (by decide) rfl ?_
        refine gj_iconst (v := 0) X d_Co_countLength_43 (by decide) ?_
        refine gj_istore (L' := [(4, .int (0 : Int32)), (3, .int r4), (0, .ref (h 15)), (1, .int v_1), (2, .int v_2)]) X d_Co_countLength_44 (by decide) rfl ?_
        exact gj_loc [2, 3, 4, 1, 0] rfl hC)
    (by
      intro v_1 v_2 v_3 v_4 σ hC
      refine gj_iload X d_Co_countLength_46 4 rfl ?_
      refine gj_aload_n X d_Co_countLength_48 rfl 0 rfl ?_
      refine gj_get X inX0 15 rfl rfl 0 (by decide) tw_91 rfl rfl d_Co_countLength_49 ?_
      refine gj_getN X inX2 2 rfl rfl 3 (by decide) tn_36 rfl rfl d_Co_countLength_52 ?_
      refine gj_icmp_ge (tgt := 107) X d_Co_countLength_55 (by decide) (fun c0 => ?_) (fun c0 => ?_)
      · have hC := hC.1 c0
        obtain ⟨v5, ev5⟩ : ∃ y : Int32, y = v_2 + 1 := ⟨_, rfl⟩
        have hC := hC v5 ev5
        refine gj_iinc (v := v5) (L' := [(2, .int v5), (0, .ref (h 15)), (1, .int v_1), (3, .int v_3), (4, .int v_4)]) X d_Co_countLength_107 2 rfl (by rw [ev5]; rfl) (by decide) rfl ?_
        refine gj_goto (tgt := 28) X d_Co_countLength_110 (by decide) ?_
        exact gj_loc [1, 2, 0] rfl hC
      · have hC := hC.2 c0
        refine gj_iload X d_Co_countLength_58 4 rfl ?_
        refine gj_aload_n X d_Co_countLength_60 rfl 0 rfl ?_
        refine gj_get X inX0 15 rfl rfl 4 (by decide) tw_95 rfl rfl d_Co_countLength_61 ?_
        refine gj_icmp_eq (tgt := 101) X d_Co_countLength_64 (by decide) (fun c0 => ?_) (fun c0 => ?_)
        · have hC := hC.1 c0
          obtain ⟨v6, ev6⟩ : ∃ y : Int32, y = v_4 + 1 := ⟨_, rfl⟩
          have hC := hC v6 ev6
          refine gj_iinc (v := v6) (L' := [(4, .int v6), (0, .ref (h 15)), (1, .int v_1), (2, .int v_2), (3, .int v_3)]) X d_Co_countLength_101 4 rfl (by rw [ev6]; rfl) (by decide) rfl ?_
          refine gj_goto (tgt := 46) X d_Co_countLength_104 (by decide) ?_
          exact gj_loc [1, 2, 3, 4, 0] rfl hC
        · have hC := hC.2 c0
          refine gj_aload_n X d_Co_countLength_67 rfl 0 rfl ?_
          refine gj_get X inX0 15 rfl rfl 0 (by decide) tw_91 rfl rfl d_Co_countLength_68 ?_
          refine gj_iload X d_Co_countLength_71 4 rfl ?_
          refine gj_callVI (As := [.int v_4]) (st := []) X (c_Gr_leftOf l dC dI h cI cL cZ σ v_4 _ hC) ⟨gj_cwB X tw_284 tw_2 tw_385 hd_Gr_leftOf rfl rfl ⟨Nat.le_of_ble_eq_true rfl, Nat.le_of_ble_eq_true rfl⟩, X.2.2.2.2.1 _ tw_282, X.2.2.2.2.1 _ tw_283⟩ 2 rfl rfl hA rfl (Nat.le_of_ble_eq_true rfl) ⟨Nat.zero_le _, Nat.zero_le _⟩ d_Co_countLength_73 rfl (fun r8 σ7 hC => ?_)
          refine gj_iload_n X d_Co_countLength_76 rfl 3 rfl ?_
          refine gj_icmp_ne (tgt := 101) X d_Co_countLength_77 (by decide) (fun c0 => ?_) (fun c0 => ?_)
          · have hC := hC.1 c0
            obtain ⟨v9, ev9⟩ : ∃ y : Int32, y = v_4 + 1 := ⟨_, rfl⟩
            have hC := hC v9 ev9
            refine gj_iinc (v := v9) (L' := [(4, .int v9), (0, .ref (h 15)), (1, .int v_1), (2, .int v_2), (3, .int v_3)]) X d_Co_countLength_101 4 rfl (by rw [ev9]; rfl) (by decide) rfl ?_
            refine gj_goto (tgt := 46) X d_Co_countLength_104 (by decide) ?_
            exact gj_loc [1, 2, 3, 4, 0] rfl hC
          · have hC := hC.2 c0
            refine gj_aload_n X d_Co_countLength_80 rfl 0 rfl ?_
            refine gj_iload X d_Co_countLength_81 4 rfl ?_
            refine gj_iload_n X d_Co_countLength_83 rfl 1 rfl ?_
            refine gj_callVV (As := [.int v_4, .int v_1]) (st := []) X (c_Co_fillEndingsw l dC dI h cI cL cZ σ7 v_4 v_1 _ hC) ⟨gj_cwB X tw_389 tw_5 tw_386 hd_Co_fillEndings rfl rfl ⟨Nat.le_of_ble_eq_true rfl, Nat.le_of_ble_eq_true rfl⟩, X.2.2.2.2.1 _ tw_388, X.2.2.2.2.1 _ ts_7⟩ 15 rfl rfl hA rfl (Nat.le_of_ble_eq_true rfl) ⟨Nat.zero_le _, Nat.zero_le _⟩ d_Co_countLength_84 rfl (fun σ10 hC => ?_)
            refine gj_aload_n X d_Co_countLength_87 rfl 0 rfl ?_
            refine gj_iload_n X d_Co_countLength_88 rfl 3 rfl ?_
            refine gj_iload_n X d_Co_countLength_89 rfl 1 rfl ?_
            refine gj_aload_n X d_Co_countLength_90 rfl 0 rfl ?_
            refine gj_iload X d_Co_countLength_91 4 rfl ?_
            refine gj_iconst (v := 0) X d_Co_countLength_93 (by decide) ?_
            refine gj_iload_n X d_Co_countLength_94 rfl 1 rfl ?_
            refine gj_callVL (As := [.int v_4, .int (0 : Int32), .int v_1]) (st := [.int v_1, .int v_3, .ref (h 15)]) X (c_Co_endingsOfw l dC dI h cI cL cZ σ10 v_4 (0 : Int32) v_1 _ hC) ⟨gj_cwB X tw_414 tw_5 tw_411 hd_Co_endingsOf rfl rfl ⟨Nat.le_of_ble_eq_true rfl, Nat.le_of_ble_eq_true rfl⟩, X.2.2.2.2.1 _ tw_412, X.2.2.2.2.1 _ tw_413⟩ 15 rfl rfl hA rfl (Nat.le_of_ble_eq_true rfl) ⟨Nat.zero_le _, Nat.zero_le _⟩ d_Co_countLength_95 rfl (fun r12 σ11 hC => ?_)
            refine gj_callVV (As := [.int v_3, .int v_1, .long r12]) (st := []) X (c_Co_addTreesw l dC dI h cI cL cZ σ11 v_3 v_1 r12 _ hC) ⟨gj_cwB X tw_418 tw_5 tw_415 hd_Co_addTrees rfl rfl ⟨Nat.le_of_ble_eq_true rfl, Nat.le_of_ble_eq_true rfl⟩, X.2.2.2.2.1 _ tw_417, X.2.2.2.2.1 _ ts_9⟩ 15 rfl rfl hA rfl (Nat.le_of_ble_eq_true rfl) ⟨Nat.zero_le _, Nat.zero_le _⟩ d_Co_countLength_98 rfl (fun σ13 hC => ?_)
            obtain ⟨v14, ev14⟩ : ∃ y : Int32, y = v_4 + 1 := ⟨_, rfl⟩
            have hC := hC v14 ev14
            refine gj_iinc (v := v14) (L' := [(4, .int v14), (0, .ref (h 15)), (1, .int v_1), (2, .int v_2), (3, .int v_3)]) X d_Co_countLength_101 4 rfl (by rw [ev14]; rfl) (by decide) rfl ?_
            refine gj_goto (tgt := 46) X d_Co_countLength_104 (by decide) ?_
            exact gj_loc [1, 2, 3, 4, 0] rfl hC)
    (by
      intro v_1 v_2 σ hC
      refine gj_iload_n X d_Co_countLength_115 rfl 2 rfl ?_
      refine gj_aload_n X d_Co_countLength_116 rfl 0 rfl ?_
      refine gj_get X inX0 15 rfl rfl 0 (by decide) tw_91 rfl rfl d_Co_countLength_117 ?_
      refine gj_getN X inX2 2 rfl rfl 3 (by decide) tn_36 rfl rfl d_Co_countLength_120 ?_
      refine gj_icmp_ge (tgt := 146) X d_Co_countLength_123 (by decide) (fun c0 => ?_) (fun c0 => ?_)
      · have hC := hC.1 c0
        exact gj_vret X hr hlk hC d_Co_countLength_146
      · have hC := hC.2 c0
        refine gj_iload_n X d_Co_countLength_126 rfl 2 rfl ?_
        refine gj_aload_n X d_Co_countLength_127 rfl 0 rfl ?_
        refine gj_get X inX0 15 rfl rfl 4 (by decide) tw_95 rfl rfl d_Co_countLength_128 ?_
        refine gj_icmp_eq (tgt := 140) X d_Co_countLength_131 (by decide) (fun c0 => ?_) (fun c0 => ?_)
        · have hC := hC.1 c0
          obtain ⟨v15, ev15⟩ : ∃ y : Int32, y = v_2 + 1 := ⟨_, rfl⟩
          have hC := hC v15 ev15
          refine gj_iinc (v := v15) (L' := [(2, .int v15), (0, .ref (h 15)), (1, .int v_1)]) X d_Co_countLength_140 2 rfl (by rw [ev15]; rfl) (by decide) rfl ?_
          refine gj_goto (tgt := 115) X d_Co_countLength_143 (by decide) ?_
          exact gj_loc [1, 2, 0] rfl hC
        · have hC := hC.2 c0
          refine gj_aload_n X d_Co_countLength_134 rfl 0 rfl ?_
          refine gj_iload_n X d_Co_countLength_135 rfl 2 rfl ?_
          refine gj_iload_n X d_Co_countLength_136 rfl 1 rfl ?_
          refine gj_callVV (As := [.int v_2, .int v_1]) (st := []) X (c_Co_fillEndingsw l dC dI h cI cL cZ σ v_2 v_1 _ hC) ⟨gj_cwB X tw_389 tw_5 tw_386 hd_Co_fillEndings rfl rfl ⟨Nat.le_of_ble_eq_true rfl, Nat.le_of_ble_eq_true rfl⟩, X.2.2.2.2.1 _ tw_388, X.2.2.2.2.1 _ ts_7⟩ 15 rfl rfl hA rfl (Nat.le_of_ble_eq_true rfl) ⟨Nat.zero_le _, Nat.zero_le _⟩ d_Co_countLength_137 rfl (fun σ16 hC => ?_)
          obtain ⟨v17, ev17⟩ : ∃ y : Int32, y = v_2 + 1 := ⟨_, rfl⟩
          have hC := hC v17 ev17
          refine gj_iinc (v := v17) (L' := [(2, .int v17), (0, .ref (h 15)), (1, .int v_1)]) X d_Co_countLength_140 2 rfl (by rw [ev17]; rfl) (by decide) rfl ?_
          refine gj_goto (tgt := 115) X d_Co_countLength_143 (by decide) ?_
          exact gj_loc [1, 2, 0] rfl hC)
  refine gj_iconst (v := 0) X d_Co_countLength_0 (by decide) ?_
  refine gj_istore_n (L' := [(2, .int (0 : Int32)), (0, .ref (h 15)), (1, .int a0)]) X d_Co_countLength_1 rfl (by decide) rfl ?_
  exact gj_loc [1, 2, 0] rfl hC
abbrev rm_Co_treesOfw : Room := { frames := 5, cells := 0, slots := 0, locals := 118 }
set_option maxHeartbeats 4000000 in
set_option maxRecDepth 100000 in
theorem c_Co_treesOfw (l : Launch) (dC : Nat → ClassId) (dI : Nat → Nat → Nat) (h : Nat → Nat) (cI cL cZ : ClassId) (σ : gs_St) (a0 : Int32) (a1 : Int32) (K : Int64 → gs_St → Prop) (hC : C_Co_treesOfw a0 a1 σ K) : gj_ML l y_Co_treesOf (gj_ws y_Co_treesOf b_Co_treesOf 4 (some .long)) rm_Co_treesOfw (dC, dI) gs_C (gs_T cI cL cZ) ((wG h cI cL) σ) (wG h cI cL) [.ref (h 15), .int a0, .int a1] K := by
  refine gj_enterL (by decide) (Nat.le_of_ble_eq_true rfl) (fun p e s m args below meth c A X hr hlk hA hnm => ?_)
  change gj_J p l e rm_Co_treesOfw s m args below meth c 0 0 (MQ below (va_Ql K (gj_at (dC, dI) gs_C (gs_T cI cL cZ) (wG h cI cL) A) A) args s 0 0 A) (dC, dI) gs_C A 4 0 [(0, .ref (h 15)), (1, .int a0), (2, .int a1)] [] ((wG h cI cL) σ)
  have hC := hC
    (fun (v_1 : Int32) (v_2 : Int32) (v_3 : Int32) (σ : gs_St) => gj_J p l e rm_Co_treesOfw s m args below meth c 0 0 (MQ below (va_Ql K (gj_at (dC, dI) gs_C (gs_T cI cL cZ) (wG h cI cL) A) A) args s 0 0 A) (dC, dI) gs_C A 4 5 [(0, .ref (h 15)), (1, .int v_1), (2, .int v_2), (3, .int v_3)] [] ((wG h cI cL) σ))
    (by
      intro v_1 v_2 v_3 σ hC
      refine gj_iload_n X d_Co_treesOf_5 rfl 3 rfl ?_
      refine gj_iload_n X d_Co_treesOf_6 rfl 2 rfl ?_
      refine gj_icmp_gt (tgt := 28) X d_Co_treesOf_7 (by decide) (fun c0 => ?_) (fun c0 => ?_)
      · have hC := hC.1 c0
        refine gj_aload_n X d_Co_treesOf_28 rfl 0 rfl ?_
        refine gj_get X inX0 15 rfl rfl 2 (by decide) tw_93 rfl rfl d_Co_treesOf_29 ?_
        refine gj_iload_n X d_Co_treesOf_32 rfl 1 rfl ?_
        refine gj_bipush (v := 17) X d_Co_treesOf_33 (by decide) ?_
        refine gj_imul X d_Co_treesOf_35 ?_
        refine gj_iload_n X d_Co_treesOf_36 rfl 2 rfl ?_
        refine gj_iadd X d_Co_treesOf_37 ?_
        refine gj_lald X 16 1 rfl rfl hC.1 d_Co_treesOf_38 ?_
        have hC := hC.2
        exact gj_lret X hr hlk hC d_Co_treesOf_39
      · have hC := hC.2 c0
        refine gj_aload_n X d_Co_treesOf_10 rfl 0 rfl ?_
        refine gj_iload_n X d_Co_treesOf_11 rfl 3 rfl ?_
        refine gj_callVV (As := [.int v_3]) (st := []) X (c_Co_countLengthw l dC dI h cI cL cZ σ v_3 _ hC) ⟨gj_cwB X tw_380 tw_5 tw_377 hd_Co_countLength rfl rfl ⟨Nat.le_of_ble_eq_true rfl, Nat.le_of_ble_eq_true rfl⟩, X.2.2.2.2.1 _ tw_379, X.2.2.2.2.1 _ ts_6⟩ 15 rfl rfl hA rfl (Nat.le_of_ble_eq_true rfl) ⟨Nat.zero_le _, Nat.zero_le _⟩ d_Co_treesOf_12 rfl (fun σ2 hC => ?_)
        refine gj_aload_n X d_Co_treesOf_15 rfl 0 rfl ?_
        refine gj_iload_n X d_Co_treesOf_16 rfl 3 rfl ?_
        refine gj_iconst (v := 1) X d_Co_treesOf_17 (by decide) ?_
        refine gj_iadd X d_Co_treesOf_18 ?_
        refine gj_put (w' := (wG h cI cL) (gs_I σ2 7 (v_3 + (1 : Int32)))) X inX0 tyX0 tyX0_ok nmX0 15 rfl rfl 5 (by decide) tw_96 rfl rfl (tyX0_ok 5 (by decide)) rfl rfl (Nat.le_of_ble_eq_true rfl) (set_wG_I7 h cI cL σ2 _) d_Co_treesOf_19 ?_
        refine gj_topw (wof := (wG h cI cL)) (fun σ3 eσ3 => ?_)
        have hC := hC σ3 eσ3
        obtain ⟨v4, ev4⟩ : ∃ y : Int32, y = v_3 + 1 := ⟨_, rfl⟩
        have hC := hC v4 ev4
        refine gj_iinc (v := v4) (L' := [(3, .int v4), (0, .ref (h 15)), (1, .int v_1), (2, .int v_2)]) X d_Co_treesOf_22 3 rfl (by rw [ev4]; rfl) (by decide) rfl ?_
        refine gj_goto (tgt := 5) X d_Co_treesOf_25 (by decide) ?_
        exact gj_loc [1, 2, 3, 0] rfl hC)
  refine gj_aload_n X d_Co_treesOf_0 rfl 0 rfl ?_
  refine gj_get X inX0 15 rfl rfl 5 (by decide) tw_96 rfl rfl d_Co_treesOf_1 ?_
  refine gj_topi (fun v1 ev1 => ?_)
  have hC := hC v1 ev1
  refine gj_istore_n (L' := [(3, .int v1), (0, .ref (h 15)), (1, .int a0), (2, .int a1)]) X d_Co_treesOf_4 rfl (by decide) rfl ?_
  exact gj_loc [1, 2, 3, 0] rfl hC
