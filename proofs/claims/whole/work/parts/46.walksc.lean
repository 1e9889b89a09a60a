abbrev rm_Ld_find : Room := { frames := 3, cells := 0, slots := 0, locals := 64 }
set_option maxHeartbeats 4000000 in
set_option maxRecDepth 100000 in
theorem c_Ld_find (l : Launch) (dC : Nat → ClassId) (dI : Nat → Nat → Nat) (h : Nat → Nat) (cI cL cZ : ClassId) (σ : gs_St) (K : gs_St → Prop) (hC : C_Ld_find σ K) : gj_MV 0 0 l y_Ld_find (gj_ws y_Ld_find b_Ld_find 4 (none)) rm_Ld_find (dC, dI) gs_C (gs_T cI cL cZ) ((wG h cI cL) σ) (wG h cI cL) [.ref (h 9)] K := by
  refine gj_enterV (by decide) (Nat.le_of_ble_eq_true rfl) (fun p e s m args below meth c A X hr hlk hA hnm => ?_)
  change gj_J p l e rm_Ld_find s m args below meth c 0 0 (MQ below (va_Qv K (gj_at (dC, dI) gs_C (gs_T cI cL cZ) (wG h cI cL) A) A) args s 0 0 A) (dC, dI) gs_C A 4 0 [(0, .ref (h 9))] [] ((wG h cI cL) σ)
  have hC := hC
    (fun (v_1 : Int32) (σ : gs_St) => gj_J p l e rm_Ld_find s m args below meth c 0 0 (MQ below (va_Qv K (gj_at (dC, dI) gs_C (gs_T cI cL cZ) (wG h cI cL) A) A) args s 0 0 A) (dC, dI) gs_C A 4 10 [(0, .ref (h 9)), (1, .int v_1)] [] ((wG h cI cL) σ))
    (fun (v_1 : Int32) (v_2 : Int32) (σ : gs_St) => gj_J p l e rm_Ld_find s m args below meth c 0 0 (MQ below (va_Qv K (gj_at (dC, dI) gs_C (gs_T cI cL cZ) (wG h cI cL) A) A) args s 0 0 A) (dC, dI) gs_C A 4 23 [(0, .ref (h 9)), (1, .int v_1), (2, .int v_2)] [] ((wG h cI cL) σ))
    (by
      intro v_1 σ hC
      refine gj_iload_n X d_Ld_find_10 rfl 1 rfl ?_
      refine gj_aload_n X d_Ld_find_11 rfl 0 rfl ?_
      refine gj_get X inX3 9 rfl rfl 0 (by decide) tw_69 rfl rfl d_Ld_find_12 ?_
      refine gj_getN X inX2 2 rfl rfl 3 (by decide) tn_33 rfl rfl d_Ld_find_15 ?_
      refine gj_icmp_ge (tgt := 92) X d_Ld_find_18 (by decide) (fun c0 => ?_) (fun c0 => ?_)
      · have hC := hC.1 c0
        refine gj_aload_n X d_Ld_find_92 rfl 0 rfl ?_
        refine gj_callVV (As := []) (st := []) X (c_Ld_putInOrder l dC dI h cI cL cZ σ _ hC) ⟨gj_cwB X tw_339 tw_4 tw_336 hd_Ld_putInOrder rfl rfl ⟨Nat.le_of_ble_eq_true rfl, Nat.le_of_ble_eq_true rfl⟩, X.2.2.2.2.1 _ tw_338, X.2.2.2.2.1 _ ts_4⟩ 9 rfl rfl hA rfl (Nat.le_of_ble_eq_true rfl) ⟨Nat.zero_le _, Nat.zero_le _⟩ d_Ld_find_93 rfl (fun σ2 hC => ?_)
        exact gj_vret X hr hlk hC d_Ld_find_96
      · have hC := hC.2 c0
        refine gj_iconst (v := 0) X d_Ld_find_21 (by decide) ?_
        refine gj_istore_n (L' := [(2, .int (0 : Int32)), (0, .ref (h 9)), (1, .int v_1)]) X d_Ld_find_22 rfl (by decide) rfl ?_
        exact gj_loc [1, 2, 0] rfl hC)
    (by
      intro v_1 v_2 σ hC
      refine gj_iload_n X d_Ld_find_23 rfl 2 rfl ?_
      refine gj_aload_n X d_Ld_find_24 rfl 0 rfl ?_
      refine gj_get X inX3 9 rfl rfl 0 (by decide) tw_69 rfl rfl d_Ld_find_25 ?_
      refine gj_iload_n X d_Ld_find_28 rfl 1 rfl ?_
      refine gj_callVI (As := [.int v_1]) (st := [.int v_2]) X (c_Gr_sizeOf l dC dI h cI cL cZ σ v_1 _ hC) ⟨gj_cwB X tw_280 tw_2 tw_324 hd_Gr_sizeOf rfl rfl ⟨Nat.le_of_ble_eq_true rfl, Nat.le_of_ble_eq_true rfl⟩, X.2.2.2.2.1 _ tw_278, X.2.2.2.2.1 _ tw_279⟩ 2 rfl rfl hA rfl (Nat.le_of_ble_eq_true rfl) ⟨Nat.zero_le _, Nat.zero_le _⟩ d_Ld_find_29 rfl (fun r4 σ3 hC => ?_)
      refine gj_icmp_ge (tgt := 86) X d_Ld_find_32 (by decide) (fun c0 => ?_) (fun c0 => ?_)
      · have hC := hC.1 c0
        obtain ⟨v5, ev5⟩ : ∃ y : Int32, y = v_1 + 1 := ⟨_, rfl⟩
        have hC := hC v5 ev5
        refine gj_iinc (v := v5) (L' := [(1, .int v5), (0, .ref (h 9)), (2, .int v_2)]) X d_Ld_find_86 1 rfl (by rw [ev5]; rfl) (by decide) rfl ?_
        refine gj_goto (tgt := 10) X d_Ld_find_89 (by decide) ?_
        exact gj_loc [1, 0] rfl hC
      · have hC := hC.2 c0
        refine gj_aload_n X d_Ld_find_35 rfl 0 rfl ?_
        refine gj_get X inX3 9 rfl rfl 0 (by decide) tw_69 rfl rfl d_Ld_find_36 ?_
        refine gj_iload_n X d_Ld_find_39 rfl 1 rfl ?_
        refine gj_iload_n X d_Ld_find_40 rfl 2 rfl ?_
        refine gj_callVI (As := [.int v_1, .int v_2]) (st := []) X (c_Gr_symbolAt l dC dI h cI cL cZ σ3 v_1 v_2 _ hC) ⟨gj_cwB X tw_288 tw_2 tw_325 hd_Gr_symbolAt rfl rfl ⟨Nat.le_of_ble_eq_true rfl, Nat.le_of_ble_eq_true rfl⟩, X.2.2.2.2.1 _ tw_286, X.2.2.2.2.1 _ tw_287⟩ 2 rfl rfl hA rfl (Nat.le_of_ble_eq_true rfl) ⟨Nat.zero_le _, Nat.zero_le _⟩ d_Ld_find_41 rfl (fun r7 σ6 hC => ?_)
        refine gj_istore_n (L' := [(3, .int r7), (0, .ref (h 9)), (1, .int v_1), (2, .int v_2)]) X d_Ld_find_44 rfl (by decide) rfl ?_
        refine gj_iload_n X d_Ld_find_45 rfl 0 rfl ?_
        refine gj_callSNI (As := [.int r7]) (st := []) X (c_Gl_isNonterminal l dC dI h cI cL cZ σ6 r7 _ hC) ⟨gj_cwN X tw_249 tw_1 tn_326 hd_Gl_isNonterminal rfl rfl ⟨Nat.le_of_ble_eq_true rfl, Nat.le_of_ble_eq_true rfl⟩, X.2.2.2.2.1 _ tw_248, trivial⟩ hA rfl (Nat.le_of_ble_eq_true rfl) ⟨Nat.zero_le _, Nat.zero_le _⟩ d_Ld_find_46 rfl (fun r9 σ8 hC => ?_)
        obtain ⟨hC, hb⟩ := hC
        refine gj_if_eq (tgt := 80) X d_Ld_find_49 (by decide) (fun c0 => ?_) (fun c0 => ?_)
        · have hC := hC.1 c0
          obtain ⟨v10, ev10⟩ : ∃ y : Int32, y = v_2 + 1 := ⟨_, rfl⟩
          have hC := hC v10 ev10
          refine gj_iinc (v := v10) (L' := [(2, .int v10), (3, .int r7), (0, .ref (h 9)), (1, .int v_1)]) X d_Ld_find_80 3 rfl (by rw [ev10]; rfl) (by decide) rfl ?_
          refine gj_goto (tgt := 23) X d_Ld_find_83 (by decide) ?_
          exact gj_loc [2, 3, 0] rfl hC
        · have hC := hC.2 c0
          refine gj_aload_n X d_Ld_find_52 rfl 1 rfl ?_
          refine gj_iload_n X d_Ld_find_53 rfl 2 rfl ?_
          refine gj_iload_n X d_Ld_find_54 rfl 3 rfl ?_
          refine gj_callVI (As := [.int v_1, .int v_2]) (st := []) X (c_Ld_isEmptyBut l dC dI h cI cL cZ σ8 v_1 v_2 _ hC) ⟨gj_cwB X tw_330 tw_4 tw_327 hd_Ld_isEmptyBut rfl rfl ⟨Nat.le_of_ble_eq_true rfl, Nat.le_of_ble_eq_true rfl⟩, X.2.2.2.2.1 _ tw_329, X.2.2.2.2.1 _ ts_3⟩ 9 rfl rfl hA rfl (Nat.le_of_ble_eq_true rfl) ⟨Nat.zero_le _, Nat.zero_le _⟩ d_Ld_find_55 rfl (fun r12 σ11 hC => ?_)
          obtain ⟨hC, hb⟩ := hC
          refine gj_if_eq (tgt := 80) X d_Ld_find_58 (by decide) (fun c0 => ?_) (fun c0 => ?_)
          · have hC := hC.1 c0
            obtain ⟨v13, ev13⟩ : ∃ y : Int32, y = v_2 + 1 := ⟨_, rfl⟩
            have hC := hC v13 ev13
            refine gj_iinc (v := v13) (L' := [(2, .int v13), (3, .int r7), (0, .ref (h 9)), (1, .int v_1)]) X d_Ld_find_80 3 rfl (by rw [ev13]; rfl) (by decide) rfl ?_
            refine gj_goto (tgt := 23) X d_Ld_find_83 (by decide) ?_
            exact gj_loc [2, 3, 0] rfl hC
          · have hC := hC.2 c0
            refine gj_aload_n X d_Ld_find_61 rfl 1 rfl ?_
            refine gj_get X inX3 9 rfl rfl 2 (by decide) tw_71 rfl rfl d_Ld_find_62 ?_
            refine gj_aload_n X d_Ld_find_65 rfl 1 rfl ?_
            refine gj_get X inX3 9 rfl rfl 0 (by decide) tw_69 rfl rfl d_Ld_find_66 ?_
            refine gj_iload_n X d_Ld_find_69 rfl 2 rfl ?_
            refine gj_callVI (As := [.int v_1]) (st := [.ref (h 10)]) X (c_Gr_leftOf l dC dI h cI cL cZ σ11 v_1 _ hC) ⟨gj_cwB X tw_284 tw_2 tw_335 hd_Gr_leftOf rfl rfl ⟨Nat.le_of_ble_eq_true rfl, Nat.le_of_ble_eq_true rfl⟩, X.2.2.2.2.1 _ tw_282, X.2.2.2.2.1 _ tw_283⟩ 2 rfl rfl hA rfl (Nat.le_of_ble_eq_true rfl) ⟨Nat.zero_le _, Nat.zero_le _⟩ d_Ld_find_70 rfl (fun r15 σ14 hC => ?_)
            refine gj_dup2 X d_Ld_find_73 rfl rfl ?_
            refine gj_iald X 10 0 rfl rfl hC.1 d_Ld_find_74 ?_
            have hC := hC.2
            refine gj_iconst (v := 1) X d_Ld_find_75 (by decide) ?_
            refine gj_iload_n X d_Ld_find_76 rfl 0 rfl ?_
            refine gj_ishl X d_Ld_find_77 ?_
            refine gj_ior X d_Ld_find_78 ?_
            refine gj_iast (w' := (wG h cI cL) (gs_A σ14 6 (upd (σ14.2.1 6) r15.toNatClampNeg ((σ14.2.1 6 r15.toNatClampNeg) ||| ((1 : Int32) <<< (r7 &&& 31)))))) X 10 0 rfl rfl hC.1 (set_wG_A6 h cI cL σ14 _) d_Ld_find_79 ?_
            refine gj_topw (wof := (wG h cI cL)) (fun σ16 eσ16 => ?_)
            have hC := hC.2 σ16 eσ16
            obtain ⟨v17, ev17⟩ : ∃ y : Int32, y = v_2 + 1 := ⟨_, rfl⟩
            have hC := hC v17 ev17
            refine gj_iinc (v := v17) (L' := [(2, .int v17), (3, .int r7), (0, .ref (h 9)), (1, .int v_1)]) X d_Ld_find_80 3 rfl (by rw [ev17]; rfl) (by decide) rfl ?_
            refine gj_goto (tgt := 23) X d_Ld_find_83 (by decide) ?_
            exact gj_loc [2, 3, 0] rfl hC)
  refine gj_aload_n X d_Ld_find_0 rfl 0 rfl ?_
  refine gj_get X inX3 9 rfl rfl 2 (by decide) tw_71 rfl rfl d_Ld_find_1 ?_
  refine gj_iconst (v := 0) X d_Ld_find_4 (by decide) ?_
  refine gj_callSV (As := [.ref (h 10), .int (0 : Int32)]) (st := []) X (c_Ar_fill_10 l dC dI h cI cL cZ σ (0 : Int32) _ hC) ⟨gj_cwB X tw_303 tw_12 tw_323 hd_Ar_fill rfl rfl ⟨Nat.le_of_ble_eq_true rfl, Nat.le_of_ble_eq_true rfl⟩, X.2.2.2.2.1 _ tw_302⟩ hA rfl (Nat.le_of_ble_eq_true rfl) ⟨Nat.zero_le _, Nat.zero_le _⟩ d_Ld_find_5 rfl (fun σ1 hC => ?_)
  refine gj_iconst (v := 0) X d_Ld_find_8 (by decide) ?_
  refine gj_istore_n (L' := [(1, .int (0 : Int32)), (0, .ref (h 9))]) X d_Ld_find_9 rfl (by decide) rfl ?_
  exact gj_loc [1, 0] rfl hC
abbrev rm_Co_forget : Room := { frames := 0, cells := 0, slots := 0, locals := 0 }
set_option maxHeartbeats 4000000 in
set_option maxRecDepth 100000 in
theorem c_Co_forget (l : Launch) (dC : Nat → ClassId) (dI : Nat → Nat → Nat) (h : Nat → Nat) (cI cL cZ : ClassId) (σ : gs_St) (K : gs_St → Prop) (hC : C_Co_forget σ K) : gj_MV 0 0 l y_Co_forget (gj_ws y_Co_forget b_Co_forget 1 (none)) rm_Co_forget (dC, dI) gs_C (gs_T cI cL cZ) ((wG h cI cL) σ) (wG h cI cL) [.ref (h 12)] K := by
  refine gj_enterV (by decide) (Nat.le_of_ble_eq_true rfl) (fun p e s m args below meth c A X hr hlk hA hnm => ?_)
  change gj_J p l e rm_Co_forget s m args below meth c 0 0 (MQ below (va_Qv K (gj_at (dC, dI) gs_C (gs_T cI cL cZ) (wG h cI cL) A) A) args s 0 0 A) (dC, dI) gs_C A 1 0 [(0, .ref (h 12))] [] ((wG h cI cL) σ)
  refine gj_aload_n X d_Co_forget_0 rfl 0 rfl ?_
  refine gj_iconst (v := 0) X d_Co_forget_1 (by decide) ?_
  refine gj_put (w' := (wG h cI cL) (gs_I σ 5 (0 : Int32))) X inX0 tyX0 tyX0_ok nmX0 12 rfl rfl 5 (by decide) tw_96 rfl rfl (tyX0_ok 5 (by decide)) rfl rfl (Nat.le_of_ble_eq_true rfl) (set_wG_I5 h cI cL σ _) d_Co_forget_2 ?_
  refine gj_topw (wof := (wG h cI cL)) (fun σ1 eσ1 => ?_)
  have hC := hC σ1 eσ1
  exact gj_vret X hr hlk hC d_Co_forget_5
abbrev rm_Co_forgetw : Room := { frames := 0, cells := 0, slots := 0, locals := 0 }
set_option maxHeartbeats 4000000 in
set_option maxRecDepth 100000 in
theorem c_Co_forgetw (l : Launch) (dC : Nat → ClassId) (dI : Nat → Nat → Nat) (h : Nat → Nat) (cI cL cZ : ClassId) (σ : gs_St) (K : gs_St → Prop) (hC : C_Co_forgetw σ K) : gj_MV 0 0 l y_Co_forget (gj_ws y_Co_forget b_Co_forget 1 (none)) rm_Co_forgetw (dC, dI) gs_C (gs_T cI cL cZ) ((wG h cI cL) σ) (wG h cI cL) [.ref (h 15)] K := by
  refine gj_enterV (by decide) (Nat.le_of_ble_eq_true rfl) (fun p e s m args below meth c A X hr hlk hA hnm => ?_)
  change gj_J p l e rm_Co_forgetw s m args below meth c 0 0 (MQ below (va_Qv K (gj_at (dC, dI) gs_C (gs_T cI cL cZ) (wG h cI cL) A) A) args s 0 0 A) (dC, dI) gs_C A 1 0 [(0, .ref (h 15))] [] ((wG h cI cL) σ)
  refine gj_aload_n X d_Co_forget_0 rfl 0 rfl ?_
  refine gj_iconst (v := 0) X d_Co_forget_1 (by decide) ?_
  refine gj_put (w' := (wG h cI cL) (gs_I σ 7 (0 : Int32))) X inX0 tyX0 tyX0_ok nmX0 15 rfl rfl 5 (by decide) tw_96 rfl rfl (tyX0_ok 5 (by decide)) rfl rfl (Nat.le_of_ble_eq_true rfl) (set_wG_I7 h cI cL σ _) d_Co_forget_2 ?_
  refine gj_topw (wof := (wG h cI cL)) (fun σ1 eσ1 => ?_)
  have hC := hC σ1 eσ1
  exact gj_vret X hr hlk hC d_Co_forget_5
abbrev rm_Gl_study : Room := { frames := 4, cells := 0, slots := 0, locals := 95 }
set_option maxHeartbeats 4000000 in
set_option maxRecDepth 100000 in
theorem c_Gl_study (l : Launch) (dC : Nat → ClassId) (dI : Nat → Nat → Nat) (h : Nat → Nat) (cI cL cZ : ClassId) (σ : gs_St) (K : gs_St → Prop) (hC : C_Gl_study σ K) : gj_MV 0 0 l y_Gl_study (gj_ws y_Gl_study b_Gl_study 1 (none)) rm_Gl_study (dC, dI) gs_C (gs_T cI cL cZ) ((wG h cI cL) σ) (wG h cI cL) [.ref (h 0)] K := by
  refine gj_enterV (by decide) (Nat.le_of_ble_eq_true rfl) (fun p e s m args below meth c A X hr hlk hA hnm => ?_)
  change gj_J p l e rm_Gl_study s m args below meth c 0 0 (MQ below (va_Qv K (gj_at (dC, dI) gs_C (gs_T cI cL cZ) (wG h cI cL) A) A) args s 0 0 A) (dC, dI) gs_C A 1 0 [(0, .ref (h 0))] [] ((wG h cI cL) σ)
  refine gj_aload_n X d_Gl_study_0 rfl 0 rfl ?_
  refine gj_get X inX8 0 rfl rfl 9 (by decide) tw_217 rfl rfl d_Gl_study_1 ?_
  refine gj_if_eq (tgt := 8) X d_Gl_study_4 (by decide) (fun c0 => ?_) (fun c0 => ?_)
  · have hC := hC.1 c0
    refine gj_aload_n X d_Gl_study_8 rfl 0 rfl ?_
    refine gj_iconst (v := 1) X d_Gl_study_9 (by decide) ?_
    refine gj_put (w' := (wG h cI cL) (gs_I σ 1 (1 : Int32))) X inX8 tyX8 tyX8_ok nmX8 0 rfl rfl 9 (by decide) tw_217 rfl rfl (tyX8_ok 9 (by decide)) rfl rfl (Nat.le_of_ble_eq_true rfl) (set_wG_I1 h cI cL σ _) d_Gl_study_10 ?_
    refine gj_topw (wof := (wG h cI cL)) (fun σ1 eσ1 => ?_)
    have hC := hC σ1 eσ1
    refine gj_aload_n X d_Gl_study_13 rfl 0 rfl ?_
    refine gj_get X inX8 0 rfl rfl 3 (by decide) tw_211 rfl rfl d_Gl_study_14 ?_
    refine gj_callVV (As := []) (st := []) X (c_Le_find l dC dI h cI cL cZ σ1 _ hC) ⟨gj_cwB X tw_300 tw_3 tw_297 hd_Le_find rfl rfl ⟨Nat.le_of_ble_eq_true rfl, Nat.le_of_ble_eq_true rfl⟩, X.2.2.2.2.1 _ tw_298, X.2.2.2.2.1 _ tw_299⟩ 6 rfl rfl hA rfl (Nat.le_of_ble_eq_true rfl) ⟨Nat.zero_le _, Nat.zero_le _⟩ d_Gl_study_17 rfl (fun σ2 hC => ?_)
    refine gj_aload_n X d_Gl_study_20 rfl 0 rfl ?_
    refine gj_get X inX8 0 rfl rfl 4 (by decide) tw_212 rfl rfl d_Gl_study_21 ?_
    refine gj_callVV (As := []) (st := []) X (c_Ld_find l dC dI h cI cL cZ σ2 _ hC) ⟨gj_cwB X tw_322 tw_4 tw_319 hd_Ld_find rfl rfl ⟨Nat.le_of_ble_eq_true rfl, Nat.le_of_ble_eq_true rfl⟩, X.2.2.2.2.1 _ tw_320, X.2.2.2.2.1 _ tw_321⟩ 9 rfl rfl hA rfl (Nat.le_of_ble_eq_true rfl) ⟨Nat.zero_le _, Nat.zero_le _⟩ d_Gl_study_24 rfl (fun σ3 hC => ?_)
    refine gj_aload_n X d_Gl_study_27 rfl 0 rfl ?_
    refine gj_get X inX8 0 rfl rfl 5 (by decide) tw_213 rfl rfl d_Gl_study_28 ?_
    refine gj_callVV (As := []) (st := []) X (c_Co_forget l dC dI h cI cL cZ σ3 _ hC) ⟨gj_cwB X tw_343 tw_5 tw_340 hd_Co_forget rfl rfl ⟨Nat.le_of_ble_eq_true rfl, Nat.le_of_ble_eq_true rfl⟩, X.2.2.2.2.1 _ tw_341, X.2.2.2.2.1 _ tw_342⟩ 12 rfl rfl hA rfl (Nat.le_of_ble_eq_true rfl) ⟨Nat.zero_le _, Nat.zero_le _⟩ d_Gl_study_31 rfl (fun σ4 hC => ?_)
    refine gj_aload_n X d_Gl_study_34 rfl 0 rfl ?_
    refine gj_get X inX8 0 rfl rfl 6 (by decide) tw_214 rfl rfl d_Gl_study_35 ?_
    refine gj_callVV (As := []) (st := []) X (c_Co_forgetw l dC dI h cI cL cZ σ4 _ hC) ⟨gj_cwB X tw_343 tw_5 tw_340 hd_Co_forget rfl rfl ⟨Nat.le_of_ble_eq_true rfl, Nat.le_of_ble_eq_true rfl⟩, X.2.2.2.2.1 _ tw_341, X.2.2.2.2.1 _ tw_342⟩ 15 rfl rfl hA rfl (Nat.le_of_ble_eq_true rfl) ⟨Nat.zero_le _, Nat.zero_le _⟩ d_Gl_study_38 rfl (fun σ5 hC => ?_)
    exact gj_vret X hr hlk hC d_Gl_study_41
  · have hC := hC.2 c0
    exact gj_vret X hr hlk hC d_Gl_study_7
abbrev rm_Le_leastOf : Room := { frames := 0, cells := 0, slots := 0, locals := 0 }
set_option maxHeartbeats 4000000 in
set_option maxRecDepth 100000 in
theorem c_Le_leastOf (l : Launch) (dC : Nat → ClassId) (dI : Nat → Nat → Nat) (h : Nat → Nat) (cI cL cZ : ClassId) (σ : gs_St) (a0 : Int32) (K : Int32 → gs_St → Prop) (hC : C_Le_leastOf a0 σ K) : gj_MI l y_Le_leastOf (gj_ws y_Le_leastOf b_Le_leastOf 2 (some .int)) rm_Le_leastOf (dC, dI) gs_C (gs_T cI cL cZ) ((wG h cI cL) σ) (wG h cI cL) [.ref (h 6), .int a0] K := by
  refine gj_enterI (by decide) (Nat.le_of_ble_eq_true rfl) (fun p e s m args below meth c A X hr hlk hA hnm => ?_)
  change gj_J p l e rm_Le_leastOf s m args below meth c 0 0 (MQ below (va_Qi K (gj_at (dC, dI) gs_C (gs_T cI cL cZ) (wG h cI cL) A) A) args s 0 0 A) (dC, dI) gs_C A 2 0 [(0, .ref (h 6)), (1, .int a0)] [] ((wG h cI cL) σ)
  refine gj_aload_n X d_Le_leastOf_0 rfl 0 rfl ?_
  refine gj_get X inX4 6 rfl rfl 1 (by decide) tw_54 rfl rfl d_Le_leastOf_1 ?_
  refine gj_iload_n X d_Le_leastOf_4 rfl 1 rfl ?_
  refine gj_iald X 7 0 rfl rfl hC.1 d_Le_leastOf_5 ?_
  have hC := hC.2
  exact gj_iret X hr hlk hC d_Le_leastOf_6
abbrev rm_Gl_shortest : Room := { frames := 5, cells := 0, slots := 0, locals := 115 }
set_option maxHeartbeats 4000000 in
set_option maxRecDepth 100000 in
theorem c_Gl_shortest (l : Launch) (dC : Nat → ClassId) (dI : Nat → Nat → Nat) (h : Nat → Nat) (cI cL cZ : ClassId) (σ : gs_St) (a0 : Int32) (K : Int32 → gs_St → Prop) (hC : C_Gl_shortest a0 σ K) : gj_MI l y_Gl_shortest (gj_ws y_Gl_shortest b_Gl_shortest 2 (some .int)) rm_Gl_shortest (dC, dI) gs_C (gs_T cI cL cZ) ((wG h cI cL) σ) (wG h cI cL) [.ref (h 0), .int a0] K := by
  refine gj_enterI (by decide) (Nat.le_of_ble_eq_true rfl) (fun p e s m args below meth c A X hr hlk hA hnm => ?_)
  change gj_J p l e rm_Gl_shortest s m args below meth c 0 0 (MQ below (va_Qi K (gj_at (dC, dI) gs_C (gs_T cI cL cZ) (wG h cI cL) A) A) args s 0 0 A) (dC, dI) gs_C A 2 0 [(0, .ref (h 0)), (1, .int a0)] [] ((wG h cI cL) σ)
  refine gj_iload_n X d_Gl_shortest_0 rfl 1 rfl ?_
  refine gj_callSI (As := [.int a0]) (st := []) X (c_Gl_isNonterminal l dC dI h cI cL cZ σ a0 _ hC) ⟨gj_cwB X tw_249 tw_1 tw_247 hd_Gl_isNonterminal rfl rfl ⟨Nat.le_of_ble_eq_true rfl, Nat.le_of_ble_eq_true rfl⟩, X.2.2.2.2.1 _ tw_248⟩ hA rfl (Nat.le_of_ble_eq_true rfl) ⟨Nat.zero_le _, Nat.zero_le _⟩ d_Gl_shortest_1 rfl (fun r2 σ1 hC => ?_)
  obtain ⟨hC, hb⟩ := hC
  refine gj_if_ne (tgt := 9) X d_Gl_shortest_4 (by decide) (fun c0 => ?_) (fun c0 => ?_)
  · have hC := hC.1 c0
    refine gj_aload_n X d_Gl_shortest_9 rfl 0 rfl ?_
    refine gj_callVV (As := []) (st := []) X (c_Gl_study l dC dI h cI cL cZ σ1 _ hC) ⟨gj_cwB X tw_296 tw_1 tw_293 hd_Gl_study rfl rfl ⟨Nat.le_of_ble_eq_true rfl, Nat.le_of_ble_eq_true rfl⟩, X.2.2.2.2.1 _ tw_295, X.2.2.2.2.1 _ ts_0⟩ 0 rfl rfl hA rfl (Nat.le_of_ble_eq_true rfl) ⟨Nat.zero_le _, Nat.zero_le _⟩ d_Gl_shortest_10 rfl (fun σ3 hC => ?_)
    refine gj_aload_n X d_Gl_shortest_13 rfl 0 rfl ?_
    refine gj_get X inX8 0 rfl rfl 3 (by decide) tw_211 rfl rfl d_Gl_shortest_14 ?_
    refine gj_iload_n X d_Gl_shortest_17 rfl 1 rfl ?_
    refine gj_callVI (As := [.int a0]) (st := []) X (c_Le_leastOf l dC dI h cI cL cZ σ3 a0 _ hC) ⟨gj_cwB X tw_347 tw_3 tw_344 hd_Le_leastOf rfl rfl ⟨Nat.le_of_ble_eq_true rfl, Nat.le_of_ble_eq_true rfl⟩, X.2.2.2.2.1 _ tw_345, X.2.2.2.2.1 _ tw_346⟩ 6 rfl rfl hA rfl (Nat.le_of_ble_eq_true rfl) ⟨Nat.zero_le _, Nat.zero_le _⟩ d_Gl_shortest_18 rfl (fun r5 σ4 hC => ?_)
    exact gj_iret X hr hlk hC d_Gl_shortest_21
  · have hC := hC.2 c0
    refine gj_iconst (v := -1) X d_Gl_shortest_7 (by decide) ?_
    exact gj_iret X hr hlk hC d_Gl_shortest_8
abbrev rm_Le_leastWith : Room := { frames := 2, cells := 0, slots := 0, locals := 48 }
set_option maxHeartbeats 4000000 in
set_option maxRecDepth 100000 in
theorem c_Le_leastWith (l : Launch) (dC : Nat → ClassId) (dI : Nat → Nat → Nat) (h : Nat → Nat) (cI cL cZ : ClassId) (σ : gs_St) (a0 : Int32) (K : Int32 → gs_St → Prop) (hC : C_Le_leastWith a0 σ K) : gj_MI l y_Le_leastWith (gj_ws y_Le_leastWith b_Le_leastWith 4 (some .int)) rm_Le_leastWith (dC, dI) gs_C (gs_T cI cL cZ) ((wG h cI cL) σ) (wG h cI cL) [.ref (h 6), .int a0] K := by
  refine gj_enterI (by decide) (Nat.le_of_ble_eq_true rfl) (fun p e s m args below meth c A X hr hlk hA hnm => ?_)
  change gj_J p l e rm_Le_leastWith s m args below meth c 0 0 (MQ below (va_Qi K (gj_at (dC, dI) gs_C (gs_T cI cL cZ) (wG h cI cL) A) A) args s 0 0 A) (dC, dI) gs_C A 4 0 [(0, .ref (h 6)), (1, .int a0)] [] ((wG h cI cL) σ)
  refine gj_aload_n X d_Le_leastWith_0 rfl 0 rfl ?_
  refine gj_iload_n X d_Le_leastWith_1 rfl 1 rfl ?_
  refine gj_iconst (v := -1) X d_Le_leastWith_2 (by decide) ?_
  refine gj_callVI (As := [.int a0, .int (-1 : Int32)]) (st := []) X (c_Le_leastBut l dC dI h cI cL cZ σ a0 (-1 : Int32) _ hC) ⟨gj_cwB X tw_308 tw_3 tw_305 hd_Le_leastBut rfl rfl ⟨Nat.le_of_ble_eq_true rfl, Nat.le_of_ble_eq_true rfl⟩, X.2.2.2.2.1 _ tw_307, X.2.2.2.2.1 _ ts_1⟩ 6 rfl rfl hA rfl (Nat.le_of_ble_eq_true rfl) ⟨Nat.zero_le _, Nat.zero_le _⟩ d_Le_leastWith_3 rfl (fun r2 σ1 hC => ?_)
  refine gj_istore_n (L' := [(2, .int r2), (0, .ref (h 6)), (1, .int a0)]) X d_Le_leastWith_6 rfl (by decide) rfl ?_
  refine gj_aload_n X d_Le_leastWith_7 rfl 1 rfl ?_
  refine gj_get X inX4 6 rfl rfl 2 (by decide) tw_55 rfl rfl d_Le_leastWith_8 ?_
  refine gj_aload_n X d_Le_leastWith_11 rfl 1 rfl ?_
  refine gj_get X inX4 6 rfl rfl 0 (by decide) tw_53 rfl rfl d_Le_leastWith_12 ?_
  refine gj_iload_n X d_Le_leastWith_15 rfl 2 rfl ?_
  refine gj_callVI (As := [.int a0]) (st := [.ref (h 8)]) X (c_Gr_leftOf l dC dI h cI cL cZ σ1 a0 _ hC) ⟨gj_cwB X tw_284 tw_2 tw_304 hd_Gr_leftOf rfl rfl ⟨Nat.le_of_ble_eq_true rfl, Nat.le_of_ble_eq_true rfl⟩, X.2.2.2.2.1 _ tw_282, X.2.2.2.2.1 _ tw_283⟩ 2 rfl rfl hA rfl (Nat.le_of_ble_eq_true rfl) ⟨Nat.zero_le _, Nat.zero_le _⟩ d_Le_leastWith_16 rfl (fun r4 σ3 hC => ?_)
  refine gj_iald X 8 0 rfl rfl hC.1 d_Le_leastWith_19 ?_
  have hC := hC.2
  refine gj_topi (fun v5 ev5 => ?_)
  have hC := hC v5 ev5
  refine gj_istore_n (L' := [(3, .int v5), (2, .int r2), (0, .ref (h 6)), (1, .int a0)]) X d_Le_leastWith_20 rfl (by decide) rfl ?_
  refine gj_iload_n X d_Le_leastWith_21 rfl 1 rfl ?_
  refine gj_iconst (v := -1) X d_Le_leastWith_22 (by decide) ?_
  refine gj_icmp_eq (tgt := 31) X d_Le_leastWith_23 (by decide) (fun c0 => ?_) (fun c0 => ?_)
  · have hC := hC.1 c0
    refine gj_iconst (v := -1) X d_Le_leastWith_31 (by decide) ?_
    refine gj_goto (tgt := 38) X d_Le_leastWith_32 (by decide) ?_
    exact gj_iret X hr hlk hC d_Le_leastWith_38
  · have hC := hC.2 c0
    refine gj_iload_n X d_Le_leastWith_26 rfl 0 rfl ?_
    refine gj_iconst (v := -1) X d_Le_leastWith_27 (by decide) ?_
    refine gj_icmp_ne (tgt := 35) X d_Le_leastWith_28 (by decide) (fun c0 => ?_) (fun c0 => ?_)
    · have hC := hC.1 c0
      refine gj_iload_n X d_Le_leastWith_35 rfl 1 rfl ?_
      refine gj_iload_n X d_Le_leastWith_36 rfl 0 rfl ?_
      refine gj_iadd X d_Le_leastWith_37 ?_
      exact gj_iret X hr hlk hC d_Le_leastWith_38
    · have hC := hC.2 c0
      refine gj_iconst (v := -1) X d_Le_leastWith_31 (by decide) ?_
      refine gj_goto (tgt := 38) X d_Le_leastWith_32 (by decide) ?_
      exact gj_iret X hr hlk hC d_Le_leastWith_38
abbrev rm_Gl_shortestWith : Room := { frames := 5, cells := 0, slots := 0, locals := 115 }
set_option maxHeartbeats 4000000 in
set_option maxRecDepth 100000 in
theorem c_Gl_shortestWith (l : Launch) (dC : Nat → ClassId) (dI : Nat → Nat → Nat) (h : Nat → Nat) (cI cL cZ : ClassId) (σ : gs_St) (a0 : Int32) (K : Int32 → gs_St → Prop) (hC : C_Gl_shortestWith a0 σ K) : gj_MI l y_Gl_shortestWith (gj_ws y_Gl_shortestWith b_Gl_shortestWith 2 (some .int)) rm_Gl_shortestWith (dC, dI) gs_C (gs_T cI cL cZ) ((wG h cI cL) σ) (wG h cI cL) [.ref (h 0), .int a0] K := by
  refine gj_enterI (by decide) (Nat.le_of_ble_eq_true rfl) (fun p e s m args below meth c A X hr hlk hA hnm => ?_)
  change gj_J p l e rm_Gl_shortestWith s m args below meth c 0 0 (MQ below (va_Qi K (gj_at (dC, dI) gs_C (gs_T cI cL cZ) (wG h cI cL) A) A) args s 0 0 A) (dC, dI) gs_C A 2 0 [(0, .ref (h 0)), (1, .int a0)] [] ((wG h cI cL) σ)
  refine gj_aload_n X d_Gl_shortestWith_0 rfl 0 rfl ?_
  refine gj_get X inX8 0 rfl rfl 2 (by decide) tw_210 rfl rfl d_Gl_shortestWith_1 ?_
  refine gj_iload_n X d_Gl_shortestWith_4 rfl 1 rfl ?_
  refine gj_callVI (As := [.int a0]) (st := []) X (c_Gr_has l dC dI h cI cL cZ σ a0 _ hC) ⟨gj_cwB X tw_264 tw_2 tw_261 hd_Gr_has rfl rfl ⟨Nat.le_of_ble_eq_true rfl, Nat.le_of_ble_eq_true rfl⟩, X.2.2.2.2.1 _ tw_262, X.2.2.2.2.1 _ tw_263⟩ 2 rfl rfl hA rfl (Nat.le_of_ble_eq_true rfl) ⟨Nat.zero_le _, Nat.zero_le _⟩ d_Gl_shortestWith_5 rfl (fun r2 σ1 hC => ?_)
  obtain ⟨hC, hb⟩ := hC
  refine gj_if_ne (tgt := 13) X d_Gl_shortestWith_8 (by decide) (fun c0 => ?_) (fun c0 => ?_)
  · have hC := hC.1 c0
    refine gj_aload_n X d_Gl_shortestWith_13 rfl 0 rfl ?_
    refine gj_callVV (As := []) (st := []) X (c_Gl_study l dC dI h cI cL cZ σ1 _ hC) ⟨gj_cwB X tw_296 tw_1 tw_293 hd_Gl_study rfl rfl ⟨Nat.le_of_ble_eq_true rfl, Nat.le_of_ble_eq_true rfl⟩, X.2.2.2.2.1 _ tw_295, X.2.2.2.2.1 _ ts_0⟩ 0 rfl rfl hA rfl (Nat.le_of_ble_eq_true rfl) ⟨Nat.zero_le _, Nat.zero_le _⟩ d_Gl_shortestWith_14 rfl (fun σ3 hC => ?_)
    refine gj_aload_n X d_Gl_shortestWith_17 rfl 0 rfl ?_
    refine gj_get X inX8 0 rfl rfl 3 (by decide) tw_211 rfl rfl d_Gl_shortestWith_18 ?_
    refine gj_iload_n X d_Gl_shortestWith_21 rfl 1 rfl ?_
    refine gj_callVI (As := [.int a0]) (st := []) X (c_Le_leastWith l dC dI h cI cL cZ σ3 a0 _ hC) ⟨gj_cwB X tw_355 tw_3 tw_352 hd_Le_leastWith rfl rfl ⟨Nat.le_of_ble_eq_true rfl, Nat.le_of_ble_eq_true rfl⟩, X.2.2.2.2.1 _ tw_353, X.2.2.2.2.1 _ tw_354⟩ 6 rfl rfl hA rfl (Nat.le_of_ble_eq_true rfl) ⟨Nat.zero_le _, Nat.zero_le _⟩ d_Gl_shortestWith_22 rfl (fun r5 σ4 hC => ?_)
    exact gj_iret X hr hlk hC d_Gl_shortestWith_25
  · have hC := hC.2 c0
    refine gj_iconst (v := -1) X d_Gl_shortestWith_11 (by decide) ?_
    exact gj_iret X hr hlk hC d_Gl_shortestWith_12
abbrev rm_Ld_isCircle : Room := { frames := 0, cells := 0, slots := 0, locals := 0 }
set_option maxHeartbeats 4000000 in
set_option maxRecDepth 100000 in
theorem c_Ld_isCircle (l : Launch) (dC : Nat → ClassId) (dI : Nat → Nat → Nat) (h : Nat → Nat) (cI cL cZ : ClassId) (σ : gs_St) (K : Int32 → gs_St → Prop) (hC : C_Ld_isCircle σ K) : gj_MI l y_Ld_isCircle (gj_ws y_Ld_isCircle b_Ld_isCircle 1 (some .boolean)) rm_Ld_isCircle (dC, dI) gs_C (gs_T cI cL cZ) ((wG h cI cL) σ) (wG h cI cL) [.ref (h 9)] (fun r u => K r u ∧ (r = 0 ∨ r = 1)) := by
  refine gj_enterZ (by decide) (Nat.le_of_ble_eq_true rfl) (fun p e s m args below meth c A X hr hlk hA hnm => ?_)
  change gj_J p l e rm_Ld_isCircle s m args below meth c 0 0 (MQ below (va_Qi (fun r u => K r u ∧ (r = 0 ∨ r = 1)) (gj_at (dC, dI) gs_C (gs_T cI cL cZ) (wG h cI cL) A) A) args s 0 0 A) (dC, dI) gs_C A 1 0 [(0, .ref (h 9))] [] ((wG h cI cL) σ)
  refine gj_aload_n X d_Ld_isCircle_0 rfl 0 rfl ?_
  refine gj_get X inX3 9 rfl rfl 4 (by decide) tw_73 rfl rfl d_Ld_isCircle_1 ?_
  refine gj_bipush (v := 8) X d_Ld_isCircle_4 (by decide) ?_
  refine gj_icmp_ge (tgt := 13) X d_Ld_isCircle_6 (by decide) (fun c0 => ?_) (fun c0 => ?_)
  · have hC := hC.1 c0
    refine gj_iconst (v := 0) X d_Ld_isCircle_13 (by decide) ?_
    exact gj_zret X hr hlk (by decide) ⟨hC, Or.inl rfl⟩ d_Ld_isCircle_14
  · have hC := hC.2 c0
    refine gj_iconst (v := 1) X d_Ld_isCircle_9 (by decide) ?_
    refine gj_goto (tgt := 14) X d_Ld_isCircle_10 (by decide) ?_
    exact gj_zret X hr hlk (by decide) ⟨hC, Or.inr rfl⟩ d_Ld_isCircle_14
abbrev rm_Gl_circle : Room := { frames := 5, cells := 0, slots := 0, locals := 115 }
set_option maxHeartbeats 4000000 in
set_option maxRecDepth 100000 in
theorem c_Gl_circle (l : Launch) (dC : Nat → ClassId) (dI : Nat → Nat → Nat) (h : Nat → Nat) (cI cL cZ : ClassId) (σ : gs_St) (K : Int32 → gs_St → Prop) (hC : C_Gl_circle σ K) : gj_MI l y_Gl_circle (gj_ws y_Gl_circle b_Gl_circle 1 (some .boolean)) rm_Gl_circle (dC, dI) gs_C (gs_T cI cL cZ) ((wG h cI cL) σ) (wG h cI cL) [.ref (h 0)] (fun r u => K r u ∧ (r = 0 ∨ r = 1)) := by
  refine gj_enterZ (by decide) (Nat.le_of_ble_eq_true rfl) (fun p e s m args below meth c A X hr hlk hA hnm => ?_)
  change gj_J p l e rm_Gl_circle s m args below meth c 0 0 (MQ below (va_Qi (fun r u => K r u ∧ (r = 0 ∨ r = 1)) (gj_at (dC, dI) gs_C (gs_T cI cL cZ) (wG h cI cL) A) A) args s 0 0 A) (dC, dI) gs_C A 1 0 [(0, .ref (h 0))] [] ((wG h cI cL) σ)
  refine gj_aload_n X d_Gl_circle_0 rfl 0 rfl ?_
  refine gj_callVV (As := []) (st := []) X (c_Gl_study l dC dI h cI cL cZ σ _ hC) ⟨gj_cwB X tw_296 tw_1 tw_293 hd_Gl_study rfl rfl ⟨Nat.le_of_ble_eq_true rfl, Nat.le_of_ble_eq_true rfl⟩, X.2.2.2.2.1 _ tw_295, X.2.2.2.2.1 _ ts_0⟩ 0 rfl rfl hA rfl (Nat.le_of_ble_eq_true rfl) ⟨Nat.zero_le _, Nat.zero_le _⟩ d_Gl_circle_1 rfl (fun σ1 hC => ?_)
  refine gj_aload_n X d_Gl_circle_4 rfl 0 rfl ?_
  refine gj_get X inX8 0 rfl rfl 4 (by decide) tw_212 rfl rfl d_Gl_circle_5 ?_
  refine gj_callVI (As := []) (st := []) X (c_Ld_isCircle l dC dI h cI cL cZ σ1 _ hC) ⟨gj_cwB X tw_363 tw_4 tw_360 hd_Ld_isCircle rfl rfl ⟨Nat.le_of_ble_eq_true rfl, Nat.le_of_ble_eq_true rfl⟩, X.2.2.2.2.1 _ tw_361, X.2.2.2.2.1 _ tw_362⟩ 9 rfl rfl hA rfl (Nat.le_of_ble_eq_true rfl) ⟨Nat.zero_le _, Nat.zero_le _⟩ d_Gl_circle_8 rfl (fun r3 σ2 hC => ?_)
  obtain ⟨hC, hb⟩ := hC
  exact gj_zret X hr hlk (gj_nz hb) ⟨hC, hb⟩ d_Gl_circle_11
abbrev rm_Gl_isCounted : Room := { frames := 5, cells := 0, slots := 0, locals := 115 }
set_option maxHeartbeats 4000000 in
set_option maxRecDepth 100000 in
theorem c_Gl_isCounted (l : Launch) (dC : Nat → ClassId) (dI : Nat → Nat → Nat) (h : Nat → Nat) (cI cL cZ : ClassId) (σ : gs_St) (a0 : Int32) (K : Int32 → gs_St → Prop) (hC : C_Gl_isCounted a0 σ K) : gj_MI l y_Gl_isCounted (gj_ws y_Gl_isCounted b_Gl_isCounted 2 (some .boolean)) rm_Gl_isCounted (dC, dI) gs_C (gs_T cI cL cZ) ((wG h cI cL) σ) (wG h cI cL) [.ref (h 0), .int a0] (fun r u => K r u ∧ (r = 0 ∨ r = 1)) := by
  refine gj_enterZ (by decide) (Nat.le_of_ble_eq_true rfl) (fun p e s m args below meth c A X hr hlk hA hnm => ?_)
  change gj_J p l e rm_Gl_isCounted s m args below meth c 0 0 (MQ below (va_Qi (fun r u => K r u ∧ (r = 0 ∨ r = 1)) (gj_at (dC, dI) gs_C (gs_T cI cL cZ) (wG h cI cL) A) A) args s 0 0 A) (dC, dI) gs_C A 2 0 [(0, .ref (h 0)), (1, .int a0)] [] ((wG h cI cL) σ)
  refine gj_aload_n X d_Gl_isCounted_0 rfl 0 rfl ?_
  refine gj_callVV (As := []) (st := []) X (c_Gl_study l dC dI h cI cL cZ σ _ hC) ⟨gj_cwB X tw_296 tw_1 tw_293 hd_Gl_study rfl rfl ⟨Nat.le_of_ble_eq_true rfl, Nat.le_of_ble_eq_true rfl⟩, X.2.2.2.2.1 _ tw_295, X.2.2.2.2.1 _ ts_0⟩ 0 rfl rfl hA rfl (Nat.le_of_ble_eq_true rfl) ⟨Nat.zero_le _, Nat.zero_le _⟩ d_Gl_isCounted_1 rfl (fun σ1 hC => ?_)
  refine gj_iload_n X d_Gl_isCounted_4 rfl 1 rfl ?_
  refine gj_if_lt (tgt := 28) X d_Gl_isCounted_5 (by decide) (fun c0 => ?_) (fun c0 => ?_)
  · have hC := hC.1 c0
    refine gj_iconst (v := 0) X d_Gl_isCounted_28 (by decide) ?_
    exact gj_zret X hr hlk (by decide) ⟨hC, Or.inl rfl⟩ d_Gl_isCounted_29
  · have hC := hC.2 c0
    refine gj_iload_n X d_Gl_isCounted_8 rfl 1 rfl ?_
    refine gj_bipush (v := 16) X d_Gl_isCounted_9 (by decide) ?_
    refine gj_icmp_gt (tgt := 28) X d_Gl_isCounted_11 (by decide) (fun c0 => ?_) (fun c0 => ?_)
    · have hC := hC.1 c0
      refine gj_iconst (v := 0) X d_Gl_isCounted_28 (by decide) ?_
      exact gj_zret X hr hlk (by decide) ⟨hC, Or.inl rfl⟩ d_Gl_isCounted_29
    · have hC := hC.2 c0
      refine gj_aload_n X d_Gl_isCounted_14 rfl 0 rfl ?_
      refine gj_get X inX8 0 rfl rfl 4 (by decide) tw_212 rfl rfl d_Gl_isCounted_15 ?_
      refine gj_callVI (As := []) (st := []) X (c_Ld_isCircle l dC dI h cI cL cZ σ1 _ hC) ⟨gj_cwB X tw_363 tw_4 tw_360 hd_Ld_isCircle rfl rfl ⟨Nat.le_of_ble_eq_true rfl, Nat.le_of_ble_eq_true rfl⟩, X.2.2.2.2.1 _ tw_361, X.2.2.2.2.1 _ tw_362⟩ 9 rfl rfl hA rfl (Nat.le_of_ble_eq_true rfl) ⟨Nat.zero_le _, Nat.zero_le _⟩ d_Gl_isCounted_18 rfl (fun r3 σ2 hC => ?_)
      obtain ⟨hC, hb⟩ := hC
      refine gj_if_ne (tgt := 28) X d_Gl_isCounted_21 (by decide) (fun c0 => ?_) (fun c0 => ?_)
      · have hC := hC.1 c0
        refine gj_iconst (v := 0) X d_Gl_isCounted_28 (by decide) ?_
        exact gj_zret X hr hlk (by decide) ⟨hC, Or.inl rfl⟩ d_Gl_isCounted_29
      · have hC := hC.2 c0
        refine gj_iconst (v := 1) X d_Gl_isCounted_24 (by decide) ?_
        refine gj_goto (tgt := 29) X d_Gl_isCounted_25 (by decide) ?_
        exact gj_zret X hr hlk (by decide) ⟨hC, Or.inr rfl⟩ d_Gl_isCounted_29
abbrev rm_Ld_inOrder : Room := { frames := 0, cells := 0, slots := 0, locals := 0 }
set_option maxHeartbeats 4000000 in
set_option maxRecDepth 100000 in
theorem c_Ld_inOrder (l : Launch) (dC : Nat → ClassId) (dI : Nat → Nat → Nat) (h : Nat → Nat) (cI cL cZ : ClassId) (σ : gs_St) (a0 : Int32) (K : Int32 → gs_St → Prop) (hC : C_Ld_inOrder a0 σ K) : gj_MI l y_Ld_inOrder (gj_ws y_Ld_inOrder b_Ld_inOrder 2 (some .int)) rm_Ld_inOrder (dC, dI) gs_C (gs_T cI cL cZ) ((wG h cI cL) σ) (wG h cI cL) [.ref (h 9), .int a0] K := by
  refine gj_enterI (by decide) (Nat.le_of_ble_eq_true rfl) (fun p e s m args below meth c A X hr hlk hA hnm => ?_)
  change gj_J p l e rm_Ld_inOrder s m args below meth c 0 0 (MQ below (va_Qi K (gj_at (dC, dI) gs_C (gs_T cI cL cZ) (wG h cI cL) A) A) args s 0 0 A) (dC, dI) gs_C A 2 0 [(0, .ref (h 9)), (1, .int a0)] [] ((wG h cI cL) σ)
  refine gj_aload_n X d_Ld_inOrder_0 rfl 0 rfl ?_
  refine gj_get X inX3 9 rfl rfl 3 (by decide) tw_72 rfl rfl d_Ld_inOrder_1 ?_
  refine gj_iload_n X d_Ld_inOrder_4 rfl 1 rfl ?_
  refine gj_iald X 11 0 rfl rfl hC.1 d_Ld_inOrder_5 ?_
  have hC := hC.2
  exact gj_iret X hr hlk hC d_Ld_inOrder_6
abbrev rm_Co_endingsAt : Room := { frames := 0, cells := 0, slots := 0, locals := 0 }
set_option maxHeartbeats 4000000 in
set_option maxRecDepth 100000 in
theorem c_Co_endingsAt (l : Launch) (dC : Nat → ClassId) (dI : Nat → Nat → Nat) (h : Nat → Nat) (cI cL cZ : ClassId) (σ : gs_St) (a0 : Int32) (a1 : Int32) (K : Int32 → gs_St → Prop) (hC : C_Co_endingsAt a0 a1 σ K) : gj_MI l y_Co_endingsAt (gj_ws y_Co_endingsAt b_Co_endingsAt 2 (some .int)) rm_Co_endingsAt (dC, dI) gs_C (gs_T cI cL cZ) ((wG h cI cL) σ) (wG h cI cL) [.int a0, .int a1] K := by
  refine gj_enterI (by decide) (Nat.le_of_ble_eq_true rfl) (fun p e s m args below meth c A X hr hlk hA hnm => ?_)
  change gj_J p l e rm_Co_endingsAt s m args below meth c 0 0 (MQ below (va_Qi K (gj_at (dC, dI) gs_C (gs_T cI cL cZ) (wG h cI cL) A) A) args s 0 0 A) (dC, dI) gs_C A 2 0 [(0, .int a0), (1, .int a1)] [] ((wG h cI cL) σ)
  refine gj_iload_n X d_Co_endingsAt_0 rfl 0 rfl ?_
  refine gj_bipush (v := 7) X d_Co_endingsAt_1 (by decide) ?_
  refine gj_imul X d_Co_endingsAt_3 ?_
  refine gj_iload_n X d_Co_endingsAt_4 rfl 1 rfl ?_
  refine gj_iadd X d_Co_endingsAt_5 ?_
  refine gj_bipush (v := 17) X d_Co_endingsAt_6 (by decide) ?_
  refine gj_imul X d_Co_endingsAt_8 ?_
  exact gj_iret X hr hlk hC d_Co_endingsAt_9
abbrev rm_Co_times : Room := { frames := 0, cells := 0, slots := 0, locals := 0 }
set_option maxHeartbeats 4000000 in
set_option maxRecDepth 100000 in
theorem c_Co_times (l : Launch) (dC : Nat → ClassId) (dI : Nat → Nat → Nat) (h : Nat → Nat) (cI cL cZ : ClassId) (σ : gs_St) (a0 : Int64) (a1 : Int64) (K : Int64 → gs_St → Prop) (hC : C_Co_times a0 a1 σ K) : gj_ML l y_Co_times (gj_ws y_Co_times b_Co_times 4 (some .long)) rm_Co_times (dC, dI) gs_C (gs_T cI cL cZ) ((wG h cI cL) σ) (wG h cI cL) [.long a0, .long a1] K := by
  refine gj_enterL (by decide) (Nat.le_of_ble_eq_true rfl) (fun p e s m args below meth c A X hr hlk hA hnm => ?_)
  change gj_J p l e rm_Co_times s m args below meth c 0 0 (MQ below (va_Ql K (gj_at (dC, dI) gs_C (gs_T cI cL cZ) (wG h cI cL) A) A) args s 0 0 A) (dC, dI) gs_C A 4 0 [(0, .long a0), (2, .long a1)] [] ((wG h cI cL) σ)
  refine gj_lload_n X d_Co_times_0 rfl 1 rfl ?_
  refine gj_lconst (v := 0) X d_Co_times_1 (by decide) ?_
  refine gj_lcmp_ne (tgt := 8) X d_Co_times_2 d_Co_times_3 (by decide) (fun c0 => ?_) (fun c0 => ?_)
  · have hC := hC.1 c0
    refine gj_lload_n X d_Co_times_8 rfl 0 rfl ?_
    refine gj_ldc2 (v := 1000000000000000000) X tw_403 d_Co_times_9 ?_
    refine gj_lload_n X d_Co_times_12 rfl 1 rfl ?_
    refine gj_ldiv X d_Co_times_13 hC.1 ?_
    have hC := hC.2
    refine gj_lcmp_le (tgt := 24) X d_Co_times_14 d_Co_times_15 (by decide) (fun c0 => ?_) (fun c0 => ?_)
    · have hC := hC.1 c0
      refine gj_lload_n X d_Co_times_24 rfl 0 rfl ?_
      refine gj_lload_n X d_Co_times_25 rfl 1 rfl ?_
      refine gj_lmul X d_Co_times_26 ?_
      exact gj_lret X hr hlk hC d_Co_times_27
    · have hC := hC.2 c0
      refine gj_ldc2 (v := 1000000000000000001) X tw_404 d_Co_times_18 ?_
      refine gj_goto (tgt := 27) X d_Co_times_21 (by decide) ?_
      exact gj_lret X hr hlk hC d_Co_times_27
  · have hC := hC.2 c0
    refine gj_lconst (v := 0) X d_Co_times_6 (by decide) ?_
    exact gj_lret X hr hlk hC d_Co_times_7
abbrev rm_Co_plus : Room := { frames := 1, cells := 0, slots := 0, locals := 15 }
set_option maxHeartbeats 4000000 in
set_option maxRecDepth 100000 in
theorem c_Co_plus (l : Launch) (dC : Nat → ClassId) (dI : Nat → Nat → Nat) (h : Nat → Nat) (cI cL cZ : ClassId) (σ : gs_St) (a0 : Int64) (a1 : Int64) (K : Int64 → gs_St → Prop) (hC : C_Co_plus a0 a1 σ K) : gj_ML l y_Co_plus (gj_ws y_Co_plus b_Co_plus 4 (some .long)) rm_Co_plus (dC, dI) gs_C (gs_T cI cL cZ) ((wG h cI cL) σ) (wG h cI cL) [.long a0, .long a1] K := by
  refine gj_enterL (by decide) (Nat.le_of_ble_eq_true rfl) (fun p e s m args below meth c A X hr hlk hA hnm => ?_)
  change gj_J p l e rm_Co_plus s m args below meth c 0 0 (MQ below (va_Ql K (gj_at (dC, dI) gs_C (gs_T cI cL cZ) (wG h cI cL) A) A) args s 0 0 A) (dC, dI) gs_C A 4 0 [(0, .long a0), (2, .long a1)] [] ((wG h cI cL) σ)
  refine gj_lload_n X d_Co_plus_0 rfl 0 rfl ?_
  refine gj_lload_n X d_Co_plus_1 rfl 1 rfl ?_
  refine gj_ladd X d_Co_plus_2 ?_
  refine gj_ldc2 (v := 1000000000000000001) X tw_404 d_Co_plus_3 ?_
  refine gj_mminl X tw_408 tw_409 tw_13 tw_410 (Nat.le_of_ble_eq_true rfl) (Nat.le_of_ble_eq_true rfl) (Nat.zero_le _) (Nat.zero_le _) d_Co_plus_6 ?_
  exact gj_lret X hr hlk hC d_Co_plus_9
abbrev rm_Co_pairs : Room := { frames := 2, cells := 0, slots := 0, locals := 38 }
set_option maxHeartbeats 4000000 in
set_option maxRecDepth 100000 in
theorem c_Co_pairs (l : Launch) (dC : Nat → ClassId) (dI : Nat → Nat → Nat) (h : Nat → Nat) (cI cL cZ : ClassId) (σ : gs_St) (a0 : Int32) (a1 : Int32) (a2 : Int32) (K : Int64 → gs_St → Prop) (hC : C_Co_pairs a0 a1 a2 σ K) : gj_ML l y_Co_pairs (gj_ws y_Co_pairs b_Co_pairs 9 (some .long)) rm_Co_pairs (dC, dI) gs_C (gs_T cI cL cZ) ((wG h cI cL) σ) (wG h cI cL) [.ref (h 12), .int a0, .int a1, .int a2] K := by
  refine gj_enterL (by decide) (Nat.le_of_ble_eq_true rfl) (fun p e s m args below meth c A X hr hlk hA hnm => ?_)
  change gj_J p l e rm_Co_pairs s m args below meth c 0 0 (MQ below (va_Ql K (gj_at (dC, dI) gs_C (gs_T cI cL cZ) (wG h cI cL) A) A) args s 0 0 A) (dC, dI) gs_C A 9 0 [(0, .ref (h 12)), (1, .int a0), (2, .int a1), (3, .int a2)] [] ((wG h cI cL) σ)
  have hC := hC
    (fun (v_1 : Int32) (v_2 : Int32) (v_3 : Int32) (v_4 : Int64) (v_6 : Int32) (σ : gs_St) => gj_J p l e rm_Co_pairs s m args below meth c 0 0 (MQ below (va_Ql K (gj_at (dC, dI) gs_C (gs_T cI cL cZ) (wG h cI cL) A) A) args s 0 0 A) (dC, dI) gs_C A 9 6 [(0, .ref (h 12)), (1, .int v_1), (2, .int v_2), (3, .int v_3), (4, .long v_4), (6, .int v_6)] [] ((wG h cI cL) σ))
    (by
      intro v_1 v_2 v_3 v_4 v_6 σ hC
      refine gj_iload X d_Co_pairs_6 5 rfl ?_
      refine gj_iload_n X d_Co_pairs_8 rfl 3 rfl ?_
      refine gj_icmp_gt (tgt := 57) X d_Co_pairs_9 (by decide) (fun c0 => ?_) (fun c0 => ?_)
      · have hC := hC.1 c0
        refine gj_lload X d_Co_pairs_57 4 rfl ?_
        exact gj_lret X hr hlk hC d_Co_pairs_59
      · have hC := hC.2 c0
        refine gj_aload_n X d_Co_pairs_12 rfl 0 rfl ?_
        refine gj_get X inX0 12 rfl rfl 2 (by decide) tw_93 rfl rfl d_Co_pairs_13 ?_
        refine gj_iload_n X d_Co_pairs_16 rfl 1 rfl ?_
        refine gj_iload X d_Co_pairs_17 5 rfl ?_
        refine gj_iadd X d_Co_pairs_19 ?_
        refine gj_lald X 13 1 rfl rfl hC.1 d_Co_pairs_20 ?_
        have hC := hC.2
        refine gj_topl (fun v1 ev1 => ?_)
        have hC := hC v1 ev1
        refine gj_lstore (L' := [(7, .long v1), (0, .ref (h 12)), (1, .int v_1), (2, .int v_2), (3, .int v_3), (4, .long v_4), (6, .int v_6)]) X d_Co_pairs_21 (by decide) rfl ?_
        refine gj_lload X d_Co_pairs_23 0 rfl ?_
        refine gj_lconst (v := 0) X d_Co_pairs_25 (by decide) ?_
        refine gj_lcmp_eq (tgt := 51) X d_Co_pairs_26 d_Co_pairs_27 (by decide) (fun c0 => ?_) (fun c0 => ?_)
        · have hC := hC.1 c0
          obtain ⟨v2, ev2⟩ : ∃ y : Int32, y = v_6 + 1 := ⟨_, rfl⟩
          have hC := hC v2 ev2
          refine gj_iinc (v := v2) (L' := [(6, .int v2), (7, .long v1), (0, .ref (h 12)), (1, .int v_1), (2, .int v_2), (3, .int v_3), (4, .long v_4)]) X d_Co_pairs_51 6 rfl (by rw [ev2]; rfl) (by decide) rfl ?_
          refine gj_goto (tgt := 6) X d_Co_pairs_54 (by decide) ?_
          exact gj_loc [2, 3, 4, 5, 6, 0] rfl hC
        · have hC := hC.2 c0
          refine gj_lload X d_Co_pairs_30 5 rfl ?_
          refine gj_lload X d_Co_pairs_32 0 rfl ?_
          refine gj_aload_n X d_Co_pairs_34 rfl 1 rfl ?_
          refine gj_get X inX0 12 rfl rfl 3 (by decide) tw_94 rfl rfl d_Co_pairs_35 ?_
          refine gj_iload_n X d_Co_pairs_38 rfl 3 rfl ?_
          refine gj_iload X d_Co_pairs_39 6 rfl ?_
          refine gj_isub X d_Co_pairs_41 ?_
          refine gj_lald X 14 1 rfl rfl hC.1 d_Co_pairs_42 ?_
          have hC := hC.2
          refine gj_callSL (As := [.long v1, .long (σ.2.2 1 (v_2 - v_6).toNatClampNeg)]) (st := [.long v_4]) X (c_Co_times l dC dI h cI cL cZ σ v1 (σ.2.2 1 (v_2 - v_6).toNatClampNeg) _ hC) ⟨gj_cwB X tw_402 tw_5 tw_400 hd_Co_times rfl rfl ⟨Nat.le_of_ble_eq_true rfl, Nat.le_of_ble_eq_true rfl⟩, X.2.2.2.2.1 _ tw_401⟩ hA rfl (Nat.le_of_ble_eq_true rfl) ⟨Nat.zero_le _, Nat.zero_le _⟩ d_Co_pairs_43 rfl (fun r4 σ3 hC => ?_)
          refine gj_callSL (As := [.long v_4, .long r4]) (st := []) X (c_Co_plus l dC dI h cI cL cZ σ3 v_4 r4 _ hC) ⟨gj_cwB X tw_407 tw_5 tw_405 hd_Co_plus rfl rfl ⟨Nat.le_of_ble_eq_true rfl, Nat.le_of_ble_eq_true rfl⟩, X.2.2.2.2.1 _ tw_406⟩ hA rfl (Nat.le_of_ble_eq_true rfl) ⟨Nat.zero_le _, Nat.zero_le _⟩ d_Co_pairs_46 rfl (fun r6 σ5 hC => ?_)
          refine gj_lstore (L' := [(4, .long r6), (7, .long v1), (0, .ref (h 12)), (1, .int v_1), (2, .int v_2), (3, .int v_3), (6, .int v_6)]) X d_Co_pairs_49 (by decide) rfl ?_
          obtain ⟨v7, ev7⟩ : ∃ y : Int32, y = v_6 + 1 := ⟨_, rfl⟩
          have hC := hC v7 ev7
          refine gj_iinc (v := v7) (L' := [(6, .int v7), (4, .long r6), (7, .long v1), (0, .ref (h 12)), (1, .int v_1), (2, .int v_2), (3, .int v_3)]) X d_Co_pairs_51 6 rfl (by rw [ev7]; rfl) (by decide) rfl ?_
          refine gj_goto (tgt := 6) X d_Co_pairs_54 (by decide) ?_
          exact gj_loc [3, 4, 5, 6, 1, 0] rfl hC)
  refine gj_lconst (v := 0) X d_Co_pairs_0 (by decide) ?_
  refine gj_lstore (L' := [(4, .long (0 : Int64)), (0, .ref (h 12)), (1, .int a0), (2, .int a1), (3, .int a2)]) X d_Co_pairs_1 (by decide) rfl ?_
  refine gj_iconst (v := 0) X d_Co_pairs_3 (by decide) ?_
  refine gj_istore (L' := [(6, .int (0 : Int32)), (4, .long (0 : Int64)), (0, .ref (h 12)), (1, .int a0), (2, .int a1), (3, .int a2)]) X d_Co_pairs_4 (by decide) rfl ?_
  exact gj_loc [2, 3, 4, 5, 1, 0] rfl hC
