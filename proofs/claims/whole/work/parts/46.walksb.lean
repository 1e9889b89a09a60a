abbrev rm_Le_lower_7 : Room := { frames := 0, cells := 0, slots := 0, locals := 0 }
set_option maxHeartbeats 4000000 in
set_option maxRecDepth 100000 in
theorem c_Le_lower_7 (l : Launch) (dC : Nat → ClassId) (dI : Nat → Nat → Nat) (h : Nat → Nat) (cI cL cZ : ClassId) (σ : gs_St) (a1 : Int32) (a2 : Int32) (K : gs_St → Prop) (hC : C_Le_lower_7 a1 a2 σ K) : gj_MV 0 0 l y_Le_lower (gj_ws y_Le_lower b_Le_lower 4 (none)) rm_Le_lower_7 (dC, dI) gs_C (gs_T cI cL cZ) ((wG h cI cL) σ) (wG h cI cL) [.ref (h 7), .int a1, .int a2] K := by
  refine gj_enterV (by decide) (Nat.le_of_ble_eq_true rfl) (fun p e s m args below meth c A X hr hlk hA hnm => ?_)
  change gj_J p l e rm_Le_lower_7 s m args below meth c 0 0 (MQ below (va_Qv K (gj_at (dC, dI) gs_C (gs_T cI cL cZ) (wG h cI cL) A) A) args s 0 0 A) (dC, dI) gs_C A 4 0 [(0, .ref (h 7)), (1, .int a1), (2, .int a2)] [] ((wG h cI cL) σ)
  refine gj_aload_n X d_Le_lower_0 rfl 0 rfl ?_
  refine gj_iload_n X d_Le_lower_1 rfl 1 rfl ?_
  refine gj_iald X 7 0 rfl rfl hC.1 d_Le_lower_2 ?_
  have hC := hC.2
  refine gj_topi (fun v1 ev1 => ?_)
  have hC := hC v1 ev1
  refine gj_istore_n (L' := [(3, .int v1), (0, .ref (h 7)), (1, .int a1), (2, .int a2)]) X d_Le_lower_3 rfl (by decide) rfl ?_
  refine gj_iload_n X d_Le_lower_4 rfl 3 rfl ?_
  refine gj_iconst (v := -1) X d_Le_lower_5 (by decide) ?_
  refine gj_icmp_eq (tgt := 23) X d_Le_lower_6 (by decide) (fun c0 => ?_) (fun c0 => ?_)
  · have hC := hC.1 c0
    exact gj_vret X hr hlk hC d_Le_lower_23
  · have hC := hC.2 c0
    refine gj_iload_n X d_Le_lower_9 rfl 0 rfl ?_
    refine gj_iconst (v := -1) X d_Le_lower_10 (by decide) ?_
    refine gj_icmp_eq (tgt := 19) X d_Le_lower_11 (by decide) (fun c0 => ?_) (fun c0 => ?_)
    · have hC := hC.1 c0
      refine gj_aload_n X d_Le_lower_19 rfl 1 rfl ?_
      refine gj_iload_n X d_Le_lower_20 rfl 2 rfl ?_
      refine gj_iload_n X d_Le_lower_21 rfl 3 rfl ?_
      refine gj_iast (w' := (wG h cI cL) (gs_A σ 4 (upd (σ.2.1 4) a1.toNatClampNeg a2))) X 7 0 rfl rfl hC.1 (set_wG_A4 h cI cL σ _) d_Le_lower_22 ?_
      refine gj_topw (wof := (wG h cI cL)) (fun σ2 eσ2 => ?_)
      have hC := hC.2 σ2 eσ2
      exact gj_vret X hr hlk hC d_Le_lower_23
    · have hC := hC.2 c0
      refine gj_iload_n X d_Le_lower_14 rfl 3 rfl ?_
      refine gj_iload_n X d_Le_lower_15 rfl 0 rfl ?_
      refine gj_icmp_ge (tgt := 23) X d_Le_lower_16 (by decide) (fun c0 => ?_) (fun c0 => ?_)
      · have hC := hC.1 c0
        exact gj_vret X hr hlk hC d_Le_lower_23
      · have hC := hC.2 c0
        refine gj_aload_n X d_Le_lower_19 rfl 1 rfl ?_
        refine gj_iload_n X d_Le_lower_20 rfl 2 rfl ?_
        refine gj_iload_n X d_Le_lower_21 rfl 3 rfl ?_
        refine gj_iast (w' := (wG h cI cL) (gs_A σ 4 (upd (σ.2.1 4) a1.toNatClampNeg a2))) X 7 0 rfl rfl hC.1 (set_wG_A4 h cI cL σ _) d_Le_lower_22 ?_
        refine gj_topw (wof := (wG h cI cL)) (fun σ3 eσ3 => ?_)
        have hC := hC.2 σ3 eσ3
        exact gj_vret X hr hlk hC d_Le_lower_23
abbrev rm_Le_lower_8 : Room := { frames := 0, cells := 0, slots := 0, locals := 0 }
set_option maxHeartbeats 4000000 in
set_option maxRecDepth 100000 in
theorem c_Le_lower_8 (l : Launch) (dC : Nat → ClassId) (dI : Nat → Nat → Nat) (h : Nat → Nat) (cI cL cZ : ClassId) (σ : gs_St) (a1 : Int32) (a2 : Int32) (K : gs_St → Prop) (hC : C_Le_lower_8 a1 a2 σ K) : gj_MV 0 0 l y_Le_lower (gj_ws y_Le_lower b_Le_lower 4 (none)) rm_Le_lower_8 (dC, dI) gs_C (gs_T cI cL cZ) ((wG h cI cL) σ) (wG h cI cL) [.ref (h 8), .int a1, .int a2] K := by
  refine gj_enterV (by decide) (Nat.le_of_ble_eq_true rfl) (fun p e s m args below meth c A X hr hlk hA hnm => ?_)
  change gj_J p l e rm_Le_lower_8 s m args below meth c 0 0 (MQ below (va_Qv K (gj_at (dC, dI) gs_C (gs_T cI cL cZ) (wG h cI cL) A) A) args s 0 0 A) (dC, dI) gs_C A 4 0 [(0, .ref (h 8)), (1, .int a1), (2, .int a2)] [] ((wG h cI cL) σ)
  refine gj_aload_n X d_Le_lower_0 rfl 0 rfl ?_
  refine gj_iload_n X d_Le_lower_1 rfl 1 rfl ?_
  refine gj_iald X 8 0 rfl rfl hC.1 d_Le_lower_2 ?_
  have hC := hC.2
  refine gj_topi (fun v1 ev1 => ?_)
  have hC := hC v1 ev1
  refine gj_istore_n (L' := [(3, .int v1), (0, .ref (h 8)), (1, .int a1), (2, .int a2)]) X d_Le_lower_3 rfl (by decide) rfl ?_
  refine gj_iload_n X d_Le_lower_4 rfl 3 rfl ?_
  refine gj_iconst (v := -1) X d_Le_lower_5 (by decide) ?_
  refine gj_icmp_eq (tgt := 23) X d_Le_lower_6 (by decide) (fun c0 => ?_) (fun c0 => ?_)
  · have hC := hC.1 c0
    exact gj_vret X hr hlk hC d_Le_lower_23
  · have hC := hC.2 c0
    refine gj_iload_n X d_Le_lower_9 rfl 0 rfl ?_
    refine gj_iconst (v := -1) X d_Le_lower_10 (by decide) ?_
    refine gj_icmp_eq (tgt := 19) X d_Le_lower_11 (by decide) (fun c0 => ?_) (fun c0 => ?_)
    · have hC := hC.1 c0
      refine gj_aload_n X d_Le_lower_19 rfl 1 rfl ?_
      refine gj_iload_n X d_Le_lower_20 rfl 2 rfl ?_
      refine gj_iload_n X d_Le_lower_21 rfl 3 rfl ?_
      refine gj_iast (w' := (wG h cI cL) (gs_A σ 5 (upd (σ.2.1 5) a1.toNatClampNeg a2))) X 8 0 rfl rfl hC.1 (set_wG_A5 h cI cL σ _) d_Le_lower_22 ?_
      refine gj_topw (wof := (wG h cI cL)) (fun σ2 eσ2 => ?_)
      have hC := hC.2 σ2 eσ2
      exact gj_vret X hr hlk hC d_Le_lower_23
    · have hC := hC.2 c0
      refine gj_iload_n X d_Le_lower_14 rfl 3 rfl ?_
      refine gj_iload_n X d_Le_lower_15 rfl 0 rfl ?_
      refine gj_icmp_ge (tgt := 23) X d_Le_lower_16 (by decide) (fun c0 => ?_) (fun c0 => ?_)
      · have hC := hC.1 c0
        exact gj_vret X hr hlk hC d_Le_lower_23
      · have hC := hC.2 c0
        refine gj_aload_n X d_Le_lower_19 rfl 1 rfl ?_
        refine gj_iload_n X d_Le_lower_20 rfl 2 rfl ?_
        refine gj_iload_n X d_Le_lower_21 rfl 3 rfl ?_
        refine gj_iast (w' := (wG h cI cL) (gs_A σ 5 (upd (σ.2.1 5) a1.toNatClampNeg a2))) X 8 0 rfl rfl hC.1 (set_wG_A5 h cI cL σ _) d_Le_lower_22 ?_
        refine gj_topw (wof := (wG h cI cL)) (fun σ3 eσ3 => ?_)
        have hC := hC.2 σ3 eσ3
        exact gj_vret X hr hlk hC d_Le_lower_23
abbrev rm_Le_lowerAround : Room := { frames := 2, cells := 0, slots := 0, locals := 48 }
set_option maxHeartbeats 4000000 in
set_option maxRecDepth 100000 in
theorem c_Le_lowerAround (l : Launch) (dC : Nat → ClassId) (dI : Nat → Nat → Nat) (h : Nat → Nat) (cI cL cZ : ClassId) (σ : gs_St) (a0 : Int32) (K : gs_St → Prop) (hC : C_Le_lowerAround a0 σ K) : gj_MV 0 0 l y_Le_lowerAround (gj_ws y_Le_lowerAround b_Le_lowerAround 6 (none)) rm_Le_lowerAround (dC, dI) gs_C (gs_T cI cL cZ) ((wG h cI cL) σ) (wG h cI cL) [.ref (h 6), .int a0] K := by
  refine gj_enterV (by decide) (Nat.le_of_ble_eq_true rfl) (fun p e s m args below meth c A X hr hlk hA hnm => ?_)
  change gj_J p l e rm_Le_lowerAround s m args below meth c 0 0 (MQ below (va_Qv K (gj_at (dC, dI) gs_C (gs_T cI cL cZ) (wG h cI cL) A) A) args s 0 0 A) (dC, dI) gs_C A 6 0 [(0, .ref (h 6)), (1, .int a0)] [] ((wG h cI cL) σ)
  have hC := hC
    (fun (v_1 : Int32) (v_2 : Int32) (v_3 : Int32) (σ : gs_St) => gj_J p l e rm_Le_lowerAround s m args below meth c 0 0 (MQ below (va_Qv K (gj_at (dC, dI) gs_C (gs_T cI cL cZ) (wG h cI cL) A) A) args s 0 0 A) (dC, dI) gs_C A 6 22 [(0, .ref (h 6)), (1, .int v_1), (2, .int v_2), (3, .int v_3)] [] ((wG h cI cL) σ))
    (by
      intro v_1 v_2 v_3 σ hC
      refine gj_iload_n X d_Le_lowerAround_22 rfl 3 rfl ?_
      refine gj_aload_n X d_Le_lowerAround_23 rfl 0 rfl ?_
      refine gj_get X inX4 6 rfl rfl 0 (by decide) tw_53 rfl rfl d_Le_lowerAround_24 ?_
      refine gj_iload_n X d_Le_lowerAround_27 rfl 1 rfl ?_
      refine gj_callVI (As := [.int v_1]) (st := [.int v_3]) X (c_Gr_sizeOf l dC dI h cI cL cZ σ v_1 _ hC) ⟨gj_cwB X tw_280 tw_2 tw_309 hd_Gr_sizeOf rfl rfl ⟨Nat.le_of_ble_eq_true rfl, Nat.le_of_ble_eq_true rfl⟩, X.2.2.2.2.1 _ tw_278, X.2.2.2.2.1 _ tw_279⟩ 2 rfl rfl hA rfl (Nat.le_of_ble_eq_true rfl) ⟨Nat.zero_le _, Nat.zero_le _⟩ d_Le_lowerAround_28 rfl (fun r5 σ4 hC => ?_)
      refine gj_icmp_ge (tgt := 86) X d_Le_lowerAround_31 (by decide) (fun c0 => ?_) (fun c0 => ?_)
      · have hC := hC.1 c0
        exact gj_vret X hr hlk hC d_Le_lowerAround_86
      · have hC := hC.2 c0
        refine gj_aload_n X d_Le_lowerAround_34 rfl 0 rfl ?_
        refine gj_get X inX4 6 rfl rfl 0 (by decide) tw_53 rfl rfl d_Le_lowerAround_35 ?_
        refine gj_iload_n X d_Le_lowerAround_38 rfl 1 rfl ?_
        refine gj_iload_n X d_Le_lowerAround_39 rfl 3 rfl ?_
        refine gj_callVI (As := [.int v_1, .int v_3]) (st := []) X (c_Gr_symbolAt l dC dI h cI cL cZ σ4 v_1 v_3 _ hC) ⟨gj_cwB X tw_288 tw_2 tw_310 hd_Gr_symbolAt rfl rfl ⟨Nat.le_of_ble_eq_true rfl, Nat.le_of_ble_eq_true rfl⟩, X.2.2.2.2.1 _ tw_286, X.2.2.2.2.1 _ tw_287⟩ 2 rfl rfl hA rfl (Nat.le_of_ble_eq_true rfl) ⟨Nat.zero_le _, Nat.zero_le _⟩ d_Le_lowerAround_40 rfl (fun r7 σ6 hC => ?_)
        refine gj_istore (L' := [(4, .int r7), (0, .ref (h 6)), (1, .int v_1), (2, .int v_2), (3, .int v_3)]) X d_Le_lowerAround_43 (by decide) rfl ?_
        refine gj_aload_n X d_Le_lowerAround_45 rfl 1 rfl ?_
        refine gj_iload_n X d_Le_lowerAround_46 rfl 2 rfl ?_
        refine gj_iload_n X d_Le_lowerAround_47 rfl 4 rfl ?_
        refine gj_callVI (As := [.int v_1, .int v_3]) (st := []) X (c_Le_leastBut l dC dI h cI cL cZ σ6 v_1 v_3 _ hC) ⟨gj_cwB X tw_308 tw_3 tw_305 hd_Le_leastBut rfl rfl ⟨Nat.le_of_ble_eq_true rfl, Nat.le_of_ble_eq_true rfl⟩, X.2.2.2.2.1 _ tw_307, X.2.2.2.2.1 _ ts_1⟩ 6 rfl rfl hA rfl (Nat.le_of_ble_eq_true rfl) ⟨Nat.zero_le _, Nat.zero_le _⟩ d_Le_lowerAround_48 rfl (fun r9 σ8 hC => ?_)
        refine gj_istore (L' := [(5, .int r9), (4, .int r7), (0, .ref (h 6)), (1, .int v_1), (2, .int v_2), (3, .int v_3)]) X d_Le_lowerAround_51 (by decide) rfl ?_
        refine gj_iload X d_Le_lowerAround_53 1 rfl ?_
        refine gj_callSNI (As := [.int r7]) (st := []) X (c_Gl_isNonterminal l dC dI h cI cL cZ σ8 r7 _ hC) ⟨gj_cwN X tw_249 tw_1 tn_311 hd_Gl_isNonterminal rfl rfl ⟨Nat.le_of_ble_eq_true rfl, Nat.le_of_ble_eq_true rfl⟩, X.2.2.2.2.1 _ tw_248, trivial⟩ hA rfl (Nat.le_of_ble_eq_true rfl) ⟨Nat.zero_le _, Nat.zero_le _⟩ d_Le_lowerAround_55 rfl (fun r11 σ10 hC => ?_)
        obtain ⟨hC, hb⟩ := hC
        refine gj_if_eq (tgt := 80) X d_Le_lowerAround_58 (by decide) (fun c0 => ?_) (fun c0 => ?_)
        · have hC := hC.1 c0
          obtain ⟨v12, ev12⟩ : ∃ y : Int32, y = v_3 + 1 := ⟨_, rfl⟩
          have hC := hC v12 ev12
          refine gj_iinc (v := v12) (L' := [(3, .int v12), (5, .int r9), (4, .int r7), (0, .ref (h 6)), (1, .int v_1), (2, .int v_2)]) X d_Le_lowerAround_80 5 rfl (by rw [ev12]; rfl) (by decide) rfl ?_
          refine gj_goto (tgt := 22) X d_Le_lowerAround_83 (by decide) ?_
          exact gj_loc [3, 4, 5, 0] rfl hC
        · have hC := hC.2 c0
          refine gj_iload X d_Le_lowerAround_61 0 rfl ?_
          refine gj_iconst (v := -1) X d_Le_lowerAround_63 (by decide) ?_
          refine gj_icmp_eq (tgt := 80) X d_Le_lowerAround_64 (by decide) (fun c0 => ?_) (fun c0 => ?_)
          · have hC := hC.1 c0
            obtain ⟨v13, ev13⟩ : ∃ y : Int32, y = v_3 + 1 := ⟨_, rfl⟩
            have hC := hC v13 ev13
            refine gj_iinc (v := v13) (L' := [(3, .int v13), (5, .int r9), (4, .int r7), (0, .ref (h 6)), (1, .int v_1), (2, .int v_2)]) X d_Le_lowerAround_80 5 rfl (by rw [ev13]; rfl) (by decide) rfl ?_
            refine gj_goto (tgt := 22) X d_Le_lowerAround_83 (by decide) ?_
            exact gj_loc [3, 4, 5, 0] rfl hC
          · have hC := hC.2 c0
            refine gj_aload_n X d_Le_lowerAround_67 rfl 2 rfl ?_
            refine gj_get X inX4 6 rfl rfl 2 (by decide) tw_55 rfl rfl d_Le_lowerAround_68 ?_
            refine gj_iload X d_Le_lowerAround_71 1 rfl ?_
            refine gj_iload_n X d_Le_lowerAround_73 rfl 4 rfl ?_
            refine gj_iload X d_Le_lowerAround_74 0 rfl ?_
            refine gj_iadd X d_Le_lowerAround_76 ?_
            refine gj_callSV (As := [.ref (h 8), .int r7, .int (v_2 + r9)]) (st := []) X (c_Le_lower_8 l dC dI h cI cL cZ σ10 r7 (v_2 + r9) _ hC) ⟨gj_cwB X tw_314 tw_3 tw_312 hd_Le_lower rfl rfl ⟨Nat.le_of_ble_eq_true rfl, Nat.le_of_ble_eq_true rfl⟩, X.2.2.2.2.1 _ tw_313⟩ hA rfl (Nat.le_of_ble_eq_true rfl) ⟨Nat.zero_le _, Nat.zero_le _⟩ d_Le_lowerAround_77 rfl (fun σ14 hC => ?_)
            obtain ⟨v15, ev15⟩ : ∃ y : Int32, y = v_3 + 1 := ⟨_, rfl⟩
            have hC := hC v15 ev15
            refine gj_iinc (v := v15) (L' := [(3, .int v15), (5, .int r9), (4, .int r7), (0, .ref (h 6)), (1, .int v_1), (2, .int v_2)]) X d_Le_lowerAround_80 5 rfl (by rw [ev15]; rfl) (by decide) rfl ?_
            refine gj_goto (tgt := 22) X d_Le_lowerAround_83 (by decide) ?_
            exact gj_loc [3, 4, 5, 0] rfl hC)
  refine gj_aload_n X d_Le_lowerAround_0 rfl 0 rfl ?_
  refine gj_get X inX4 6 rfl rfl 2 (by decide) tw_55 rfl rfl d_Le_lowerAround_1 ?_
  refine gj_aload_n X d_Le_lowerAround_4 rfl 0 rfl ?_
  refine gj_get X inX4 6 rfl rfl 0 (by decide) tw_53 rfl rfl d_Le_lowerAround_5 ?_
  refine gj_iload_n X d_Le_lowerAround_8 rfl 1 rfl ?_
  refine gj_callVI (As := [.int a0]) (st := [.ref (h 8)]) X (c_Gr_leftOf l dC dI h cI cL cZ σ a0 _ hC) ⟨gj_cwB X tw_284 tw_2 tw_304 hd_Gr_leftOf rfl rfl ⟨Nat.le_of_ble_eq_true rfl, Nat.le_of_ble_eq_true rfl⟩, X.2.2.2.2.1 _ tw_282, X.2.2.2.2.1 _ tw_283⟩ 2 rfl rfl hA rfl (Nat.le_of_ble_eq_true rfl) ⟨Nat.zero_le _, Nat.zero_le _⟩ d_Le_lowerAround_9 rfl (fun r2 σ1 hC => ?_)
  refine gj_iald X 8 0 rfl rfl hC.1 d_Le_lowerAround_12 ?_
  have hC := hC.2
  refine gj_topi (fun v3 ev3 => ?_)
  have hC := hC v3 ev3
  refine gj_istore_n (L' := [(2, .int v3), (0, .ref (h 6)), (1, .int a0)]) X d_Le_lowerAround_13 rfl (by decide) rfl ?_
  refine gj_iload_n X d_Le_lowerAround_14 rfl 0 rfl ?_
  refine gj_iconst (v := -1) X d_Le_lowerAround_15 (by decide) ?_
  refine gj_icmp_ne (tgt := 20) X d_Le_lowerAround_16 (by decide) (fun c0 => ?_) (fun c0 => ?_)
  · have hC := hC.1 c0
    refine gj_iconst (v := 0) X d_Le_lowerAround_20 (by decide) ?_
    refine gj_istore_n (L' := [(3, .int (0 : Int32)), (2, .int v3), (0, .ref (h 6)), (1, .int a0)]) X d_Le_lowerAround_21 rfl (by decide) rfl ?_
    exact gj_loc [2, 3, 1, 0] rfl hC
  · have hC := hC.2 c0
    exact gj_vret X hr hlk hC d_Le_lowerAround_19
abbrev rm_Le_find : Room := { frames := 3, cells := 0, slots := 0, locals := 73 }
set_option maxHeartbeats 4000000 in
set_option maxRecDepth 100000 in
theorem c_Le_find (l : Launch) (dC : Nat → ClassId) (dI : Nat → Nat → Nat) (h : Nat → Nat) (cI cL cZ : ClassId) (σ : gs_St) (K : gs_St → Prop) (hC : C_Le_find σ K) : gj_MV 0 0 l y_Le_find (gj_ws y_Le_find b_Le_find 3 (none)) rm_Le_find (dC, dI) gs_C (gs_T cI cL cZ) ((wG h cI cL) σ) (wG h cI cL) [.ref (h 6)] K := by
  refine gj_enterV (by decide) (Nat.le_of_ble_eq_true rfl) (fun p e s m args below meth c A X hr hlk hA hnm => ?_)
  change gj_J p l e rm_Le_find s m args below meth c 0 0 (MQ below (va_Qv K (gj_at (dC, dI) gs_C (gs_T cI cL cZ) (wG h cI cL) A) A) args s 0 0 A) (dC, dI) gs_C A 3 0 [(0, .ref (h 6))] [] ((wG h cI cL) σ)
  have hC := hC
    (fun (v_1 : Int32) (σ : gs_St) => gj_J p l e rm_Le_find s m args below meth c 0 0 (MQ below (va_Qv K (gj_at (dC, dI) gs_C (gs_T cI cL cZ) (wG h cI cL) A) A) args s 0 0 A) (dC, dI) gs_C A 3 10 [(0, .ref (h 6)), (1, .int v_1)] [] ((wG h cI cL) σ))
    (fun (v_1 : Int32) (v_2 : Int32) (σ : gs_St) => gj_J p l e rm_Le_find s m args below meth c 0 0 (MQ below (va_Qv K (gj_at (dC, dI) gs_C (gs_T cI cL cZ) (wG h cI cL) A) A) args s 0 0 A) (dC, dI) gs_C A 3 18 [(0, .ref (h 6)), (1, .int v_1), (2, .int v_2)] [] ((wG h cI cL) σ))
    (fun (v_1 : Int32) (σ : gs_St) => gj_J p l e rm_Le_find s m args below meth c 0 0 (MQ below (va_Qv K (gj_at (dC, dI) gs_C (gs_T cI cL cZ) (wG h cI cL) A) A) args s 0 0 A) (dC, dI) gs_C A 3 79 [(0, .ref (h 6)), (1, .int v_1)] [] ((wG h cI cL) σ))
    (fun (v_1 : Int32) (v_2 : Int32) (σ : gs_St) => gj_J p l e rm_Le_find s m args below meth c 0 0 (MQ below (va_Qv K (gj_at (dC, dI) gs_C (gs_T cI cL cZ) (wG h cI cL) A) A) args s 0 0 A) (dC, dI) gs_C A 3 87 [(0, .ref (h 6)), (1, .int v_1), (2, .int v_2)] [] ((wG h cI cL) σ))
    (by
      intro v_1 σ hC
      refine gj_iload_n X d_Le_find_10 rfl 1 rfl ?_
      refine gj_bipush (v := 8) X d_Le_find_11 (by decide) ?_
      refine gj_icmp_ge (tgt := 62) X d_Le_find_13 (by decide) (fun c0 => ?_) (fun c0 => ?_)
      · have hC := hC.1 c0
        refine gj_aload_n X d_Le_find_62 rfl 0 rfl ?_
        refine gj_get X inX4 6 rfl rfl 2 (by decide) tw_55 rfl rfl d_Le_find_63 ?_
        refine gj_iconst (v := -1) X d_Le_find_66 (by decide) ?_
        refine gj_callSV (As := [.ref (h 8), .int (-1 : Int32)]) (st := []) X (c_Ar_fill_8 l dC dI h cI cL cZ σ (-1 : Int32) _ hC) ⟨gj_cwB X tw_303 tw_12 tw_301 hd_Ar_fill rfl rfl ⟨Nat.le_of_ble_eq_true rfl, Nat.le_of_ble_eq_true rfl⟩, X.2.2.2.2.1 _ tw_302⟩ hA rfl (Nat.le_of_ble_eq_true rfl) ⟨Nat.zero_le _, Nat.zero_le _⟩ d_Le_find_67 rfl (fun σ2 hC => ?_)
        refine gj_aload_n X d_Le_find_70 rfl 0 rfl ?_
        refine gj_get X inX4 6 rfl rfl 2 (by decide) tw_55 rfl rfl d_Le_find_71 ?_
        refine gj_iconst (v := 0) X d_Le_find_74 (by decide) ?_
        refine gj_iconst (v := 0) X d_Le_find_75 (by decide) ?_
        refine gj_iast (w' := (wG h cI cL) (gs_A σ2 5 (upd (σ2.2.1 5) (0 : Int32).toNatClampNeg (0 : Int32)))) X 8 0 rfl rfl hC.1 (set_wG_A5 h cI cL σ2 _) d_Le_find_76 ?_
        refine gj_topw (wof := (wG h cI cL)) (fun σ3 eσ3 => ?_)
        have hC := hC.2 σ3 eσ3
        refine gj_iconst (v := 0) X d_Le_find_77 (by decide) ?_
        refine gj_istore_n (L' := [(1, .int (0 : Int32)), (0, .ref (h 6))]) X d_Le_find_78 rfl (by decide) rfl ?_
        exact gj_loc [1, 0] rfl hC
      · have hC := hC.2 c0
        refine gj_iconst (v := 0) X d_Le_find_16 (by decide) ?_
        refine gj_istore_n (L' := [(2, .int (0 : Int32)), (0, .ref (h 6)), (1, .int v_1)]) X d_Le_find_17 rfl (by decide) rfl ?_
        exact gj_loc [1, 2, 0] rfl hC)
    (by
      intro v_1 v_2 σ hC
      refine gj_iload_n X d_Le_find_18 rfl 2 rfl ?_
      refine gj_aload_n X d_Le_find_19 rfl 0 rfl ?_
      refine gj_get X inX4 6 rfl rfl 0 (by decide) tw_53 rfl rfl d_Le_find_20 ?_
      refine gj_getN X inX2 2 rfl rfl 3 (by decide) tn_35 rfl rfl d_Le_find_23 ?_
      refine gj_icmp_ge (tgt := 56) X d_Le_find_26 (by decide) (fun c0 => ?_) (fun c0 => ?_)
      · have hC := hC.1 c0
        obtain ⟨v4, ev4⟩ : ∃ y : Int32, y = v_1 + 1 := ⟨_, rfl⟩
        have hC := hC v4 ev4
        refine gj_iinc (v := v4) (L' := [(1, .int v4), (0, .ref (h 6)), (2, .int v_2)]) X d_Le_find_56 1 rfl (by rw [ev4]; rfl) (by decide) rfl ?_
        refine gj_goto (tgt := 10) X d_Le_find_59 (by decide) ?_
        exact gj_loc [1, 0] rfl hC
      · have hC := hC.2 c0
        refine gj_aload_n X d_Le_find_29 rfl 0 rfl ?_
        refine gj_get X inX4 6 rfl rfl 1 (by decide) tw_54 rfl rfl d_Le_find_30 ?_
        refine gj_aload_n X d_Le_find_33 rfl 0 rfl ?_
        refine gj_get X inX4 6 rfl rfl 0 (by decide) tw_53 rfl rfl d_Le_find_34 ?_
        refine gj_iload_n X d_Le_find_37 rfl 2 rfl ?_
        refine gj_callVI (As := [.int v_2]) (st := [.ref (h 7)]) X (c_Gr_leftOf l dC dI h cI cL cZ σ v_2 _ hC) ⟨gj_cwB X tw_284 tw_2 tw_304 hd_Gr_leftOf rfl rfl ⟨Nat.le_of_ble_eq_true rfl, Nat.le_of_ble_eq_true rfl⟩, X.2.2.2.2.1 _ tw_282, X.2.2.2.2.1 _ tw_283⟩ 2 rfl rfl hA rfl (Nat.le_of_ble_eq_true rfl) ⟨Nat.zero_le _, Nat.zero_le _⟩ d_Le_find_38 rfl (fun r6 σ5 hC => ?_)
        refine gj_aload_n X d_Le_find_41 rfl 0 rfl ?_
        refine gj_iload_n X d_Le_find_42 rfl 2 rfl ?_
        refine gj_iconst (v := -1) X d_Le_find_43 (by decide) ?_
        refine gj_callVI (As := [.int v_2, .int (-1 : Int32)]) (st := [.int r6, .ref (h 7)]) X (c_Le_leastBut l dC dI h cI cL cZ σ5 v_2 (-1 : Int32) _ hC) ⟨gj_cwB X tw_308 tw_3 tw_305 hd_Le_leastBut rfl rfl ⟨Nat.le_of_ble_eq_true rfl, Nat.le_of_ble_eq_true rfl⟩, X.2.2.2.2.1 _ tw_307, X.2.2.2.2.1 _ ts_1⟩ 6 rfl rfl hA rfl (Nat.le_of_ble_eq_true rfl) ⟨Nat.zero_le _, Nat.zero_le _⟩ d_Le_find_44 rfl (fun r8 σ7 hC => ?_)
        refine gj_callSV (As := [.ref (h 7), .int r6, .int r8]) (st := []) X (c_Le_lower_7 l dC dI h cI cL cZ σ7 r6 r8 _ hC) ⟨gj_cwB X tw_314 tw_3 tw_312 hd_Le_lower rfl rfl ⟨Nat.le_of_ble_eq_true rfl, Nat.le_of_ble_eq_true rfl⟩, X.2.2.2.2.1 _ tw_313⟩ hA rfl (Nat.le_of_ble_eq_true rfl) ⟨Nat.zero_le _, Nat.zero_le _⟩ d_Le_find_47 rfl (fun σ9 hC => ?_)
        obtain ⟨v10, ev10⟩ : ∃ y : Int32, y = v_2 + 1 := ⟨_, rfl⟩
        have hC := hC v10 ev10
        refine gj_iinc (v := v10) (L' := [(2, .int v10), (0, .ref (h 6)), (1, .int v_1)]) X d_Le_find_50 2 rfl (by rw [ev10]; rfl) (by decide) rfl ?_
        refine gj_goto (tgt := 18) X d_Le_find_53 (by decide) ?_
        exact gj_loc [1, 2, 0] rfl hC)
    (by
      intro v_1 σ hC
      refine gj_iload_n X d_Le_find_79 rfl 1 rfl ?_
      refine gj_bipush (v := 8) X d_Le_find_80 (by decide) ?_
      refine gj_icmp_ge (tgt := 115) X d_Le_find_82 (by decide) (fun c0 => ?_) (fun c0 => ?_)
      · have hC := hC.1 c0
        exact gj_vret X hr hlk hC d_Le_find_115
      · have hC := hC.2 c0
        refine gj_iconst (v := 0) X d_Le_find_85 (by decide) ?_
        refine gj_istore_n (L' := [(2, .int (0 : Int32)), (0, .ref (h 6)), (1, .int v_1)]) X d_Le_find_86 rfl (by decide) rfl ?_
        exact gj_loc [1, 2, 0] rfl hC)
    (by
      intro v_1 v_2 σ hC
      refine gj_iload_n X d_Le_find_87 rfl 2 rfl ?_
      refine gj_aload_n X d_Le_find_88 rfl 0 rfl ?_
      refine gj_get X inX4 6 rfl rfl 0 (by decide) tw_53 rfl rfl d_Le_find_89 ?_
      refine gj_getN X inX2 2 rfl rfl 3 (by decide) tn_35 rfl rfl d_Le_find_92 ?_
      refine gj_icmp_ge (tgt := 109) X d_Le_find_95 (by decide) (fun c0 => ?_) (fun c0 => ?_)
      · have hC := hC.1 c0
        obtain ⟨v11, ev11⟩ : ∃ y : Int32, y = v_1 + 1 := ⟨_, rfl⟩
        have hC := hC v11 ev11
        refine gj_iinc (v := v11) (L' := [(1, .int v11), (0, .ref (h 6)), (2, .int v_2)]) X d_Le_find_109 1 rfl (by rw [ev11]; rfl) (by decide) rfl ?_
        refine gj_goto (tgt := 79) X d_Le_find_112 (by decide) ?_
        exact gj_loc [1, 0] rfl hC
      · have hC := hC.2 c0
        refine gj_aload_n X d_Le_find_98 rfl 0 rfl ?_
        refine gj_iload_n X d_Le_find_99 rfl 2 rfl ?_
        refine gj_callVV (As := [.int v_2]) (st := []) X (c_Le_lowerAround l dC dI h cI cL cZ σ v_2 _ hC) ⟨gj_cwB X tw_318 tw_3 tw_315 hd_Le_lowerAround rfl rfl ⟨Nat.le_of_ble_eq_true rfl, Nat.le_of_ble_eq_true rfl⟩, X.2.2.2.2.1 _ tw_317, X.2.2.2.2.1 _ ts_2⟩ 6 rfl rfl hA rfl (Nat.le_of_ble_eq_true rfl) ⟨Nat.zero_le _, Nat.zero_le _⟩ d_Le_find_100 rfl (fun σ12 hC => ?_)
        obtain ⟨v13, ev13⟩ : ∃ y : Int32, y = v_2 + 1 := ⟨_, rfl⟩
        have hC := hC v13 ev13
        refine gj_iinc (v := v13) (L' := [(2, .int v13), (0, .ref (h 6)), (1, .int v_1)]) X d_Le_find_103 2 rfl (by rw [ev13]; rfl) (by decide) rfl ?_
        refine gj_goto (tgt := 87) X d_Le_find_106 (by decide) ?_
        exact gj_loc [1, 2, 0] rfl hC)
  refine gj_aload_n X d_Le_find_0 rfl 0 rfl ?_
  refine gj_get X inX4 6 rfl rfl 1 (by decide) tw_54 rfl rfl d_Le_find_1 ?_
  refine gj_iconst (v := -1) X d_Le_find_4 (by decide) ?_
  refine gj_callSV (As := [.ref (h 7), .int (-1 : Int32)]) (st := []) X (c_Ar_fill_7 l dC dI h cI cL cZ σ (-1 : Int32) _ hC) ⟨gj_cwB X tw_303 tw_12 tw_301 hd_Ar_fill rfl rfl ⟨Nat.le_of_ble_eq_true rfl, Nat.le_of_ble_eq_true rfl⟩, X.2.2.2.2.1 _ tw_302⟩ hA rfl (Nat.le_of_ble_eq_true rfl) ⟨Nat.zero_le _, Nat.zero_le _⟩ d_Le_find_5 rfl (fun σ1 hC => ?_)
  refine gj_iconst (v := 0) X d_Le_find_8 (by decide) ?_
  refine gj_istore_n (L' := [(1, .int (0 : Int32)), (0, .ref (h 6))]) X d_Le_find_9 rfl (by decide) rfl ?_
  exact gj_loc [1, 0] rfl hC
abbrev rm_Ar_fill_10 : Room := { frames := 0, cells := 0, slots := 0, locals := 0 }
set_option maxHeartbeats 4000000 in
set_option maxRecDepth 100000 in
theorem c_Ar_fill_10 (l : Launch) (dC : Nat → ClassId) (dI : Nat → Nat → Nat) (h : Nat → Nat) (cI cL cZ : ClassId) (σ : gs_St) (a1 : Int32) (K : gs_St → Prop) (hC : C_Ar_fill_10 a1 σ K) : gj_MV 0 0 l y_Ar_fill (gj_ws y_Ar_fill b_Ar_fill 4 (none)) rm_Ar_fill_10 (dC, dI) gs_C (gs_T cI cL cZ) ((wG h cI cL) σ) (wG h cI cL) [.ref (h 10), .int a1] K := by
  refine gj_enterV (by decide) (Nat.le_of_ble_eq_true rfl) (fun p e s m args below meth c A X hr hlk hA hnm => ?_)
  change gj_J p l e rm_Ar_fill_10 s m args below meth c 0 0 (MQ below (va_Qv K (gj_at (dC, dI) gs_C (gs_T cI cL cZ) (wG h cI cL) A) A) args s 0 0 A) (dC, dI) gs_C A 4 0 [(0, .ref (h 10)), (1, .int a1)] [] ((wG h cI cL) σ)
  have hC := hC
    (fun (v_1 : Int32) (v_2 : Int32) (v_3 : Int32) (σ : gs_St) => gj_J p l e rm_Ar_fill_10 s m args below meth c 0 0 (MQ below (va_Qv K (gj_at (dC, dI) gs_C (gs_T cI cL cZ) (wG h cI cL) A) A) args s 0 0 A) (dC, dI) gs_C A 4 5 [(0, .ref (h 10)), (1, .int v_1), (2, .int v_2), (3, .int v_3)] [] ((wG h cI cL) σ))
    (by
      intro v_1 v_2 v_3 σ hC
      refine gj_iload_n X d_Ar_fill_5 rfl 2 rfl ?_
      refine gj_iload_n X d_Ar_fill_6 rfl 3 rfl ?_
      refine gj_icmp_ge (tgt := 20) X d_Ar_fill_7 (by decide) (fun c0 => ?_) (fun c0 => ?_)
      · have hC := hC.1 c0
        exact gj_vret X hr hlk hC d_Ar_fill_20
      · have hC := hC.2 c0
        refine gj_aload_n X d_Ar_fill_10 rfl 0 rfl ?_
        refine gj_iload_n X d_Ar_fill_11 rfl 2 rfl ?_
        refine gj_iload_n X d_Ar_fill_12 rfl 1 rfl ?_
        refine gj_iast (w' := (wG h cI cL) (gs_A σ 6 (upd (σ.2.1 6) v_2.toNatClampNeg v_1))) X 10 0 rfl rfl hC.1 (set_wG_A6 h cI cL σ _) d_Ar_fill_13 ?_
        refine gj_topw (wof := (wG h cI cL)) (fun σ1 eσ1 => ?_)
        have hC := hC.2 σ1 eσ1
        obtain ⟨v2, ev2⟩ : ∃ y : Int32, y = v_2 + 1 := ⟨_, rfl⟩
        have hC := hC v2 ev2
        refine gj_iinc (v := v2) (L' := [(2, .int v2), (0, .ref (h 10)), (1, .int v_1), (3, .int v_3)]) X d_Ar_fill_14 2 rfl (by rw [ev2]; rfl) (by decide) rfl ?_
        refine gj_goto (tgt := 5) X d_Ar_fill_17 (by decide) ?_
        exact gj_loc [1, 2, 0, 3] rfl hC)
  refine gj_iconst (v := 0) X d_Ar_fill_0 (by decide) ?_
  refine gj_istore_n (L' := [(2, .int (0 : Int32)), (0, .ref (h 10)), (1, .int a1)]) X d_Ar_fill_1 rfl (by decide) rfl ?_
  refine gj_aload_n X d_Ar_fill_2 rfl 1 rfl ?_
  refine gj_alen (v := 8) X 10 0 rfl rfl rfl d_Ar_fill_3 ?_
  refine gj_istore_n (L' := [(3, .int (8 : Int32)), (2, .int (0 : Int32)), (0, .ref (h 10)), (1, .int a1)]) X d_Ar_fill_4 rfl (by decide) rfl ?_
  exact gj_loc [2, 3, 1, 0] rfl hC
abbrev rm_Ld_putInOrder : Room := { frames := 0, cells := 0, slots := 0, locals := 0 }
set_option maxHeartbeats 4000000 in
set_option maxRecDepth 100000 in
theorem c_Ld_putInOrder (l : Launch) (dC : Nat → ClassId) (dI : Nat → Nat → Nat) (h : Nat → Nat) (cI cL cZ : ClassId) (σ : gs_St) (K : gs_St → Prop) (hC : C_Ld_putInOrder σ K) : gj_MV 0 0 l y_Ld_putInOrder (gj_ws y_Ld_putInOrder b_Ld_putInOrder 5 (none)) rm_Ld_putInOrder (dC, dI) gs_C (gs_T cI cL cZ) ((wG h cI cL) σ) (wG h cI cL) [.ref (h 9)] K := by
  refine gj_enterV (by decide) (Nat.le_of_ble_eq_true rfl) (fun p e s m args below meth c A X hr hlk hA hnm => ?_)
  change gj_J p l e rm_Ld_putInOrder s m args below meth c 0 0 (MQ below (va_Qv K (gj_at (dC, dI) gs_C (gs_T cI cL cZ) (wG h cI cL) A) A) args s 0 0 A) (dC, dI) gs_C A 5 0 [(0, .ref (h 9))] [] ((wG h cI cL) σ)
  have hC := hC
    (fun (v_1 : Int32) (v_2 : Int32) (σ : gs_St) => gj_J p l e rm_Ld_putInOrder s m args below meth c 0 0 (MQ below (va_Qv K (gj_at (dC, dI) gs_C (gs_T cI cL cZ) (wG h cI cL) A) A) args s 0 0 A) (dC, dI) gs_C A 5 9 [(0, .ref (h 9)), (1, .int v_1), (2, .int v_2)] [] ((wG h cI cL) σ))
    (fun (v_1 : Int32) (v_2 : Int32) (v_3 : Int32) (σ : gs_St) => gj_J p l e rm_Ld_putInOrder s m args below meth c 0 0 (MQ below (va_Qv K (gj_at (dC, dI) gs_C (gs_T cI cL cZ) (wG h cI cL) A) A) args s 0 0 A) (dC, dI) gs_C A 5 17 [(0, .ref (h 9)), (1, .int v_1), (2, .int v_2), (3, .int v_3)] [] ((wG h cI cL) σ))
    (fun (v_1 : Int32) (v_2 : Int32) (v_3 : Int32) (s_0 : Int32) (σ : gs_St) => gj_J p l e rm_Ld_putInOrder s m args below meth c 0 0 (MQ below (va_Qv K (gj_at (dC, dI) gs_C (gs_T cI cL cZ) (wG h cI cL) A) A) args s 0 0 A) (dC, dI) gs_C A 5 36 [(0, .ref (h 9)), (1, .int v_1), (2, .int v_2), (3, .int v_3)] [.int s_0] ((wG h cI cL) σ))
    (by
      intro v_1 v_2 σ hC
      refine gj_iload_n X d_Ld_putInOrder_9 rfl 2 rfl ?_
      refine gj_bipush (v := 8) X d_Ld_putInOrder_10 (by decide) ?_
      refine gj_icmp_ge (tgt := 94) X d_Ld_putInOrder_12 (by decide) (fun c0 => ?_) (fun c0 => ?_)
      · have hC := hC.1 c0
        exact gj_vret X hr hlk hC d_Ld_putInOrder_94
      · have hC := hC.2 c0
        refine gj_iconst (v := 0) X d_Ld_putInOrder_15 (by decide) ?_
        refine gj_istore_n (L' := [(3, .int (0 : Int32)), (0, .ref (h 9)), (1, .int v_1), (2, .int v_2)]) X d_Ld_putInOrder_16 rfl (by decide) rfl ?_
        exact gj_loc [1, 2, 3, 0] rfl hC)
    (by
      intro v_1 v_2 v_3 σ hC
      refine gj_iload_n X d_Ld_putInOrder_17 rfl 3 rfl ?_
      refine gj_bipush (v := 8) X d_Ld_putInOrder_18 (by decide) ?_
      refine gj_icmp_ge (tgt := 88) X d_Ld_putInOrder_20 (by decide) (fun c0 => ?_) (fun c0 => ?_)
      · have hC := hC.1 c0
        obtain ⟨v2, ev2⟩ : ∃ y : Int32, y = v_2 + 1 := ⟨_, rfl⟩
        have hC := hC v2 ev2
        refine gj_iinc (v := v2) (L' := [(2, .int v2), (0, .ref (h 9)), (1, .int v_1), (3, .int v_3)]) X d_Ld_putInOrder_88 2 rfl (by rw [ev2]; rfl) (by decide) rfl ?_
        refine gj_goto (tgt := 9) X d_Ld_putInOrder_91 (by decide) ?_
        exact gj_loc [1, 2, 0] rfl hC
      · have hC := hC.2 c0
        refine gj_iload_n X d_Ld_putInOrder_23 rfl 1 rfl ?_
        refine gj_iconst (v := 1) X d_Ld_putInOrder_24 (by decide) ?_
        refine gj_iload_n X d_Ld_putInOrder_25 rfl 3 rfl ?_
        refine gj_ishl X d_Ld_putInOrder_26 ?_
        refine gj_iand X d_Ld_putInOrder_27 ?_
        refine gj_if_ne (tgt := 35) X d_Ld_putInOrder_28 (by decide) (fun c0 => ?_) (fun c0 => ?_)
        · have hC := hC.1 c0
          refine gj_iconst (v := 0) X d_Ld_putInOrder_35 (by decide) ?_
          exact gj_loc [0, 1, 2, 3] rfl hC
        · have hC := hC.2 c0
          refine gj_iconst (v := 1) X d_Ld_putInOrder_31 (by decide) ?_
          refine gj_goto (tgt := 36) X d_Ld_putInOrder_32 (by decide) ?_
          exact gj_loc [0, 1, 2, 3] rfl hC)
    (by
      intro v_1 v_2 v_3 s_0 σ hC
      refine gj_istore (L' := [(4, .int s_0), (0, .ref (h 9)), (1, .int v_1), (2, .int v_2), (3, .int v_3)]) X d_Ld_putInOrder_36 (by decide) rfl ?_
      refine gj_iload X d_Ld_putInOrder_38 0 rfl ?_
      refine gj_if_eq (tgt := 82) X d_Ld_putInOrder_40 (by decide) (fun c0 => ?_) (fun c0 => ?_)
      · have hC := hC.1 c0
        obtain ⟨v3, ev3⟩ : ∃ y : Int32, y = v_3 + 1 := ⟨_, rfl⟩
        have hC := hC v3 ev3
        refine gj_iinc (v := v3) (L' := [(3, .int v3), (4, .int s_0), (0, .ref (h 9)), (1, .int v_1), (2, .int v_2)]) X d_Ld_putInOrder_82 4 rfl (by rw [ev3]; rfl) (by decide) rfl ?_
        refine gj_goto (tgt := 17) X d_Ld_putInOrder_85 (by decide) ?_
        exact gj_loc [2, 3, 4, 0] rfl hC
      · have hC := hC.2 c0
        refine gj_aload_n X d_Ld_putInOrder_43 rfl 1 rfl ?_
        refine gj_get X inX3 9 rfl rfl 2 (by decide) tw_71 rfl rfl d_Ld_putInOrder_44 ?_
        refine gj_iload_n X d_Ld_putInOrder_47 rfl 4 rfl ?_
        refine gj_iald X 10 0 rfl rfl hC.1 d_Ld_putInOrder_48 ?_
        have hC := hC.2
        refine gj_iload_n X d_Ld_putInOrder_49 rfl 2 rfl ?_
        refine gj_iconst (v := -1) X d_Ld_putInOrder_50 (by decide) ?_
        refine gj_ixor X d_Ld_putInOrder_51 ?_
        refine gj_iand X d_Ld_putInOrder_52 ?_
        refine gj_if_ne (tgt := 82) X d_Ld_putInOrder_53 (by decide) (fun c0 => ?_) (fun c0 => ?_)
        · have hC := hC.1 c0
          obtain ⟨v4, ev4⟩ : ∃ y : Int32, y = v_3 + 1 := ⟨_, rfl⟩
          have hC := hC v4 ev4
          refine gj_iinc (v := v4) (L' := [(3, .int v4), (4, .int s_0), (0, .ref (h 9)), (1, .int v_1), (2, .int v_2)]) X d_Ld_putInOrder_82 4 rfl (by rw [ev4]; rfl) (by decide) rfl ?_
          refine gj_goto (tgt := 17) X d_Ld_putInOrder_85 (by decide) ?_
          exact gj_loc [2, 3, 4, 0] rfl hC
        · have hC := hC.2 c0
          refine gj_iload_n X d_Ld_putInOrder_56 rfl 2 rfl ?_
          refine gj_iconst (v := 1) X d_Ld_putInOrder_57 (by decide) ?_
          refine gj_iload_n X d_Ld_putInOrder_58 rfl 4 rfl ?_
          refine gj_ishl X d_Ld_putInOrder_59 ?_
          refine gj_ior X d_Ld_putInOrder_60 ?_
          refine gj_topi (fun v5 ev5 => ?_)
          have hC := hC v5 ev5
          refine gj_istore_n (L' := [(1, .int v5), (4, .int s_0), (0, .ref (h 9)), (2, .int v_2), (3, .int v_3)]) X d_Ld_putInOrder_61 rfl (by decide) rfl ?_
          refine gj_aload_n X d_Ld_putInOrder_62 rfl 2 rfl ?_
          refine gj_get X inX3 9 rfl rfl 3 (by decide) tw_72 rfl rfl d_Ld_putInOrder_63 ?_
          refine gj_aload_n X d_Ld_putInOrder_66 rfl 2 rfl ?_
          refine gj_get X inX3 9 rfl rfl 4 (by decide) tw_73 rfl rfl d_Ld_putInOrder_67 ?_
          refine gj_iload_n X d_Ld_putInOrder_70 rfl 4 rfl ?_
          refine gj_iast (w' := (wG h cI cL) (gs_A σ 7 (upd (σ.2.1 7) (σ.1 3).toNatClampNeg v_3))) X 11 0 rfl rfl hC.1 (set_wG_A7 h cI cL σ _) d_Ld_putInOrder_71 ?_
          refine gj_topw (wof := (wG h cI cL)) (fun σ6 eσ6 => ?_)
          have hC := hC.2 σ6 eσ6
          refine gj_aload_n X d_Ld_putInOrder_72 rfl 2 rfl ?_
          refine gj_dup X d_Ld_putInOrder_73 rfl ?_
          refine gj_get X inX3 9 rfl rfl 4 (by decide) tw_73 rfl rfl d_Ld_putInOrder_74 ?_
          refine gj_iconst (v := 1) X d_Ld_putInOrder_77 (by decide) ?_
          refine gj_iadd X d_Ld_putInOrder_78 ?_
          refine gj_put (w' := (wG h cI cL) (gs_I σ6 3 ((σ6.1 3) + (1 : Int32)))) X inX3 tyX3 tyX3_ok nmX3 9 rfl rfl 4 (by decide) tw_73 rfl rfl (tyX3_ok 4 (by decide)) rfl rfl (Nat.le_of_ble_eq_true rfl) (set_wG_I3 h cI cL σ6 _) d_Ld_putInOrder_79 ?_
          refine gj_topw (wof := (wG h cI cL)) (fun σ7 eσ7 => ?_)
          have hC := hC σ7 eσ7
          obtain ⟨v8, ev8⟩ : ∃ y : Int32, y = v_3 + 1 := ⟨_, rfl⟩
          have hC := hC v8 ev8
          refine gj_iinc (v := v8) (L' := [(3, .int v8), (1, .int v5), (4, .int s_0), (0, .ref (h 9)), (2, .int v_2)]) X d_Ld_putInOrder_82 4 rfl (by rw [ev8]; rfl) (by decide) rfl ?_
          refine gj_goto (tgt := 17) X d_Ld_putInOrder_85 (by decide) ?_
          exact gj_loc [3, 1, 4, 0] rfl hC)
  refine gj_aload_n X d_Ld_putInOrder_0 rfl 0 rfl ?_
  refine gj_iconst (v := 0) X d_Ld_putInOrder_1 (by decide) ?_
  refine gj_put (w' := (wG h cI cL) (gs_I σ 3 (0 : Int32))) X inX3 tyX3 tyX3_ok nmX3 9 rfl rfl 4 (by decide) tw_73 rfl rfl (tyX3_ok 4 (by decide)) rfl rfl (Nat.le_of_ble_eq_true rfl) (set_wG_I3 h cI cL σ _) d_Ld_putInOrder_2 ?_
  refine gj_topw (wof := (wG h cI cL)) (fun σ1 eσ1 => ?_)
  have hC := hC σ1 eσ1
  refine gj_iconst (v := 0) X d_Ld_putInOrder_5 (by decide) ?_
  refine gj_istore_n (L' := [(1, .int (0 : Int32)), (0, .ref (h 9))]) X d_Ld_putInOrder_6 rfl (by decide) rfl ?_
  refine gj_iconst (v := 0) X d_Ld_putInOrder_7 (by decide) ?_
  refine gj_istore_n (L' := [(2, .int (0 : Int32)), (1, .int (0 : Int32)), (0, .ref (h 9))]) X d_Ld_putInOrder_8 rfl (by decide) rfl ?_
  exact gj_loc [2, 1, 0] rfl hC
abbrev rm_Le_isEmpty : Room := { frames := 1, cells := 0, slots := 0, locals := 20 }
set_option maxHeartbeats 4000000 in
set_option maxRecDepth 100000 in
theorem c_Le_isEmpty (l : Launch) (dC : Nat → ClassId) (dI : Nat → Nat → Nat) (h : Nat → Nat) (cI cL cZ : ClassId) (σ : gs_St) (a0 : Int32) (K : Int32 → gs_St → Prop) (hC : C_Le_isEmpty a0 σ K) : gj_MI l y_Le_isEmpty (gj_ws y_Le_isEmpty b_Le_isEmpty 2 (some .boolean)) rm_Le_isEmpty (dC, dI) gs_C (gs_T cI cL cZ) ((wG h cI cL) σ) (wG h cI cL) [.ref (h 6), .int a0] (fun r u => K r u ∧ (r = 0 ∨ r = 1)) := by
  refine gj_enterZ (by decide) (Nat.le_of_ble_eq_true rfl) (fun p e s m args below meth c A X hr hlk hA hnm => ?_)
  change gj_J p l e rm_Le_isEmpty s m args below meth c 0 0 (MQ below (va_Qi (fun r u => K r u ∧ (r = 0 ∨ r = 1)) (gj_at (dC, dI) gs_C (gs_T cI cL cZ) (wG h cI cL) A) A) args s 0 0 A) (dC, dI) gs_C A 2 0 [(0, .ref (h 6)), (1, .int a0)] [] ((wG h cI cL) σ)
  refine gj_iload_n X d_Le_isEmpty_0 rfl 1 rfl ?_
  refine gj_callSNI (As := [.int a0]) (st := []) X (c_Gl_isNonterminal l dC dI h cI cL cZ σ a0 _ hC) ⟨gj_cwN X tw_249 tw_1 tn_311 hd_Gl_isNonterminal rfl rfl ⟨Nat.le_of_ble_eq_true rfl, Nat.le_of_ble_eq_true rfl⟩, X.2.2.2.2.1 _ tw_248, trivial⟩ hA rfl (Nat.le_of_ble_eq_true rfl) ⟨Nat.zero_le _, Nat.zero_le _⟩ d_Le_isEmpty_1 rfl (fun r2 σ1 hC => ?_)
  obtain ⟨hC, hb⟩ := hC
  refine gj_if_eq (tgt := 20) X d_Le_isEmpty_4 (by decide) (fun c0 => ?_) (fun c0 => ?_)
  · have hC := hC.1 c0
    refine gj_iconst (v := 0) X d_Le_isEmpty_20 (by decide) ?_
    exact gj_zret X hr hlk (by decide) ⟨hC, Or.inl rfl⟩ d_Le_isEmpty_21
  · have hC := hC.2 c0
    refine gj_aload_n X d_Le_isEmpty_7 rfl 0 rfl ?_
    refine gj_get X inX4 6 rfl rfl 1 (by decide) tw_54 rfl rfl d_Le_isEmpty_8 ?_
    refine gj_iload_n X d_Le_isEmpty_11 rfl 1 rfl ?_
    refine gj_iald X 7 0 rfl rfl hC.1 d_Le_isEmpty_12 ?_
    have hC := hC.2
    refine gj_if_ne (tgt := 20) X d_Le_isEmpty_13 (by decide) (fun c0 => ?_) (fun c0 => ?_)
    · have hC := hC.1 c0
      refine gj_iconst (v := 0) X d_Le_isEmpty_20 (by decide) ?_
      exact gj_zret X hr hlk (by decide) ⟨hC, Or.inl rfl⟩ d_Le_isEmpty_21
    · have hC := hC.2 c0
      refine gj_iconst (v := 1) X d_Le_isEmpty_16 (by decide) ?_
      refine gj_goto (tgt := 21) X d_Le_isEmpty_17 (by decide) ?_
      exact gj_zret X hr hlk (by decide) ⟨hC, Or.inr rfl⟩ d_Le_isEmpty_21
abbrev rm_Ld_isEmptyBut : Room := { frames := 2, cells := 0, slots := 0, locals := 41 }
set_option maxHeartbeats 4000000 in
set_option maxRecDepth 100000 in
theorem c_Ld_isEmptyBut (l : Launch) (dC : Nat → ClassId) (dI : Nat → Nat → Nat) (h : Nat → Nat) (cI cL cZ : ClassId) (σ : gs_St) (a0 : Int32) (a1 : Int32) (K : Int32 → gs_St → Prop) (hC : C_Ld_isEmptyBut a0 a1 σ K) : gj_MI l y_Ld_isEmptyBut (gj_ws y_Ld_isEmptyBut b_Ld_isEmptyBut 4 (some .boolean)) rm_Ld_isEmptyBut (dC, dI) gs_C (gs_T cI cL cZ) ((wG h cI cL) σ) (wG h cI cL) [.ref (h 9), .int a0, .int a1] (fun r u => K r u ∧ (r = 0 ∨ r = 1)) := by
  refine gj_enterZ (by decide) (Nat.le_of_ble_eq_true rfl) (fun p e s m args below meth c A X hr hlk hA hnm => ?_)
  change gj_J p l e rm_Ld_isEmptyBut s m args below meth c 0 0 (MQ below (va_Qi (fun r u => K r u ∧ (r = 0 ∨ r = 1)) (gj_at (dC, dI) gs_C (gs_T cI cL cZ) (wG h cI cL) A) A) args s 0 0 A) (dC, dI) gs_C A 4 0 [(0, .ref (h 9)), (1, .int a0), (2, .int a1)] [] ((wG h cI cL) σ)
  have hC := hC
    (fun (v_1 : Int32) (v_2 : Int32) (v_3 : Int32) (σ : gs_St) => gj_J p l e rm_Ld_isEmptyBut s m args below meth c 0 0 (MQ below (va_Qi (fun r u => K r u ∧ (r = 0 ∨ r = 1)) (gj_at (dC, dI) gs_C (gs_T cI cL cZ) (wG h cI cL) A) A) args s 0 0 A) (dC, dI) gs_C A 4 2 [(0, .ref (h 9)), (1, .int v_1), (2, .int v_2), (3, .int v_3)] [] ((wG h cI cL) σ))
    (by
      intro v_1 v_2 v_3 σ hC
      refine gj_iload_n X d_Ld_isEmptyBut_2 rfl 3 rfl ?_
      refine gj_aload_n X d_Ld_isEmptyBut_3 rfl 0 rfl ?_
      refine gj_get X inX3 9 rfl rfl 0 (by decide) tw_69 rfl rfl d_Ld_isEmptyBut_4 ?_
      refine gj_iload_n X d_Ld_isEmptyBut_7 rfl 1 rfl ?_
      refine gj_callVI (As := [.int v_1]) (st := [.int v_3]) X (c_Gr_sizeOf l dC dI h cI cL cZ σ v_1 _ hC) ⟨gj_cwB X tw_280 tw_2 tw_324 hd_Gr_sizeOf rfl rfl ⟨Nat.le_of_ble_eq_true rfl, Nat.le_of_ble_eq_true rfl⟩, X.2.2.2.2.1 _ tw_278, X.2.2.2.2.1 _ tw_279⟩ 2 rfl rfl hA rfl (Nat.le_of_ble_eq_true rfl) ⟨Nat.zero_le _, Nat.zero_le _⟩ d_Ld_isEmptyBut_8 rfl (fun r2 σ1 hC => ?_)
      refine gj_icmp_ge (tgt := 46) X d_Ld_isEmptyBut_11 (by decide) (fun c0 => ?_) (fun c0 => ?_)
      · have hC := hC.1 c0
        refine gj_iconst (v := 1) X d_Ld_isEmptyBut_46 (by decide) ?_
        exact gj_zret X hr hlk (by decide) ⟨hC, Or.inr rfl⟩ d_Ld_isEmptyBut_47
      · have hC := hC.2 c0
        refine gj_iload_n X d_Ld_isEmptyBut_14 rfl 3 rfl ?_
        refine gj_iload_n X d_Ld_isEmptyBut_15 rfl 2 rfl ?_
        refine gj_icmp_eq (tgt := 40) X d_Ld_isEmptyBut_16 (by decide) (fun c0 => ?_) (fun c0 => ?_)
        · have hC := hC.1 c0
          obtain ⟨v3, ev3⟩ : ∃ y : Int32, y = v_3 + 1 := ⟨_, rfl⟩
          have hC := hC v3 ev3
          refine gj_iinc (v := v3) (L' := [(3, .int v3), (0, .ref (h 9)), (1, .int v_1), (2, .int v_2)]) X d_Ld_isEmptyBut_40 3 rfl (by rw [ev3]; rfl) (by decide) rfl ?_
          refine gj_goto (tgt := 2) X d_Ld_isEmptyBut_43 (by decide) ?_
          exact gj_loc [1, 2, 3, 0] rfl hC
        · have hC := hC.2 c0
          refine gj_aload_n X d_Ld_isEmptyBut_19 rfl 0 rfl ?_
          refine gj_get X inX3 9 rfl rfl 1 (by decide) tw_70 rfl rfl d_Ld_isEmptyBut_20 ?_
          refine gj_aload_n X d_Ld_isEmptyBut_23 rfl 0 rfl ?_
          refine gj_get X inX3 9 rfl rfl 0 (by decide) tw_69 rfl rfl d_Ld_isEmptyBut_24 ?_
          refine gj_iload_n X d_Ld_isEmptyBut_27 rfl 1 rfl ?_
          refine gj_iload_n X d_Ld_isEmptyBut_28 rfl 3 rfl ?_
          refine gj_callVI (As := [.int v_1, .int v_3]) (st := [.ref (h 6)]) X (c_Gr_symbolAt l dC dI h cI cL cZ σ1 v_1 v_3 _ hC) ⟨gj_cwB X tw_288 tw_2 tw_325 hd_Gr_symbolAt rfl rfl ⟨Nat.le_of_ble_eq_true rfl, Nat.le_of_ble_eq_true rfl⟩, X.2.2.2.2.1 _ tw_286, X.2.2.2.2.1 _ tw_287⟩ 2 rfl rfl hA rfl (Nat.le_of_ble_eq_true rfl) ⟨Nat.zero_le _, Nat.zero_le _⟩ d_Ld_isEmptyBut_29 rfl (fun r5 σ4 hC => ?_)
          refine gj_callVI (As := [.int r5]) (st := []) X (c_Le_isEmpty l dC dI h cI cL cZ σ4 r5 _ hC) ⟨gj_cwB X tw_334 tw_3 tw_331 hd_Le_isEmpty rfl rfl ⟨Nat.le_of_ble_eq_true rfl, Nat.le_of_ble_eq_true rfl⟩, X.2.2.2.2.1 _ tw_332, X.2.2.2.2.1 _ tw_333⟩ 6 rfl rfl hA rfl (Nat.le_of_ble_eq_true rfl) ⟨Nat.zero_le _, Nat.zero_le _⟩ d_Ld_isEmptyBut_32 rfl (fun r7 σ6 hC => ?_)
          obtain ⟨hC, hb⟩ := hC
          refine gj_if_ne (tgt := 40) X d_Ld_isEmptyBut_35 (by decide) (fun c0 => ?_) (fun c0 => ?_)
          · have hC := hC.1 c0
            obtain ⟨v8, ev8⟩ : ∃ y : Int32, y = v_3 + 1 := ⟨_, rfl⟩
            have hC := hC v8 ev8
            refine gj_iinc (v := v8) (L' := [(3, .int v8), (0, .ref (h 9)), (1, .int v_1), (2, .int v_2)]) X d_Ld_isEmptyBut_40 3 rfl (by rw [ev8]; rfl) (by decide) rfl ?_
            refine gj_goto (tgt := 2) X d_Ld_isEmptyBut_43 (by decide) ?_
            exact gj_loc [1, 2, 3, 0] rfl hC
          · have hC := hC.2 c0
            refine gj_iconst (v := 0) X d_Ld_isEmptyBut_38 (by decide) ?_
            exact gj_zret X hr hlk (by decide) ⟨hC, Or.inl rfl⟩ d_Ld_isEmptyBut_39)
  refine gj_iconst (v := 0) X d_Ld_isEmptyBut_0 (by decide) ?_
  refine gj_istore_n (L' := [(3, .int (0 : Int32)), (0, .ref (h 9)), (1, .int a0), (2, .int a1)]) X d_Ld_isEmptyBut_1 rfl (by decide) rfl ?_
  exact gj_loc [1, 2, 3, 0] rfl hC
