abbrev rm_We_unfold : Room := { frames := 3, cells := 0, slots := 0, locals := 84 }
set_option maxHeartbeats 4000000 in
set_option maxRecDepth 100000 in
theorem c_We_unfold (l : Launch) (dC : Nat → ClassId) (dI : Nat → Nat → Nat) (h : Nat → Nat) (cI cL cZ : ClassId) (σ : gs_St) (a0 : Int32) (a1 : Int32) (a2 : Int64) (K : Int32 → gs_St → Prop) (hC : C_We_unfold a0 a1 a2 σ K) : gj_MI l y_We_unfold (gj_ws y_We_unfold b_We_unfold 10 (some .boolean)) rm_We_unfold (dC, dI) gs_C (gs_T cI cL cZ) ((wG h cI cL) σ) (wG h cI cL) [.ref (h 22), .int a0, .int a1, .long a2] (fun r u => K r u ∧ (r = 0 ∨ r = 1)) := by
  refine gj_enterZ (by decide) (Nat.le_of_ble_eq_true rfl) (fun p e s m args below meth c A X hr hlk hA hnm => ?_)
  change gj_J p l e rm_We_unfold s m args below meth c 0 0 (MQ below (va_Qi (fun r u => K r u ∧ (r = 0 ∨ r = 1)) (gj_at (dC, dI) gs_C (gs_T cI cL cZ) (wG h cI cL) A) A) args s 0 0 A) (dC, dI) gs_C A 10 0 [(0, .ref (h 22)), (1, .int a0), (2, .int a1), (3, .long a2)] [] ((wG h cI cL) σ)
  have hC := hC
    (fun (v_1 : Int32) (v_2 : Int32) (v_5 : Int64) (v_7 : Int32) (σ : gs_St) => gj_J p l e rm_We_unfold s m args below meth c 0 0 (MQ below (va_Qi (fun r u => K r u ∧ (r = 0 ∨ r = 1)) (gj_at (dC, dI) gs_C (gs_T cI cL cZ) (wG h cI cL) A) A) args s 0 0 A) (dC, dI) gs_C A 10 6 [(0, .ref (h 22)), (1, .int v_1), (2, .int v_2), (5, .long v_5), (7, .int v_7)] [] ((wG h cI cL) σ))
    (by
      intro v_1 v_2 v_5 v_7 σ hC
      refine gj_iload X d_We_unfold_6 4 rfl ?_
      refine gj_aload_n X d_We_unfold_8 rfl 0 rfl ?_
      refine gj_get X inX7 22 rfl rfl 0 (by decide) tw_166 rfl rfl d_We_unfold_9 ?_
      refine gj_getN X inX2 2 rfl rfl 3 (by decide) tn_34 rfl rfl d_We_unfold_12 ?_
      refine gj_icmp_ge (tgt := 75) X d_We_unfold_15 (by decide) (fun c0 => ?_) (fun c0 => ?_)
      · have hC := hC.1 c0
        refine gj_iconst (v := 0) X d_We_unfold_75 (by decide) ?_
        exact gj_zret X hr hlk (by decide) ⟨hC, Or.inl rfl⟩ d_We_unfold_76
      · have hC := hC.2 c0
        refine gj_aload_n X d_We_unfold_18 rfl 0 rfl ?_
        refine gj_get X inX7 22 rfl rfl 0 (by decide) tw_166 rfl rfl d_We_unfold_19 ?_
        refine gj_iload X d_We_unfold_22 4 rfl ?_
        refine gj_callVI (As := [.int v_7]) (st := []) X (c_Gr_leftOf l dC dI h cI cL cZ σ v_7 _ hC) ⟨gj_cwB X tw_284 tw_2 tw_456 hd_Gr_leftOf rfl rfl ⟨Nat.le_of_ble_eq_true rfl, Nat.le_of_ble_eq_true rfl⟩, X.2.2.2.2.1 _ tw_282, X.2.2.2.2.1 _ tw_283⟩ 2 rfl rfl hA rfl (Nat.le_of_ble_eq_true rfl) ⟨Nat.zero_le _, Nat.zero_le _⟩ d_We_unfold_24 rfl (fun r2 σ1 hC => ?_)
        refine gj_iload_n X d_We_unfold_27 rfl 1 rfl ?_
        refine gj_icmp_ne (tgt := 69) X d_We_unfold_28 (by decide) (fun c0 => ?_) (fun c0 => ?_)
        · have hC := hC.1 c0
          obtain ⟨v3, ev3⟩ : ∃ y : Int32, y = v_7 + 1 := ⟨_, rfl⟩
          have hC := hC v3 ev3
          refine gj_iinc (v := v3) (L' := [(7, .int v3), (0, .ref (h 22)), (1, .int v_1), (2, .int v_2), (5, .long v_5)]) X d_We_unfold_69 4 rfl (by rw [ev3]; rfl) (by decide) rfl ?_
          refine gj_goto (tgt := 6) X d_We_unfold_72 (by decide) ?_
          exact gj_loc [1, 2, 3, 4, 0] rfl hC
        · have hC := hC.2 c0
          refine gj_aload_n X d_We_unfold_31 rfl 0 rfl ?_
          refine gj_get X inX7 22 rfl rfl 1 (by decide) tw_167 rfl rfl d_We_unfold_32 ?_
          refine gj_iload X d_We_unfold_35 4 rfl ?_
          refine gj_iconst (v := 0) X d_We_unfold_37 (by decide) ?_
          refine gj_iload_n X d_We_unfold_38 rfl 2 rfl ?_
          refine gj_callVL (As := [.int v_7, .int (0 : Int32), .int v_2]) (st := []) X (c_Co_endingsOf l dC dI h cI cL cZ σ1 v_7 (0 : Int32) v_2 _ hC) ⟨gj_cwB X tw_414 tw_5 tw_457 hd_Co_endingsOf rfl rfl ⟨Nat.le_of_ble_eq_true rfl, Nat.le_of_ble_eq_true rfl⟩, X.2.2.2.2.1 _ tw_412, X.2.2.2.2.1 _ tw_413⟩ 12 rfl rfl hA rfl (Nat.le_of_ble_eq_true rfl) ⟨Nat.zero_le _, Nat.zero_le _⟩ d_We_unfold_39 rfl (fun r5 σ4 hC => ?_)
          refine gj_lstore (L' := [(8, .long r5), (0, .ref (h 22)), (1, .int v_1), (2, .int v_2), (5, .long v_5), (7, .int v_7)]) X d_We_unfold_42 (by decide) rfl ?_
          refine gj_lload X d_We_unfold_44 4 rfl ?_
          refine gj_lload X d_We_unfold_46 0 rfl ?_
          refine gj_lcmp_ge (tgt := 62) X d_We_unfold_48 d_We_unfold_49 (by decide) (fun c0 => ?_) (fun c0 => ?_)
          · have hC := hC.1 c0
            refine gj_lload X d_We_unfold_62 4 rfl ?_
            refine gj_lload X d_We_unfold_64 0 rfl ?_
            refine gj_lsub X d_We_unfold_66 ?_
            refine gj_topl (fun v6 ev6 => ?_)
            have hC := hC v6 ev6
            refine gj_lstore (L' := [(5, .long v6), (8, .long r5), (0, .ref (h 22)), (1, .int v_1), (2, .int v_2), (7, .int v_7)]) X d_We_unfold_67 (by decide) rfl ?_
            obtain ⟨v7, ev7⟩ : ∃ y : Int32, y = v_7 + 1 := ⟨_, rfl⟩
            have hC := hC v7 ev7
            refine gj_iinc (v := v7) (L' := [(7, .int v7), (5, .long v6), (8, .long r5), (0, .ref (h 22)), (1, .int v_1), (2, .int v_2)]) X d_We_unfold_69 5 rfl (by rw [ev7]; rfl) (by decide) rfl ?_
            refine gj_goto (tgt := 6) X d_We_unfold_72 (by decide) ?_
            exact gj_loc [3, 4, 5, 1, 0] rfl hC
          · have hC := hC.2 c0
            refine gj_aload_n X d_We_unfold_52 rfl 1 rfl ?_
            refine gj_iload X d_We_unfold_53 5 rfl ?_
            refine gj_iload_n X d_We_unfold_55 rfl 3 rfl ?_
            refine gj_lload X d_We_unfold_56 4 rfl ?_
            refine gj_callVI (As := [.int v_7, .int v_2, .long v_5]) (st := []) X (c_We_unfoldRule l dC dI h cI cL cZ σ4 v_7 v_2 v_5 _ hC) ⟨gj_cwB X tw_461 tw_7 tw_458 hd_We_unfoldRule rfl rfl ⟨Nat.le_of_ble_eq_true rfl, Nat.le_of_ble_eq_true rfl⟩, X.2.2.2.2.1 _ tw_460, X.2.2.2.2.1 _ ts_11⟩ 22 rfl rfl hA rfl (Nat.le_of_ble_eq_true rfl) ⟨Nat.zero_le _, Nat.zero_le _⟩ d_We_unfold_58 rfl (fun r9 σ8 hC => ?_)
            obtain ⟨hC, hb⟩ := hC
            exact gj_zret X hr hlk (gj_nz hb) ⟨hC, hb⟩ d_We_unfold_61)
  refine gj_lload_n X d_We_unfold_0 rfl 3 rfl ?_
  refine gj_lstore (L' := [(5, .long a2), (0, .ref (h 22)), (1, .int a0), (2, .int a1), (3, .long a2)]) X d_We_unfold_1 (by decide) rfl ?_
  refine gj_iconst (v := 0) X d_We_unfold_3 (by decide) ?_
  refine gj_istore (L' := [(7, .int (0 : Int32)), (5, .long a2), (0, .ref (h 22)), (1, .int a0), (2, .int a1), (3, .long a2)]) X d_We_unfold_4 (by decide) rfl ?_
  exact gj_loc [2, 3, 4, 1, 0] rfl hC
abbrev rm_Dr_addLeaf : Room := { frames := 0, cells := 0, slots := 0, locals := 0 }
set_option maxHeartbeats 4000000 in
set_option maxRecDepth 100000 in
theorem c_Dr_addLeaf (l : Launch) (dC : Nat → ClassId) (dI : Nat → Nat → Nat) (h : Nat → Nat) (cI cL cZ : ClassId) (σ : gs_St) (a0 : Int32) (K : gs_St → Prop) (hC : C_Dr_addLeaf a0 σ K) : gj_MV 0 0 l y_Dr_addLeaf (gj_ws y_Dr_addLeaf b_Dr_addLeaf 2 (none)) rm_Dr_addLeaf (dC, dI) gs_C (gs_T cI cL cZ) ((wG h cI cL) σ) (wG h cI cL) [.ref (h 26), .int a0] K := by
  refine gj_enterV (by decide) (Nat.le_of_ble_eq_true rfl) (fun p e s m args below meth c A X hr hlk hA hnm => ?_)
  change gj_J p l e rm_Dr_addLeaf s m args below meth c 0 0 (MQ below (va_Qv K (gj_at (dC, dI) gs_C (gs_T cI cL cZ) (wG h cI cL) A) A) args s 0 0 A) (dC, dI) gs_C A 2 0 [(0, .ref (h 26)), (1, .int a0)] [] ((wG h cI cL) σ)
  refine gj_aload_n X d_Dr_addLeaf_0 rfl 0 rfl ?_
  refine gj_get X inX1 26 rfl rfl 3 (by decide) tw_155 rfl rfl d_Dr_addLeaf_1 ?_
  refine gj_bipush (v := 16) X d_Dr_addLeaf_4 (by decide) ?_
  refine gj_icmp_ge (tgt := 29) X d_Dr_addLeaf_6 (by decide) (fun c0 => ?_) (fun c0 => ?_)
  · have hC := hC.1 c0
    exact gj_vret X hr hlk hC d_Dr_addLeaf_29
  · have hC := hC.2 c0
    refine gj_aload_n X d_Dr_addLeaf_9 rfl 0 rfl ?_
    refine gj_get X inX1 26 rfl rfl 1 (by decide) tw_151 rfl rfl d_Dr_addLeaf_10 ?_
    refine gj_aload_n X d_Dr_addLeaf_13 rfl 0 rfl ?_
    refine gj_get X inX1 26 rfl rfl 3 (by decide) tw_155 rfl rfl d_Dr_addLeaf_14 ?_
    refine gj_iload_n X d_Dr_addLeaf_17 rfl 1 rfl ?_
    refine gj_iast (w' := (wG h cI cL) (gs_A σ 13 (upd (σ.2.1 13) (σ.1 13).toNatClampNeg a0))) X 28 0 rfl rfl hC.1 (set_wG_A13 h cI cL σ _) d_Dr_addLeaf_18 ?_
    refine gj_topw (wof := (wG h cI cL)) (fun σ1 eσ1 => ?_)
    have hC := hC.2 σ1 eσ1
    refine gj_aload_n X d_Dr_addLeaf_19 rfl 0 rfl ?_
    refine gj_dup X d_Dr_addLeaf_20 rfl ?_
    refine gj_get X inX1 26 rfl rfl 3 (by decide) tw_155 rfl rfl d_Dr_addLeaf_21 ?_
    refine gj_iconst (v := 1) X d_Dr_addLeaf_24 (by decide) ?_
    refine gj_iadd X d_Dr_addLeaf_25 ?_
    refine gj_put (w' := (wG h cI cL) (gs_I σ1 13 ((σ1.1 13) + (1 : Int32)))) X inX1 tyX1 tyX1_ok nmX1 26 rfl rfl 3 (by decide) tw_155 rfl rfl (tyX1_ok 3 (by decide)) rfl rfl (Nat.le_of_ble_eq_true rfl) (set_wG_I13 h cI cL σ1 _) d_Dr_addLeaf_26 ?_
    refine gj_topw (wof := (wG h cI cL)) (fun σ2 eσ2 => ?_)
    have hC := hC σ2 eσ2
    exact gj_vret X hr hlk hC d_Dr_addLeaf_29
abbrev rm_We_weave : Room := { frames := 4, cells := 0, slots := 0, locals := 113 }
set_option maxHeartbeats 4000000 in
set_option maxRecDepth 100000 in
theorem c_We_weave (l : Launch) (dC : Nat → ClassId) (dI : Nat → Nat → Nat) (h : Nat → Nat) (cI cL cZ : ClassId) (σ : gs_St) (a0 : Int32) (a1 : Int32) (a2 : Int64) (K : Int32 → (gs_St × Bool) → Prop) (hC : C_We_weave a0 a1 a2 σ K) : gj_MI l y_We_weave (gj_ws y_We_weave b_We_weave 7 (some .int)) rm_We_weave (dC, dI) gs_C (gs_T cI cL cZ) ((wG h cI cL) σ) (wGb h cI cL) [.ref (h 22), .int a0, .int a1, .long a2] K := by
  refine gj_enterI (by decide) (Nat.le_of_ble_eq_true rfl) (fun p e s m args below meth c A X hr hlk hA hnm => ?_)
  change gj_J p l e rm_We_weave s m args below meth c 0 0 (MQ below (va_Qi K (gj_at (dC, dI) gs_C (gs_T cI cL cZ) (wGb h cI cL) A) A) args s 0 0 A) (dC, dI) gs_C A 7 0 [(0, .ref (h 22)), (1, .int a0), (2, .int a1), (3, .long a2)] [] ((wG h cI cL) σ)
  have hC := hC
    (fun (v_5 : Int32) (σ : gs_St) => gj_J p l e rm_We_weave s m args below meth c 0 0 (MQ below (va_Qi K (gj_at (dC, dI) gs_C (gs_T cI cL cZ) (wGb h cI cL) A) A) args s 0 0 A) (dC, dI) gs_C A 7 34 [(0, .ref (h 22)), (5, .int v_5)] [] ((wG h cI cL) σ))
    (by
      intro v_5 σ hC
      refine gj_iload X d_We_weave_34 1 rfl ?_
      refine gj_sipush (v := 216) X d_We_weave_36 (by decide) ?_
      refine gj_icmp_ge (tgt := 150) X d_We_weave_39 (by decide) (fun c0 => ?_) (fun c0 => ?_)
      · have hC := hC.1 c0
        refine gj_aload_n X d_We_weave_150 rfl 0 rfl ?_
        refine gj_get X inX7 22 rfl rfl 3 (by decide) tw_169 rfl rfl d_We_weave_151 ?_
        refine gj_astore (L' := [(5, .ref (h 23)), (0, .ref (h 22))]) X d_We_weave_154 (by decide) rfl ?_
        refine gj_aload_n X d_We_weave_156 rfl 1 rfl ?_
        refine gj_aload_n X d_We_weave_157 rfl 1 rfl ?_
        refine gj_get X inX7 22 rfl rfl 4 (by decide) tw_170 rfl rfl d_We_weave_158 ?_
        refine gj_put (w' := wX h (h 26) (h 26) cI cL σ) X inX7 tyX7 tyX7_ok nmX7 22 rfl rfl 3 (by decide) tw_169 rfl rfl (tyX7_ok 3 (by decide)) rfl rfl (Nat.le_of_ble_eq_true rfl) rfl d_We_weave_161 ?_
        refine gj_aload_n X d_We_weave_164 rfl 1 rfl ?_
        refine gj_aload X d_We_weave_165 0 rfl ?_
        refine gj_put (w' := wX h (h 26) (h 23) cI cL σ) X inX7 tyX7 tyX7_ok nmX7 22 rfl rfl 4 (by decide) tw_170 rfl rfl (tyX7_ok 4 (by decide)) rfl rfl (Nat.le_of_ble_eq_true rfl) rfl d_We_weave_167 ?_
        refine gj_sub (w' := wG (gs_sw h) cI cL (gs_sS σ)) [0, 1, 2, 3, 4, 5, 6, 7, 8, 9, 10, 11, 12, 13, 14, 15, 16, 17, 18, 19, 20, 21, 22, 26, 27, 28, 23, 24, 25, 29, 30] (by decide) rfl ?_
        refine gj_aload_n X d_We_weave_170 rfl 1 rfl ?_
        refine gj_get X inX7 22 rfl rfl 3 (by decide) tw_169 rfl rfl d_We_weave_171 ?_
        refine gj_getN X inX1 23 rfl rfl 2 (by decide) tn_154 rfl rfl d_We_weave_174 ?_
        exact gj_iret (wof := (wGb h cI cL)) (u := (gs_sS σ, true)) X hr hlk hC d_We_weave_177
      · have hC := hC.2 c0
        refine gj_aload_n X d_We_weave_42 rfl 0 rfl ?_
        refine gj_get X inX7 22 rfl rfl 2 (by decide) tw_168 rfl rfl d_We_weave_43 ?_
        refine gj_getN X inX6 18 rfl rfl 3 (by decide) tn_127 rfl rfl d_We_weave_46 ?_
        refine gj_if_le (tgt := 150) X d_We_weave_49 (by decide) (fun c0 => ?_) (fun c0 => ?_)
        · have hC := hC.1 c0
          refine gj_aload_n X d_We_weave_150 rfl 0 rfl ?_
          refine gj_get X inX7 22 rfl rfl 3 (by decide) tw_169 rfl rfl d_We_weave_151 ?_
          refine gj_astore (L' := [(5, .ref (h 23)), (0, .ref (h 22))]) X d_We_weave_154 (by decide) rfl ?_
          refine gj_aload_n X d_We_weave_156 rfl 1 rfl ?_
          refine gj_aload_n X d_We_weave_157 rfl 1 rfl ?_
          refine gj_get X inX7 22 rfl rfl 4 (by decide) tw_170 rfl rfl d_We_weave_158 ?_
          refine gj_put (w' := wX h (h 26) (h 26) cI cL σ) X inX7 tyX7 tyX7_ok nmX7 22 rfl rfl 3 (by decide) tw_169 rfl rfl (tyX7_ok 3 (by decide)) rfl rfl (Nat.le_of_ble_eq_true rfl) rfl d_We_weave_161 ?_
          refine gj_aload_n X d_We_weave_164 rfl 1 rfl ?_
          refine gj_aload X d_We_weave_165 0 rfl ?_
          refine gj_put (w' := wX h (h 26) (h 23) cI cL σ) X inX7 tyX7 tyX7_ok nmX7 22 rfl rfl 4 (by decide) tw_170 rfl rfl (tyX7_ok 4 (by decide)) rfl rfl (Nat.le_of_ble_eq_true rfl) rfl d_We_weave_167 ?_
          refine gj_sub (w' := wG (gs_sw h) cI cL (gs_sS σ)) [0, 1, 2, 3, 4, 5, 6, 7, 8, 9, 10, 11, 12, 13, 14, 15, 16, 17, 18, 19, 20, 21, 22, 26, 27, 28, 23, 24, 25, 29, 30] (by decide) rfl ?_
          refine gj_aload_n X d_We_weave_170 rfl 1 rfl ?_
          refine gj_get X inX7 22 rfl rfl 3 (by decide) tw_169 rfl rfl d_We_weave_171 ?_
          refine gj_getN X inX1 23 rfl rfl 2 (by decide) tn_154 rfl rfl d_We_weave_174 ?_
          exact gj_iret (wof := (wGb h cI cL)) (u := (gs_sS σ, true)) X hr hlk hC d_We_weave_177
        · have hC := hC.2 c0
          refine gj_aload_n X d_We_weave_52 rfl 0 rfl ?_
          refine gj_get X inX7 22 rfl rfl 2 (by decide) tw_168 rfl rfl d_We_weave_53 ?_
          refine gj_dup X d_We_weave_56 rfl ?_
          refine gj_getN X inX6 18 rfl rfl 3 (by decide) tn_127 rfl rfl d_We_weave_57 ?_
          refine gj_iconst (v := 1) X d_We_weave_60 (by decide) ?_
          refine gj_isub X d_We_weave_61 ?_
          refine gj_putN (w' := (wG h cI cL) (gs_I σ 8 ((σ.1 8) - (1 : Int32)))) X inX6 tyX6 tyX6_ok nmX6 18 rfl rfl 3 (by decide) tn_127 rfl rfl (tyX6_ok 3 (by decide)) rfl rfl (Nat.le_of_ble_eq_true rfl) (set_wG_I8 h cI cL σ _) d_We_weave_62 ?_
          refine gj_topw (wof := (wG h cI cL)) (fun σ5 eσ5 => ?_)
          have hC := hC σ5 eσ5
          refine gj_aload_n X d_We_weave_65 rfl 0 rfl ?_
          refine gj_get X inX7 22 rfl rfl 2 (by decide) tw_168 rfl rfl d_We_weave_66 ?_
          refine gj_getN X inX6 18 rfl rfl 0 (by decide) tn_119 rfl rfl d_We_weave_69 ?_
          refine gj_aload_n X d_We_weave_72 rfl 0 rfl ?_
          refine gj_get X inX7 22 rfl rfl 2 (by decide) tw_168 rfl rfl d_We_weave_73 ?_
          refine gj_getN X inX6 18 rfl rfl 3 (by decide) tn_127 rfl rfl d_We_weave_76 ?_
          refine gj_iald X 19 0 rfl rfl hC.1 d_We_weave_79 ?_
          have hC := hC.2
          refine gj_topi (fun v6 ev6 => ?_)
          have hC := hC v6 ev6
          refine gj_istore (L' := [(6, .int v6), (0, .ref (h 22)), (5, .int v_5)]) X d_We_weave_80 (by decide) rfl ?_
          refine gj_iload X d_We_weave_82 0 rfl ?_
          refine gj_callSNI (As := [.int v6]) (st := []) X (c_Gl_isNonterminal l dC dI h cI cL cZ σ5 v6 _ hC) ⟨gj_cwN X tw_249 tw_1 tn_447 hd_Gl_isNonterminal rfl rfl ⟨Nat.le_of_ble_eq_true rfl, Nat.le_of_ble_eq_true rfl⟩, X.2.2.2.2.1 _ tw_248, trivial⟩ hA rfl (Nat.le_of_ble_eq_true rfl) ⟨Nat.zero_le _, Nat.zero_le _⟩ d_We_weave_84 rfl (fun r8 σ7 hC => ?_)
          obtain ⟨hC, hb⟩ := hC
          refine gj_if_ne (tgt := 102) X d_We_weave_87 (by decide) (fun c0 => ?_) (fun c0 => ?_)
          · have hC := hC.1 c0
            refine gj_aload_n X d_We_weave_102 rfl 1 rfl ?_
            refine gj_iload X d_We_weave_103 0 rfl ?_
            refine gj_aload_n X d_We_weave_105 rfl 1 rfl ?_
            refine gj_get X inX7 22 rfl rfl 2 (by decide) tw_168 rfl rfl d_We_weave_106 ?_
            refine gj_getN X inX6 18 rfl rfl 1 (by decide) tn_121 rfl rfl d_We_weave_109 ?_
            refine gj_aload_n X d_We_weave_112 rfl 1 rfl ?_
            refine gj_get X inX7 22 rfl rfl 2 (by decide) tw_168 rfl rfl d_We_weave_113 ?_
            refine gj_getN X inX6 18 rfl rfl 3 (by decide) tn_127 rfl rfl d_We_weave_116 ?_
            refine gj_iald X 20 0 rfl rfl hC.1 d_We_weave_119 ?_
            have hC := hC.2
            refine gj_aload_n X d_We_weave_120 rfl 1 rfl ?_
            refine gj_get X inX7 22 rfl rfl 2 (by decide) tw_168 rfl rfl d_We_weave_121 ?_
            refine gj_getN X inX6 18 rfl rfl 2 (by decide) tn_125 rfl rfl d_We_weave_124 ?_
            refine gj_aload_n X d_We_weave_127 rfl 1 rfl ?_
            refine gj_get X inX7 22 rfl rfl 2 (by decide) tw_168 rfl rfl d_We_weave_128 ?_
            refine gj_getN X inX6 18 rfl rfl 3 (by decide) tn_127 rfl rfl d_We_weave_131 ?_
            refine gj_lald X 21 1 rfl rfl hC.1 d_We_weave_134 ?_
            have hC := hC.2
            refine gj_callVI (As := [.int v6, .int (σ7.2.1 9 (σ7.1 8).toNatClampNeg), .long (σ7.2.2 4 (σ7.1 8).toNatClampNeg)]) (st := []) X (c_We_unfold l dC dI h cI cL cZ σ7 v6 (σ7.2.1 9 (σ7.1 8).toNatClampNeg) (σ7.2.2 4 (σ7.1 8).toNatClampNeg) _ hC) ⟨gj_cwB X tw_455 tw_7 tw_452 hd_We_unfold rfl rfl ⟨Nat.le_of_ble_eq_true rfl, Nat.le_of_ble_eq_true rfl⟩, X.2.2.2.2.1 _ tw_454, X.2.2.2.2.1 _ ts_10⟩ 22 rfl rfl hA rfl (Nat.le_of_ble_eq_true rfl) ⟨Nat.zero_le _, Nat.zero_le _⟩ d_We_weave_135 rfl (fun r10 σ9 hC => ?_)
            obtain ⟨hC, hb⟩ := hC
            refine gj_if_ne (tgt := 144) X d_We_weave_138 (by decide) (fun c0 => ?_) (fun c0 => ?_)
            · have hC := hC.1 c0
              obtain ⟨v11, ev11⟩ : ∃ y : Int32, y = v_5 + 1 := ⟨_, rfl⟩
              have hC := hC v11 ev11
              refine gj_iinc (v := v11) (L' := [(5, .int v11), (6, .int v6), (0, .ref (h 22))]) X d_We_weave_144 2 rfl (by rw [ev11]; rfl) (by decide) rfl ?_
              refine gj_goto (tgt := 34) X d_We_weave_147 (by decide) ?_
              exact gj_loc [2, 0] rfl hC
            · have hC := hC.2 c0
              refine gj_bipush (v := -2) X d_We_weave_141 (by decide) ?_
              exact gj_iret (wof := (wGb h cI cL)) (u := (σ9, false)) X hr hlk hC d_We_weave_143
          · have hC := hC.2 c0
            refine gj_aload_n X d_We_weave_90 rfl 1 rfl ?_
            refine gj_get X inX7 22 rfl rfl 4 (by decide) tw_170 rfl rfl d_We_weave_91 ?_
            refine gj_iload X d_We_weave_94 0 rfl ?_
            refine gj_callVV (As := [.int v6]) (st := []) X (c_Dr_addLeaf l dC dI h cI cL cZ σ7 v6 _ hC) ⟨gj_cwB X tw_451 tw_8 tw_448 hd_Dr_addLeaf rfl rfl ⟨Nat.le_of_ble_eq_true rfl, Nat.le_of_ble_eq_true rfl⟩, X.2.2.2.2.1 _ tw_449, X.2.2.2.2.1 _ tw_450⟩ 26 rfl rfl hA rfl (Nat.le_of_ble_eq_true rfl) ⟨Nat.zero_le _, Nat.zero_le _⟩ d_We_weave_96 rfl (fun σ12 hC => ?_)
            refine gj_goto (tgt := 144) X d_We_weave_99 (by decide) ?_
            obtain ⟨v13, ev13⟩ : ∃ y : Int32, y = v_5 + 1 := ⟨_, rfl⟩
            have hC := hC v13 ev13
            refine gj_iinc (v := v13) (L' := [(5, .int v13), (6, .int v6), (0, .ref (h 22))]) X d_We_weave_144 2 rfl (by rw [ev13]; rfl) (by decide) rfl ?_
            refine gj_goto (tgt := 34) X d_We_weave_147 (by decide) ?_
            exact gj_loc [2, 0] rfl hC)
  refine gj_aload_n X d_We_weave_0 rfl 0 rfl ?_
  refine gj_get X inX7 22 rfl rfl 4 (by decide) tw_170 rfl rfl d_We_weave_1 ?_
  refine gj_callVV (As := []) (st := []) X (c_Dr_clear l dC dI h cI cL cZ σ _ hC) ⟨gj_cwB X tw_442 tw_8 tw_439 hd_Dr_clear rfl rfl ⟨Nat.le_of_ble_eq_true rfl, Nat.le_of_ble_eq_true rfl⟩, X.2.2.2.2.1 _ tw_440, X.2.2.2.2.1 _ tw_441⟩ 26 rfl rfl hA rfl (Nat.le_of_ble_eq_true rfl) ⟨Nat.zero_le _, Nat.zero_le _⟩ d_We_weave_4 rfl (fun σ1 hC => ?_)
  refine gj_aload_n X d_We_weave_7 rfl 0 rfl ?_
  refine gj_get X inX7 22 rfl rfl 2 (by decide) tw_168 rfl rfl d_We_weave_8 ?_
  refine gj_iconst (v := 0) X d_We_weave_11 (by decide) ?_
  refine gj_iload_n X d_We_weave_12 rfl 1 rfl ?_
  refine gj_iload_n X d_We_weave_13 rfl 2 rfl ?_
  refine gj_lload_n X d_We_weave_14 rfl 3 rfl ?_
  refine gj_callVV (As := [.int (0 : Int32), .int a0, .int a1, .long a2]) (st := []) X (c_Pi_put l dC dI h cI cL cZ σ1 (0 : Int32) a0 a1 a2 _ hC) ⟨gj_cwB X tw_446 tw_6 tw_443 hd_Pi_put rfl rfl ⟨Nat.le_of_ble_eq_true rfl, Nat.le_of_ble_eq_true rfl⟩, X.2.2.2.2.1 _ tw_444, X.2.2.2.2.1 _ tw_445⟩ 18 rfl rfl hA rfl (Nat.le_of_ble_eq_true rfl) ⟨Nat.zero_le _, Nat.zero_le _⟩ d_We_weave_15 rfl (fun σ2 hC => ?_)
  refine gj_aload_n X d_We_weave_18 rfl 0 rfl ?_
  refine gj_get X inX7 22 rfl rfl 2 (by decide) tw_168 rfl rfl d_We_weave_19 ?_
  refine gj_iconst (v := 1) X d_We_weave_22 (by decide) ?_
  refine gj_putN (w' := (wG h cI cL) (gs_I σ2 8 (1 : Int32))) X inX6 tyX6 tyX6_ok nmX6 18 rfl rfl 3 (by decide) tn_127 rfl rfl (tyX6_ok 3 (by decide)) rfl rfl (Nat.le_of_ble_eq_true rfl) (set_wG_I8 h cI cL σ2 _) d_We_weave_23 ?_
  refine gj_topw (wof := (wG h cI cL)) (fun σ3 eσ3 => ?_)
  have hC := hC σ3 eσ3
  refine gj_aload_n X d_We_weave_26 rfl 0 rfl ?_
  refine gj_iconst (v := 1) X d_We_weave_27 (by decide) ?_
  refine gj_put (w' := (wG h cI cL) (gs_I σ3 9 (1 : Int32))) X inX7 tyX7 tyX7_ok nmX7 22 rfl rfl 5 (by decide) tw_171 rfl rfl (tyX7_ok 5 (by decide)) rfl rfl (Nat.le_of_ble_eq_true rfl) (set_wG_I9 h cI cL σ3 _) d_We_weave_28 ?_
  refine gj_topw (wof := (wG h cI cL)) (fun σ4 eσ4 => ?_)
  have hC := hC σ4 eσ4
  refine gj_iconst (v := 0) X d_We_weave_31 (by decide) ?_
  refine gj_istore (L' := [(5, .int (0 : Int32)), (0, .ref (h 22)), (1, .int a0), (2, .int a1), (3, .long a2)]) X d_We_weave_32 (by decide) rfl ?_
  exact gj_loc [1, 0] rfl hC
abbrev rm_Gl_draw : Room := { frames := 7, cells := 0, slots := 0, locals := 165 }
set_option maxHeartbeats 4000000 in
set_option maxRecDepth 100000 in
theorem c_Gl_draw (l : Launch) (dC : Nat → ClassId) (dI : Nat → Nat → Nat) (h : Nat → Nat) (cI cL cZ : ClassId) (σ : gs_St) (a0 : Int32) (a1 : Int32) (a2 : Int64) (K : Int32 → (gs_St × Bool) → Prop) (hC : C_Gl_draw a0 a1 a2 σ K) : gj_MI l y_Gl_draw (gj_ws y_Gl_draw b_Gl_draw 5 (some .int)) rm_Gl_draw (dC, dI) gs_C (gs_T cI cL cZ) ((wG h cI cL) σ) (wGb h cI cL) [.ref (h 0), .int a0, .int a1, .long a2] K := by
  refine gj_enterI (by decide) (Nat.le_of_ble_eq_true rfl) (fun p e s m args below meth c A X hr hlk hA hnm => ?_)
  change gj_J p l e rm_Gl_draw s m args below meth c 0 0 (MQ below (va_Qi K (gj_at (dC, dI) gs_C (gs_T cI cL cZ) (wGb h cI cL) A) A) args s 0 0 A) (dC, dI) gs_C A 5 0 [(0, .ref (h 0)), (1, .int a0), (2, .int a1), (3, .long a2)] [] ((wG h cI cL) σ)
  refine gj_lload_n X d_Gl_draw_0 rfl 3 rfl ?_
  refine gj_lconst (v := 0) X d_Gl_draw_1 (by decide) ?_
  refine gj_lcmp_lt (tgt := 17) X d_Gl_draw_2 d_Gl_draw_3 (by decide) (fun c0 => ?_) (fun c0 => ?_)
  · have hC := hC.1 c0
    refine gj_iconst (v := -1) X d_Gl_draw_17 (by decide) ?_
    exact gj_iret (wof := (wGb h cI cL)) (u := (σ, false)) X hr hlk hC d_Gl_draw_18
  · have hC := hC.2 c0
    refine gj_lload_n X d_Gl_draw_6 rfl 3 rfl ?_
    refine gj_aload_n X d_Gl_draw_7 rfl 0 rfl ?_
    refine gj_iload_n X d_Gl_draw_8 rfl 1 rfl ?_
    refine gj_iload_n X d_Gl_draw_9 rfl 2 rfl ?_
    refine gj_callVL (As := [.int a0, .int a1]) (st := [.long a2]) X (c_Gl_trees l dC dI h cI cL cZ σ a0 a1 _ hC) ⟨gj_cwB X tw_367 tw_1 tw_434 hd_Gl_trees rfl rfl ⟨Nat.le_of_ble_eq_true rfl, Nat.le_of_ble_eq_true rfl⟩, X.2.2.2.2.1 _ tw_365, X.2.2.2.2.1 _ tw_366⟩ 0 rfl rfl hA rfl (Nat.le_of_ble_eq_true rfl) ⟨Nat.zero_le _, Nat.zero_le _⟩ d_Gl_draw_10 rfl (fun r2 σ1 hC => ?_)
    refine gj_lcmp_lt (tgt := 19) X d_Gl_draw_13 d_Gl_draw_14 (by decide) (fun c0 => ?_) (fun c0 => ?_)
    · have hC := hC.1 c0
      refine gj_aload_n X d_Gl_draw_19 rfl 0 rfl ?_
      refine gj_get X inX8 0 rfl rfl 7 (by decide) tw_215 rfl rfl d_Gl_draw_20 ?_
      refine gj_iload_n X d_Gl_draw_23 rfl 1 rfl ?_
      refine gj_iload_n X d_Gl_draw_24 rfl 2 rfl ?_
      refine gj_lload_n X d_Gl_draw_25 rfl 3 rfl ?_
      refine gj_callVI (As := [.int a0, .int a1, .long a2]) (st := []) X (c_We_weave l dC dI h cI cL cZ σ1 a0 a1 a2 _ hC) ⟨gj_cwB X tw_438 tw_7 tw_435 hd_We_weave rfl rfl ⟨Nat.le_of_ble_eq_true rfl, Nat.le_of_ble_eq_true rfl⟩, X.2.2.2.2.1 _ tw_436, X.2.2.2.2.1 _ tw_437⟩ 22 rfl rfl hA rfl (Nat.le_of_ble_eq_true rfl) ⟨Nat.zero_le _, Nat.zero_le _⟩ d_Gl_draw_26 rfl (fun r4 σ3 hC => ?_)
      exact gj_iret (wof := (wGb h cI cL)) (u := σ3) X hr hlk hC d_Gl_draw_29
    · have hC := hC.2 c0
      refine gj_iconst (v := -1) X d_Gl_draw_17 (by decide) ?_
      exact gj_iret (wof := (wGb h cI cL)) (u := (σ1, false)) X hr hlk hC d_Gl_draw_18
abbrev rm_We_ruleAt : Room := { frames := 0, cells := 0, slots := 0, locals := 0 }
set_option maxHeartbeats 4000000 in
set_option maxRecDepth 100000 in
theorem c_We_ruleAt (l : Launch) (dC : Nat → ClassId) (dI : Nat → Nat → Nat) (h : Nat → Nat) (cI cL cZ : ClassId) (σ : gs_St) (a0 : Int32) (K : Int32 → gs_St → Prop) (hC : C_We_ruleAt a0 σ K) : gj_MI l y_We_ruleAt (gj_ws y_We_ruleAt b_We_ruleAt 2 (some .int)) rm_We_ruleAt (dC, dI) gs_C (gs_T cI cL cZ) ((wG h cI cL) σ) (wG h cI cL) [.ref (h 22), .int a0] K := by
  refine gj_enterI (by decide) (Nat.le_of_ble_eq_true rfl) (fun p e s m args below meth c A X hr hlk hA hnm => ?_)
  change gj_J p l e rm_We_ruleAt s m args below meth c 0 0 (MQ below (va_Qi K (gj_at (dC, dI) gs_C (gs_T cI cL cZ) (wG h cI cL) A) A) args s 0 0 A) (dC, dI) gs_C A 2 0 [(0, .ref (h 22)), (1, .int a0)] [] ((wG h cI cL) σ)
  refine gj_iload_n X d_We_ruleAt_0 rfl 1 rfl ?_
  refine gj_if_lt (tgt := 27) X d_We_ruleAt_1 (by decide) (fun c0 => ?_) (fun c0 => ?_)
  · have hC := hC.1 c0
    refine gj_iconst (v := -1) X d_We_ruleAt_27 (by decide) ?_
    exact gj_iret X hr hlk hC d_We_ruleAt_28
  · have hC := hC.2 c0
    refine gj_iload_n X d_We_ruleAt_4 rfl 1 rfl ?_
    refine gj_aload_n X d_We_ruleAt_5 rfl 0 rfl ?_
    refine gj_get X inX7 22 rfl rfl 3 (by decide) tw_169 rfl rfl d_We_ruleAt_6 ?_
    refine gj_getN X inX1 23 rfl rfl 2 (by decide) tn_154 rfl rfl d_We_ruleAt_9 ?_
    refine gj_icmp_ge (tgt := 27) X d_We_ruleAt_12 (by decide) (fun c0 => ?_) (fun c0 => ?_)
    · have hC := hC.1 c0
      refine gj_iconst (v := -1) X d_We_ruleAt_27 (by decide) ?_
      exact gj_iret X hr hlk hC d_We_ruleAt_28
    · have hC := hC.2 c0
      refine gj_aload_n X d_We_ruleAt_15 rfl 0 rfl ?_
      refine gj_get X inX7 22 rfl rfl 3 (by decide) tw_169 rfl rfl d_We_ruleAt_16 ?_
      refine gj_getN X inX1 23 rfl rfl 0 (by decide) tn_150 rfl rfl d_We_ruleAt_19 ?_
      refine gj_iload_n X d_We_ruleAt_22 rfl 1 rfl ?_
      refine gj_iald X 24 0 rfl rfl hC.1 d_We_ruleAt_23 ?_
      have hC := hC.2
      refine gj_goto (tgt := 28) X d_We_ruleAt_24 (by decide) ?_
      exact gj_iret X hr hlk hC d_We_ruleAt_28
abbrev rm_Gl_row : Room := { frames := 1, cells := 0, slots := 0, locals := 21 }
set_option maxHeartbeats 4000000 in
set_option maxRecDepth 100000 in
theorem c_Gl_row (l : Launch) (dC : Nat → ClassId) (dI : Nat → Nat → Nat) (h : Nat → Nat) (cI cL cZ : ClassId) (σ : gs_St) (a0 : Int32) (K : Int32 → gs_St → Prop) (hC : C_Gl_row a0 σ K) : gj_MI l y_Gl_row (gj_ws y_Gl_row b_Gl_row 2 (some .int)) rm_Gl_row (dC, dI) gs_C (gs_T cI cL cZ) ((wG h cI cL) σ) (wG h cI cL) [.ref (h 0), .int a0] K := by
  refine gj_enterI (by decide) (Nat.le_of_ble_eq_true rfl) (fun p e s m args below meth c A X hr hlk hA hnm => ?_)
  change gj_J p l e rm_Gl_row s m args below meth c 0 0 (MQ below (va_Qi K (gj_at (dC, dI) gs_C (gs_T cI cL cZ) (wG h cI cL) A) A) args s 0 0 A) (dC, dI) gs_C A 2 0 [(0, .ref (h 0)), (1, .int a0)] [] ((wG h cI cL) σ)
  refine gj_aload_n X d_Gl_row_0 rfl 0 rfl ?_
  refine gj_get X inX8 0 rfl rfl 7 (by decide) tw_215 rfl rfl d_Gl_row_1 ?_
  refine gj_iload_n X d_Gl_row_4 rfl 1 rfl ?_
  refine gj_callVI (As := [.int a0]) (st := []) X (c_We_ruleAt l dC dI h cI cL cZ σ a0 _ hC) ⟨gj_cwB X tw_488 tw_7 tw_485 hd_We_ruleAt rfl rfl ⟨Nat.le_of_ble_eq_true rfl, Nat.le_of_ble_eq_true rfl⟩, X.2.2.2.2.1 _ tw_486, X.2.2.2.2.1 _ tw_487⟩ 22 rfl rfl hA rfl (Nat.le_of_ble_eq_true rfl) ⟨Nat.zero_le _, Nat.zero_le _⟩ d_Gl_row_5 rfl (fun r2 σ1 hC => ?_)
  exact gj_iret X hr hlk hC d_Gl_row_8
abbrev rm_We_leafAt : Room := { frames := 0, cells := 0, slots := 0, locals := 0 }
set_option maxHeartbeats 4000000 in
set_option maxRecDepth 100000 in
theorem c_We_leafAt (l : Launch) (dC : Nat → ClassId) (dI : Nat → Nat → Nat) (h : Nat → Nat) (cI cL cZ : ClassId) (σ : gs_St) (a0 : Int32) (K : Int32 → gs_St → Prop) (hC : C_We_leafAt a0 σ K) : gj_MI l y_We_leafAt (gj_ws y_We_leafAt b_We_leafAt 2 (some .int)) rm_We_leafAt (dC, dI) gs_C (gs_T cI cL cZ) ((wG h cI cL) σ) (wG h cI cL) [.ref (h 22), .int a0] K := by
  refine gj_enterI (by decide) (Nat.le_of_ble_eq_true rfl) (fun p e s m args below meth c A X hr hlk hA hnm => ?_)
  change gj_J p l e rm_We_leafAt s m args below meth c 0 0 (MQ below (va_Qi K (gj_at (dC, dI) gs_C (gs_T cI cL cZ) (wG h cI cL) A) A) args s 0 0 A) (dC, dI) gs_C A 2 0 [(0, .ref (h 22)), (1, .int a0)] [] ((wG h cI cL) σ)
  refine gj_iload_n X d_We_leafAt_0 rfl 1 rfl ?_
  refine gj_if_lt (tgt := 27) X d_We_leafAt_1 (by decide) (fun c0 => ?_) (fun c0 => ?_)
  · have hC := hC.1 c0
    refine gj_iconst (v := -1) X d_We_leafAt_27 (by decide) ?_
    exact gj_iret X hr hlk hC d_We_leafAt_28
  · have hC := hC.2 c0
    refine gj_iload_n X d_We_leafAt_4 rfl 1 rfl ?_
    refine gj_aload_n X d_We_leafAt_5 rfl 0 rfl ?_
    refine gj_get X inX7 22 rfl rfl 3 (by decide) tw_169 rfl rfl d_We_leafAt_6 ?_
    refine gj_getN X inX1 23 rfl rfl 3 (by decide) tn_156 rfl rfl d_We_leafAt_9 ?_
    refine gj_icmp_ge (tgt := 27) X d_We_leafAt_12 (by decide) (fun c0 => ?_) (fun c0 => ?_)
    · have hC := hC.1 c0
      refine gj_iconst (v := -1) X d_We_leafAt_27 (by decide) ?_
      exact gj_iret X hr hlk hC d_We_leafAt_28
    · have hC := hC.2 c0
      refine gj_aload_n X d_We_leafAt_15 rfl 0 rfl ?_
      refine gj_get X inX7 22 rfl rfl 3 (by decide) tw_169 rfl rfl d_We_leafAt_16 ?_
      refine gj_getN X inX1 23 rfl rfl 1 (by decide) tn_152 rfl rfl d_We_leafAt_19 ?_
      refine gj_iload_n X d_We_leafAt_22 rfl 1 rfl ?_
      refine gj_iald X 25 0 rfl rfl hC.1 d_We_leafAt_23 ?_
      have hC := hC.2
      refine gj_goto (tgt := 28) X d_We_leafAt_24 (by decide) ?_
      exact gj_iret X hr hlk hC d_We_leafAt_28
abbrev rm_Gl_leaf : Room := { frames := 1, cells := 0, slots := 0, locals := 21 }
set_option maxHeartbeats 4000000 in
set_option maxRecDepth 100000 in
theorem c_Gl_leaf (l : Launch) (dC : Nat → ClassId) (dI : Nat → Nat → Nat) (h : Nat → Nat) (cI cL cZ : ClassId) (σ : gs_St) (a0 : Int32) (K : Int32 → gs_St → Prop) (hC : C_Gl_leaf a0 σ K) : gj_MI l y_Gl_leaf (gj_ws y_Gl_leaf b_Gl_leaf 2 (some .int)) rm_Gl_leaf (dC, dI) gs_C (gs_T cI cL cZ) ((wG h cI cL) σ) (wG h cI cL) [.ref (h 0), .int a0] K := by
  refine gj_enterI (by decide) (Nat.le_of_ble_eq_true rfl) (fun p e s m args below meth c A X hr hlk hA hnm => ?_)
  change gj_J p l e rm_Gl_leaf s m args below meth c 0 0 (MQ below (va_Qi K (gj_at (dC, dI) gs_C (gs_T cI cL cZ) (wG h cI cL) A) A) args s 0 0 A) (dC, dI) gs_C A 2 0 [(0, .ref (h 0)), (1, .int a0)] [] ((wG h cI cL) σ)
  refine gj_aload_n X d_Gl_leaf_0 rfl 0 rfl ?_
  refine gj_get X inX8 0 rfl rfl 7 (by decide) tw_215 rfl rfl d_Gl_leaf_1 ?_
  refine gj_iload_n X d_Gl_leaf_4 rfl 1 rfl ?_
  refine gj_callVI (As := [.int a0]) (st := []) X (c_We_leafAt l dC dI h cI cL cZ σ a0 _ hC) ⟨gj_cwB X tw_496 tw_7 tw_493 hd_We_leafAt rfl rfl ⟨Nat.le_of_ble_eq_true rfl, Nat.le_of_ble_eq_true rfl⟩, X.2.2.2.2.1 _ tw_494, X.2.2.2.2.1 _ tw_495⟩ 22 rfl rfl hA rfl (Nat.le_of_ble_eq_true rfl) ⟨Nat.zero_le _, Nat.zero_le _⟩ d_Gl_leaf_5 rfl (fun r2 σ1 hC => ?_)
  exact gj_iret X hr hlk hC d_Gl_leaf_8
abbrev rm_Li_add : Room := { frames := 0, cells := 0, slots := 0, locals := 0 }
set_option maxHeartbeats 4000000 in
set_option maxRecDepth 100000 in
theorem c_Li_add (l : Launch) (dC : Nat → ClassId) (dI : Nat → Nat → Nat) (h : Nat → Nat) (cI cL cZ : ClassId) (σ : gs_St) (a0 : Int32) (K : Int32 → gs_St → Prop) (hC : C_Li_add a0 σ K) : gj_MI l y_Li_add (gj_ws y_Li_add b_Li_add 2 (some .int)) rm_Li_add (dC, dI) gs_C (gs_T cI cL cZ) ((wG h cI cL) σ) (wG h cI cL) [.ref (h 29), .int a0] K := by
  refine gj_enterI (by decide) (Nat.le_of_ble_eq_true rfl) (fun p e s m args below meth c A X hr hlk hA hnm => ?_)
  change gj_J p l e rm_Li_add s m args below meth c 0 0 (MQ below (va_Qi K (gj_at (dC, dI) gs_C (gs_T cI cL cZ) (wG h cI cL) A) A) args s 0 0 A) (dC, dI) gs_C A 2 0 [(0, .ref (h 29)), (1, .int a0)] [] ((wG h cI cL) σ)
  refine gj_aload_n X d_Li_add_0 rfl 0 rfl ?_
  refine gj_get X inX5 29 rfl rfl 4 (by decide) tw_195 rfl rfl d_Li_add_1 ?_
  refine gj_sipush (v := 200) X d_Li_add_4 (by decide) ?_
  refine gj_icmp_lt (tgt := 12) X d_Li_add_7 (by decide) (fun c0 => ?_) (fun c0 => ?_)
  · have hC := hC.1 c0
    refine gj_aload_n X d_Li_add_12 rfl 0 rfl ?_
    refine gj_get X inX5 29 rfl rfl 3 (by decide) tw_194 rfl rfl d_Li_add_13 ?_
    refine gj_aload_n X d_Li_add_16 rfl 0 rfl ?_
    refine gj_get X inX5 29 rfl rfl 4 (by decide) tw_195 rfl rfl d_Li_add_17 ?_
    refine gj_iload_n X d_Li_add_20 rfl 1 rfl ?_
    refine gj_iast (w' := (wG h cI cL) (gs_A σ 14 (upd (σ.2.1 14) (σ.1 14).toNatClampNeg a0))) X 30 0 rfl rfl hC.1 (set_wG_A14 h cI cL σ _) d_Li_add_21 ?_
    refine gj_topw (wof := (wG h cI cL)) (fun σ1 eσ1 => ?_)
    have hC := hC.2 σ1 eσ1
    refine gj_aload_n X d_Li_add_22 rfl 0 rfl ?_
    refine gj_dup X d_Li_add_23 rfl ?_
    refine gj_get X inX5 29 rfl rfl 4 (by decide) tw_195 rfl rfl d_Li_add_24 ?_
    refine gj_iconst (v := 1) X d_Li_add_27 (by decide) ?_
    refine gj_iadd X d_Li_add_28 ?_
    refine gj_put (w' := (wG h cI cL) (gs_I σ1 14 ((σ1.1 14) + (1 : Int32)))) X inX5 tyX5 tyX5_ok nmX5 29 rfl rfl 4 (by decide) tw_195 rfl rfl (tyX5_ok 4 (by decide)) rfl rfl (Nat.le_of_ble_eq_true rfl) (set_wG_I14 h cI cL σ1 _) d_Li_add_29 ?_
    refine gj_topw (wof := (wG h cI cL)) (fun σ2 eσ2 => ?_)
    have hC := hC σ2 eσ2
    refine gj_aload_n X d_Li_add_32 rfl 0 rfl ?_
    refine gj_get X inX5 29 rfl rfl 4 (by decide) tw_195 rfl rfl d_Li_add_33 ?_
    exact gj_iret X hr hlk hC d_Li_add_36
  · have hC := hC.2 c0
    refine gj_iconst (v := -1) X d_Li_add_10 (by decide) ?_
    exact gj_iret X hr hlk hC d_Li_add_11
abbrev rm_Gl_list : Room := { frames := 1, cells := 0, slots := 0, locals := 21 }
set_option maxHeartbeats 4000000 in
set_option maxRecDepth 100000 in
theorem c_Gl_list (l : Launch) (dC : Nat → ClassId) (dI : Nat → Nat → Nat) (h : Nat → Nat) (cI cL cZ : ClassId) (σ : gs_St) (a0 : Int32) (K : Int32 → gs_St → Prop) (hC : C_Gl_list a0 σ K) : gj_MI l y_Gl_list (gj_ws y_Gl_list b_Gl_list 2 (some .int)) rm_Gl_list (dC, dI) gs_C (gs_T cI cL cZ) ((wG h cI cL) σ) (wG h cI cL) [.ref (h 0), .int a0] K := by
  refine gj_enterI (by decide) (Nat.le_of_ble_eq_true rfl) (fun p e s m args below meth c A X hr hlk hA hnm => ?_)
  change gj_J p l e rm_Gl_list s m args below meth c 0 0 (MQ below (va_Qi K (gj_at (dC, dI) gs_C (gs_T cI cL cZ) (wG h cI cL) A) A) args s 0 0 A) (dC, dI) gs_C A 2 0 [(0, .ref (h 0)), (1, .int a0)] [] ((wG h cI cL) σ)
  refine gj_aload_n X d_Gl_list_0 rfl 0 rfl ?_
  refine gj_get X inX8 0 rfl rfl 8 (by decide) tw_216 rfl rfl d_Gl_list_1 ?_
  refine gj_iload_n X d_Gl_list_4 rfl 1 rfl ?_
  refine gj_callVI (As := [.int a0]) (st := []) X (c_Li_add l dC dI h cI cL cZ σ a0 _ hC) ⟨gj_cwB X tw_504 tw_9 tw_501 hd_Li_add rfl rfl ⟨Nat.le_of_ble_eq_true rfl, Nat.le_of_ble_eq_true rfl⟩, X.2.2.2.2.1 _ tw_502, X.2.2.2.2.1 _ tw_503⟩ 29 rfl rfl hA rfl (Nat.le_of_ble_eq_true rfl) ⟨Nat.zero_le _, Nat.zero_le _⟩ d_Gl_list_5 rfl (fun r2 σ1 hC => ?_)
  exact gj_iret X hr hlk hC d_Gl_list_8
abbrev rm_Li_terminals : Room := { frames := 2, cells := 0, slots := 0, locals := 45 }
set_option maxHeartbeats 4000000 in
set_option maxRecDepth 100000 in
theorem c_Li_terminals (l : Launch) (dC : Nat → ClassId) (dI : Nat → Nat → Nat) (h : Nat → Nat) (cI cL cZ : ClassId) (σ : gs_St) (K : Int32 → gs_St → Prop) (hC : C_Li_terminals σ K) : gj_MI l y_Li_terminals (gj_ws y_Li_terminals b_Li_terminals 3 (some .int)) rm_Li_terminals (dC, dI) gs_C (gs_T cI cL cZ) ((wG h cI cL) σ) (wG h cI cL) [.ref (h 29)] K := by
  refine gj_enterI (by decide) (Nat.le_of_ble_eq_true rfl) (fun p e s m args below meth c A X hr hlk hA hnm => ?_)
  change gj_J p l e rm_Li_terminals s m args below meth c 0 0 (MQ below (va_Qi K (gj_at (dC, dI) gs_C (gs_T cI cL cZ) (wG h cI cL) A) A) args s 0 0 A) (dC, dI) gs_C A 3 0 [(0, .ref (h 29))] [] ((wG h cI cL) σ)
  have hC := hC
    (fun (v_1 : Int32) (v_2 : Int32) (σ : gs_St) => gj_J p l e rm_Li_terminals s m args below meth c 0 0 (MQ below (va_Qi K (gj_at (dC, dI) gs_C (gs_T cI cL cZ) (wG h cI cL) A) A) args s 0 0 A) (dC, dI) gs_C A 3 4 [(0, .ref (h 29)), (1, .int v_1), (2, .int v_2)] [] ((wG h cI cL) σ))
    (by
      intro v_1 v_2 σ hC
      refine gj_iload_n X d_Li_terminals_4 rfl 2 rfl ?_
      refine gj_aload_n X d_Li_terminals_5 rfl 0 rfl ?_
      refine gj_get X inX5 29 rfl rfl 4 (by decide) tw_195 rfl rfl d_Li_terminals_6 ?_
      refine gj_icmp_ge (tgt := 66) X d_Li_terminals_9 (by decide) (fun c0 => ?_) (fun c0 => ?_)
      · have hC := hC.1 c0
        refine gj_iload_n X d_Li_terminals_66 rfl 1 rfl ?_
        exact gj_iret X hr hlk hC d_Li_terminals_67
      · have hC := hC.2 c0
        refine gj_aload_n X d_Li_terminals_12 rfl 0 rfl ?_
        refine gj_get X inX5 29 rfl rfl 0 (by decide) tw_191 rfl rfl d_Li_terminals_13 ?_
        refine gj_aload_n X d_Li_terminals_16 rfl 0 rfl ?_
        refine gj_get X inX5 29 rfl rfl 3 (by decide) tw_194 rfl rfl d_Li_terminals_17 ?_
        refine gj_iload_n X d_Li_terminals_20 rfl 2 rfl ?_
        refine gj_iald X 30 0 rfl rfl hC.1 d_Li_terminals_21 ?_
        have hC := hC.2
        refine gj_callVI (As := [.int (σ.2.1 14 v_2.toNatClampNeg)]) (st := []) X (c_Gr_has l dC dI h cI cL cZ σ (σ.2.1 14 v_2.toNatClampNeg) _ hC) ⟨gj_cwB X tw_264 tw_2 tw_518 hd_Gr_has rfl rfl ⟨Nat.le_of_ble_eq_true rfl, Nat.le_of_ble_eq_true rfl⟩, X.2.2.2.2.1 _ tw_262, X.2.2.2.2.1 _ tw_263⟩ 2 rfl rfl hA rfl (Nat.le_of_ble_eq_true rfl) ⟨Nat.zero_le _, Nat.zero_le _⟩ d_Li_terminals_22 rfl (fun r2 σ1 hC => ?_)
        obtain ⟨hC, hb⟩ := hC
        refine gj_if_ne (tgt := 30) X d_Li_terminals_25 (by decide) (fun c0 => ?_) (fun c0 => ?_)
        · have hC := hC.1 c0
          refine gj_iload_n X d_Li_terminals_30 rfl 1 rfl ?_
          refine gj_aload_n X d_Li_terminals_31 rfl 0 rfl ?_
          refine gj_get X inX5 29 rfl rfl 0 (by decide) tw_191 rfl rfl d_Li_terminals_32 ?_
          refine gj_aload_n X d_Li_terminals_35 rfl 0 rfl ?_
          refine gj_get X inX5 29 rfl rfl 3 (by decide) tw_194 rfl rfl d_Li_terminals_36 ?_
          refine gj_iload_n X d_Li_terminals_39 rfl 2 rfl ?_
          refine gj_iald X 30 0 rfl rfl hC.1 d_Li_terminals_40 ?_
          have hC := hC.2
          refine gj_callVI (As := [.int (σ1.2.1 14 v_2.toNatClampNeg)]) (st := [.int v_1]) X (c_Gr_sizeOf l dC dI h cI cL cZ σ1 (σ1.2.1 14 v_2.toNatClampNeg) _ hC) ⟨gj_cwB X tw_280 tw_2 tw_519 hd_Gr_sizeOf rfl rfl ⟨Nat.le_of_ble_eq_true rfl, Nat.le_of_ble_eq_true rfl⟩, X.2.2.2.2.1 _ tw_278, X.2.2.2.2.1 _ tw_279⟩ 2 rfl rfl hA rfl (Nat.le_of_ble_eq_true rfl) ⟨Nat.zero_le _, Nat.zero_le _⟩ d_Li_terminals_41 rfl (fun r4 σ3 hC => ?_)
          refine gj_aload_n X d_Li_terminals_44 rfl 0 rfl ?_
          refine gj_get X inX5 29 rfl rfl 0 (by decide) tw_191 rfl rfl d_Li_terminals_45 ?_
          refine gj_aload_n X d_Li_terminals_48 rfl 0 rfl ?_
          refine gj_get X inX5 29 rfl rfl 3 (by decide) tw_194 rfl rfl d_Li_terminals_49 ?_
          refine gj_iload_n X d_Li_terminals_52 rfl 2 rfl ?_
          refine gj_iald X 30 0 rfl rfl hC.1 d_Li_terminals_53 ?_
          have hC := hC.2
          refine gj_callVI (As := [.int (σ3.2.1 14 v_2.toNatClampNeg)]) (st := [.int r4, .int v_1]) X (c_Gr_nonterminalsIn l dC dI h cI cL cZ σ3 (σ3.2.1 14 v_2.toNatClampNeg) _ hC) ⟨gj_cwB X tw_465 tw_2 tw_520 hd_Gr_nonterminalsIn rfl rfl ⟨Nat.le_of_ble_eq_true rfl, Nat.le_of_ble_eq_true rfl⟩, X.2.2.2.2.1 _ tw_463, X.2.2.2.2.1 _ tw_464⟩ 2 rfl rfl hA rfl (Nat.le_of_ble_eq_true rfl) ⟨Nat.zero_le _, Nat.zero_le _⟩ d_Li_terminals_54 rfl (fun r6 σ5 hC => ?_)
          refine gj_isub X d_Li_terminals_57 ?_
          refine gj_iadd X d_Li_terminals_58 ?_
          refine gj_topi (fun v7 ev7 => ?_)
          have hC := hC v7 ev7
          refine gj_istore_n (L' := [(1, .int v7), (0, .ref (h 29)), (2, .int v_2)]) X d_Li_terminals_59 rfl (by decide) rfl ?_
          obtain ⟨v8, ev8⟩ : ∃ y : Int32, y = v_2 + 1 := ⟨_, rfl⟩
          have hC := hC v8 ev8
          refine gj_iinc (v := v8) (L' := [(2, .int v8), (1, .int v7), (0, .ref (h 29))]) X d_Li_terminals_60 2 rfl (by rw [ev8]; rfl) (by decide) rfl ?_
          refine gj_goto (tgt := 4) X d_Li_terminals_63 (by decide) ?_
          exact gj_loc [2, 1, 0] rfl hC
        · have hC := hC.2 c0
          refine gj_iconst (v := -1) X d_Li_terminals_28 (by decide) ?_
          exact gj_iret X hr hlk hC d_Li_terminals_29)
  refine gj_iconst (v := 0) X d_Li_terminals_0 (by decide) ?_
  refine gj_istore_n (L' := [(1, .int (0 : Int32)), (0, .ref (h 29))]) X d_Li_terminals_1 rfl (by decide) rfl ?_
  refine gj_iconst (v := 0) X d_Li_terminals_2 (by decide) ?_
  refine gj_istore_n (L' := [(2, .int (0 : Int32)), (1, .int (0 : Int32)), (0, .ref (h 29))]) X d_Li_terminals_3 rfl (by decide) rfl ?_
  exact gj_loc [2, 1, 0] rfl hC
