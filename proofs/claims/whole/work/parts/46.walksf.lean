abbrev rm_Gl_treesWith : Room := { frames := 6, cells := 0, slots := 0, locals := 141 }
set_option maxHeartbeats 4000000 in
set_option maxRecDepth 100000 in
theorem c_Gl_treesWith (l : Launch) (dC : Nat → ClassId) (dI : Nat → Nat → Nat) (h : Nat → Nat) (cI cL cZ : ClassId) (σ : gs_St) (a0 : Int32) (a1 : Int32) (K : Int64 → gs_St → Prop) (hC : C_Gl_treesWith a0 a1 σ K) : gj_ML l y_Gl_treesWith (gj_ws y_Gl_treesWith b_Gl_treesWith 5 (some .long)) rm_Gl_treesWith (dC, dI) gs_C (gs_T cI cL cZ) ((wG h cI cL) σ) (wG h cI cL) [.ref (h 0), .int a0, .int a1] K := by
  refine gj_enterL (by decide) (Nat.le_of_ble_eq_true rfl) (fun p e s m args below meth c A X hr hlk hA hnm => ?_)
  change gj_J p l e rm_Gl_treesWith s m args below meth c 0 0 (MQ below (va_Ql K (gj_at (dC, dI) gs_C (gs_T cI cL cZ) (wG h cI cL) A) A) args s 0 0 A) (dC, dI) gs_C A 5 0 [(0, .ref (h 0)), (1, .int a0), (2, .int a1)] [] ((wG h cI cL) σ)
  refine gj_aload_n X d_Gl_treesWith_0 rfl 0 rfl ?_
  refine gj_get X inX8 0 rfl rfl 2 (by decide) tw_210 rfl rfl d_Gl_treesWith_1 ?_
  refine gj_iload_n X d_Gl_treesWith_4 rfl 1 rfl ?_
  refine gj_callVI (As := [.int a0]) (st := []) X (c_Gr_has l dC dI h cI cL cZ σ a0 _ hC) ⟨gj_cwB X tw_264 tw_2 tw_261 hd_Gr_has rfl rfl ⟨Nat.le_of_ble_eq_true rfl, Nat.le_of_ble_eq_true rfl⟩, X.2.2.2.2.1 _ tw_262, X.2.2.2.2.1 _ tw_263⟩ 2 rfl rfl hA rfl (Nat.le_of_ble_eq_true rfl) ⟨Nat.zero_le _, Nat.zero_le _⟩ d_Gl_treesWith_5 rfl (fun r2 σ1 hC => ?_)
  obtain ⟨hC, hb⟩ := hC
  refine gj_if_eq (tgt := 19) X d_Gl_treesWith_8 (by decide) (fun c0 => ?_) (fun c0 => ?_)
  · have hC := hC.1 c0
    refine gj_ldc2 (v := -1) X tw_372 d_Gl_treesWith_19 ?_
    exact gj_lret X hr hlk hC d_Gl_treesWith_22
  · have hC := hC.2 c0
    refine gj_aload_n X d_Gl_treesWith_11 rfl 0 rfl ?_
    refine gj_iload_n X d_Gl_treesWith_12 rfl 2 rfl ?_
    refine gj_callVI (As := [.int a1]) (st := []) X (c_Gl_isCounted l dC dI h cI cL cZ σ1 a1 _ hC) ⟨gj_cwB X tw_371 tw_1 tw_368 hd_Gl_isCounted rfl rfl ⟨Nat.le_of_ble_eq_true rfl, Nat.le_of_ble_eq_true rfl⟩, X.2.2.2.2.1 _ tw_370, X.2.2.2.2.1 _ ts_5⟩ 0 rfl rfl hA rfl (Nat.le_of_ble_eq_true rfl) ⟨Nat.zero_le _, Nat.zero_le _⟩ d_Gl_treesWith_13 rfl (fun r4 σ3 hC => ?_)
    obtain ⟨hC, hb⟩ := hC
    refine gj_if_ne (tgt := 23) X d_Gl_treesWith_16 (by decide) (fun c0 => ?_) (fun c0 => ?_)
    · have hC := hC.1 c0
      refine gj_aload_n X d_Gl_treesWith_23 rfl 0 rfl ?_
      refine gj_get X inX8 0 rfl rfl 5 (by decide) tw_213 rfl rfl d_Gl_treesWith_24 ?_
      refine gj_iconst (v := 0) X d_Gl_treesWith_27 (by decide) ?_
      refine gj_iload_n X d_Gl_treesWith_28 rfl 2 rfl ?_
      refine gj_callVL (As := [.int (0 : Int32), .int a1]) (st := []) X (c_Co_treesOf l dC dI h cI cL cZ σ3 (0 : Int32) a1 _ hC) ⟨gj_cwB X tw_376 tw_5 tw_373 hd_Co_treesOf rfl rfl ⟨Nat.le_of_ble_eq_true rfl, Nat.le_of_ble_eq_true rfl⟩, X.2.2.2.2.1 _ tw_374, X.2.2.2.2.1 _ tw_375⟩ 12 rfl rfl hA rfl (Nat.le_of_ble_eq_true rfl) ⟨Nat.zero_le _, Nat.zero_le _⟩ d_Gl_treesWith_29 rfl (fun r6 σ5 hC => ?_)
      refine gj_lstore_n (L' := [(3, .long r6), (0, .ref (h 0)), (1, .int a0), (2, .int a1)]) X d_Gl_treesWith_32 rfl (by decide) rfl ?_
      refine gj_lload_n X d_Gl_treesWith_33 rfl 0 rfl ?_
      refine gj_ldc2 (v := 1000000000000000000) X tw_419 d_Gl_treesWith_34 ?_
      refine gj_lcmp_le (tgt := 45) X d_Gl_treesWith_37 d_Gl_treesWith_38 (by decide) (fun c0 => ?_) (fun c0 => ?_)
      · have hC := hC.1 c0
        refine gj_aload_n X d_Gl_treesWith_45 rfl 1 rfl ?_
        refine gj_get X inX8 0 rfl rfl 6 (by decide) tw_214 rfl rfl d_Gl_treesWith_46 ?_
        refine gj_iload_n X d_Gl_treesWith_49 rfl 2 rfl ?_
        refine gj_callVV (As := [.int a0]) (st := []) X (c_Co_leaveOutw l dC dI h cI cL cZ σ5 a0 _ hC) ⟨gj_cwB X tw_428 tw_5 tw_425 hd_Co_leaveOut rfl rfl ⟨Nat.le_of_ble_eq_true rfl, Nat.le_of_ble_eq_true rfl⟩, X.2.2.2.2.1 _ tw_426, X.2.2.2.2.1 _ tw_427⟩ 15 rfl rfl hA rfl (Nat.le_of_ble_eq_true rfl) ⟨Nat.zero_le _, Nat.zero_le _⟩ d_Gl_treesWith_50 rfl (fun σ7 hC => ?_)
        refine gj_lload_n X d_Gl_treesWith_53 rfl 0 rfl ?_
        refine gj_aload_n X d_Gl_treesWith_54 rfl 1 rfl ?_
        refine gj_get X inX8 0 rfl rfl 6 (by decide) tw_214 rfl rfl d_Gl_treesWith_55 ?_
        refine gj_iconst (v := 0) X d_Gl_treesWith_58 (by decide) ?_
        refine gj_iload_n X d_Gl_treesWith_59 rfl 3 rfl ?_
        refine gj_callVL (As := [.int (0 : Int32), .int a1]) (st := [.long r6]) X (c_Co_treesOfw l dC dI h cI cL cZ σ7 (0 : Int32) a1 _ hC) ⟨gj_cwB X tw_376 tw_5 tw_373 hd_Co_treesOf rfl rfl ⟨Nat.le_of_ble_eq_true rfl, Nat.le_of_ble_eq_true rfl⟩, X.2.2.2.2.1 _ tw_374, X.2.2.2.2.1 _ tw_375⟩ 15 rfl rfl hA rfl (Nat.le_of_ble_eq_true rfl) ⟨Nat.zero_le _, Nat.zero_le _⟩ d_Gl_treesWith_60 rfl (fun r9 σ8 hC => ?_)
        refine gj_lsub X d_Gl_treesWith_63 ?_
        exact gj_lret X hr hlk hC d_Gl_treesWith_64
      · have hC := hC.2 c0
        refine gj_ldc2 (v := -2) X tw_420 d_Gl_treesWith_41 ?_
        exact gj_lret X hr hlk hC d_Gl_treesWith_44
    · have hC := hC.2 c0
      refine gj_ldc2 (v := -1) X tw_372 d_Gl_treesWith_19 ?_
      exact gj_lret X hr hlk hC d_Gl_treesWith_22
abbrev rm_Dr_clear : Room := { frames := 0, cells := 0, slots := 0, locals := 0 }
set_option maxHeartbeats 4000000 in
set_option maxRecDepth 100000 in
theorem c_Dr_clear (l : Launch) (dC : Nat → ClassId) (dI : Nat → Nat → Nat) (h : Nat → Nat) (cI cL cZ : ClassId) (σ : gs_St) (K : gs_St → Prop) (hC : C_Dr_clear σ K) : gj_MV 0 0 l y_Dr_clear (gj_ws y_Dr_clear b_Dr_clear 1 (none)) rm_Dr_clear (dC, dI) gs_C (gs_T cI cL cZ) ((wG h cI cL) σ) (wG h cI cL) [.ref (h 26)] K := by
  refine gj_enterV (by decide) (Nat.le_of_ble_eq_true rfl) (fun p e s m args below meth c A X hr hlk hA hnm => ?_)
  change gj_J p l e rm_Dr_clear s m args below meth c 0 0 (MQ below (va_Qv K (gj_at (dC, dI) gs_C (gs_T cI cL cZ) (wG h cI cL) A) A) args s 0 0 A) (dC, dI) gs_C A 1 0 [(0, .ref (h 26))] [] ((wG h cI cL) σ)
  refine gj_aload_n X d_Dr_clear_0 rfl 0 rfl ?_
  refine gj_iconst (v := 0) X d_Dr_clear_1 (by decide) ?_
  refine gj_put (w' := (wG h cI cL) (gs_I σ 12 (0 : Int32))) X inX1 tyX1 tyX1_ok nmX1 26 rfl rfl 2 (by decide) tw_153 rfl rfl (tyX1_ok 2 (by decide)) rfl rfl (Nat.le_of_ble_eq_true rfl) (set_wG_I12 h cI cL σ _) d_Dr_clear_2 ?_
  refine gj_topw (wof := (wG h cI cL)) (fun σ1 eσ1 => ?_)
  have hC := hC σ1 eσ1
  refine gj_aload_n X d_Dr_clear_5 rfl 0 rfl ?_
  refine gj_iconst (v := 0) X d_Dr_clear_6 (by decide) ?_
  refine gj_put (w' := (wG h cI cL) (gs_I σ1 13 (0 : Int32))) X inX1 tyX1 tyX1_ok nmX1 26 rfl rfl 3 (by decide) tw_155 rfl rfl (tyX1_ok 3 (by decide)) rfl rfl (Nat.le_of_ble_eq_true rfl) (set_wG_I13 h cI cL σ1 _) d_Dr_clear_7 ?_
  refine gj_topw (wof := (wG h cI cL)) (fun σ2 eσ2 => ?_)
  have hC := hC σ2 eσ2
  exact gj_vret X hr hlk hC d_Dr_clear_10
abbrev rm_Pi_put : Room := { frames := 0, cells := 0, slots := 0, locals := 0 }
set_option maxHeartbeats 4000000 in
set_option maxRecDepth 100000 in
theorem c_Pi_put (l : Launch) (dC : Nat → ClassId) (dI : Nat → Nat → Nat) (h : Nat → Nat) (cI cL cZ : ClassId) (σ : gs_St) (a0 : Int32) (a1 : Int32) (a2 : Int32) (a3 : Int64) (K : gs_St → Prop) (hC : C_Pi_put a0 a1 a2 a3 σ K) : gj_MV 0 0 l y_Pi_put (gj_ws y_Pi_put b_Pi_put 6 (none)) rm_Pi_put (dC, dI) gs_C (gs_T cI cL cZ) ((wG h cI cL) σ) (wG h cI cL) [.ref (h 18), .int a0, .int a1, .int a2, .long a3] K := by
  refine gj_enterV (by decide) (Nat.le_of_ble_eq_true rfl) (fun p e s m args below meth c A X hr hlk hA hnm => ?_)
  change gj_J p l e rm_Pi_put s m args below meth c 0 0 (MQ below (va_Qv K (gj_at (dC, dI) gs_C (gs_T cI cL cZ) (wG h cI cL) A) A) args s 0 0 A) (dC, dI) gs_C A 6 0 [(0, .ref (h 18)), (1, .int a0), (2, .int a1), (3, .int a2), (4, .long a3)] [] ((wG h cI cL) σ)
  refine gj_iload_n X d_Pi_put_0 rfl 1 rfl ?_
  refine gj_if_lt (tgt := 33) X d_Pi_put_1 (by decide) (fun c0 => ?_) (fun c0 => ?_)
  · have hC := hC.1 c0
    exact gj_vret X hr hlk hC d_Pi_put_33
  · have hC := hC.2 c0
    refine gj_iload_n X d_Pi_put_4 rfl 1 rfl ?_
    refine gj_sipush (v := 216) X d_Pi_put_5 (by decide) ?_
    refine gj_icmp_ge (tgt := 33) X d_Pi_put_8 (by decide) (fun c0 => ?_) (fun c0 => ?_)
    · have hC := hC.1 c0
      exact gj_vret X hr hlk hC d_Pi_put_33
    · have hC := hC.2 c0
      refine gj_aload_n X d_Pi_put_11 rfl 0 rfl ?_
      refine gj_get X inX6 18 rfl rfl 0 (by decide) tw_117 rfl rfl d_Pi_put_12 ?_
      refine gj_iload_n X d_Pi_put_15 rfl 1 rfl ?_
      refine gj_iload_n X d_Pi_put_16 rfl 2 rfl ?_
      refine gj_iast (w' := (wG h cI cL) (gs_A σ 8 (upd (σ.2.1 8) a0.toNatClampNeg a1))) X 19 0 rfl rfl hC.1 (set_wG_A8 h cI cL σ _) d_Pi_put_17 ?_
      refine gj_topw (wof := (wG h cI cL)) (fun σ1 eσ1 => ?_)
      have hC := hC.2 σ1 eσ1
      refine gj_aload_n X d_Pi_put_18 rfl 0 rfl ?_
      refine gj_get X inX6 18 rfl rfl 1 (by decide) tw_120 rfl rfl d_Pi_put_19 ?_
      refine gj_iload_n X d_Pi_put_22 rfl 1 rfl ?_
      refine gj_iload_n X d_Pi_put_23 rfl 3 rfl ?_
      refine gj_iast (w' := (wG h cI cL) (gs_A σ1 9 (upd (σ1.2.1 9) a0.toNatClampNeg a2))) X 20 0 rfl rfl hC.1 (set_wG_A9 h cI cL σ1 _) d_Pi_put_24 ?_
      refine gj_topw (wof := (wG h cI cL)) (fun σ2 eσ2 => ?_)
      have hC := hC.2 σ2 eσ2
      refine gj_aload_n X d_Pi_put_25 rfl 0 rfl ?_
      refine gj_get X inX6 18 rfl rfl 2 (by decide) tw_123 rfl rfl d_Pi_put_26 ?_
      refine gj_iload_n X d_Pi_put_29 rfl 1 rfl ?_
      refine gj_lload X d_Pi_put_30 4 rfl ?_
      refine gj_last (w' := (wG h cI cL) (gs_L σ2 4 (vp_updL (σ2.2.2 4) a0.toNatClampNeg a3))) X 21 1 rfl rfl hC.1 (set_wG_L4 h cI cL σ2 _) d_Pi_put_32 ?_
      refine gj_topw (wof := (wG h cI cL)) (fun σ3 eσ3 => ?_)
      have hC := hC.2 σ3 eσ3
      exact gj_vret X hr hlk hC d_Pi_put_33
abbrev rm_Gr_nonterminalsIn : Room := { frames := 1, cells := 0, slots := 0, locals := 22 }
set_option maxHeartbeats 4000000 in
set_option maxRecDepth 100000 in
theorem c_Gr_nonterminalsIn (l : Launch) (dC : Nat → ClassId) (dI : Nat → Nat → Nat) (h : Nat → Nat) (cI cL cZ : ClassId) (σ : gs_St) (a0 : Int32) (K : Int32 → gs_St → Prop) (hC : C_Gr_nonterminalsIn a0 σ K) : gj_MI l y_Gr_nonterminalsIn (gj_ws y_Gr_nonterminalsIn b_Gr_nonterminalsIn 4 (some .int)) rm_Gr_nonterminalsIn (dC, dI) gs_C (gs_T cI cL cZ) ((wG h cI cL) σ) (wG h cI cL) [.ref (h 2), .int a0] K := by
  refine gj_enterI (by decide) (Nat.le_of_ble_eq_true rfl) (fun p e s m args below meth c A X hr hlk hA hnm => ?_)
  change gj_J p l e rm_Gr_nonterminalsIn s m args below meth c 0 0 (MQ below (va_Qi K (gj_at (dC, dI) gs_C (gs_T cI cL cZ) (wG h cI cL) A) A) args s 0 0 A) (dC, dI) gs_C A 4 0 [(0, .ref (h 2)), (1, .int a0)] [] ((wG h cI cL) σ)
  have hC := hC
    (fun (v_1 : Int32) (v_2 : Int32) (v_3 : Int32) (σ : gs_St) => gj_J p l e rm_Gr_nonterminalsIn s m args below meth c 0 0 (MQ below (va_Qi K (gj_at (dC, dI) gs_C (gs_T cI cL cZ) (wG h cI cL) A) A) args s 0 0 A) (dC, dI) gs_C A 4 4 [(0, .ref (h 2)), (1, .int v_1), (2, .int v_2), (3, .int v_3)] [] ((wG h cI cL) σ))
    (by
      intro v_1 v_2 v_3 σ hC
      refine gj_iload_n X d_Gr_nonterminalsIn_4 rfl 3 rfl ?_
      refine gj_aload_n X d_Gr_nonterminalsIn_5 rfl 0 rfl ?_
      refine gj_get X inX2 2 rfl rfl 1 (by decide) tw_29 rfl rfl d_Gr_nonterminalsIn_6 ?_
      refine gj_iload_n X d_Gr_nonterminalsIn_9 rfl 1 rfl ?_
      refine gj_iald X 4 0 rfl rfl hC.1 d_Gr_nonterminalsIn_10 ?_
      have hC := hC.2
      refine gj_icmp_ge (tgt := 35) X d_Gr_nonterminalsIn_11 (by decide) (fun c0 => ?_) (fun c0 => ?_)
      · have hC := hC.1 c0
        refine gj_iload_n X d_Gr_nonterminalsIn_35 rfl 2 rfl ?_
        exact gj_iret X hr hlk hC d_Gr_nonterminalsIn_36
      · have hC := hC.2 c0
        refine gj_aload_n X d_Gr_nonterminalsIn_14 rfl 0 rfl ?_
        refine gj_iload_n X d_Gr_nonterminalsIn_15 rfl 1 rfl ?_
        refine gj_iload_n X d_Gr_nonterminalsIn_16 rfl 3 rfl ?_
        refine gj_callVI (As := [.int v_1, .int v_3]) (st := []) X (c_Gr_symbolAt l dC dI h cI cL cZ σ v_1 v_3 _ hC) ⟨gj_cwB X tw_288 tw_2 tw_466 hd_Gr_symbolAt rfl rfl ⟨Nat.le_of_ble_eq_true rfl, Nat.le_of_ble_eq_true rfl⟩, X.2.2.2.2.1 _ tw_286, X.2.2.2.2.1 _ tw_287⟩ 2 rfl rfl hA rfl (Nat.le_of_ble_eq_true rfl) ⟨Nat.zero_le _, Nat.zero_le _⟩ d_Gr_nonterminalsIn_17 rfl (fun r2 σ1 hC => ?_)
        refine gj_callSNI (As := [.int r2]) (st := []) X (c_Gl_isNonterminal l dC dI h cI cL cZ σ1 r2 _ hC) ⟨gj_cwN X tw_249 tw_1 tn_467 hd_Gl_isNonterminal rfl rfl ⟨Nat.le_of_ble_eq_true rfl, Nat.le_of_ble_eq_true rfl⟩, X.2.2.2.2.1 _ tw_248, trivial⟩ hA rfl (Nat.le_of_ble_eq_true rfl) ⟨Nat.zero_le _, Nat.zero_le _⟩ d_Gr_nonterminalsIn_20 rfl (fun r4 σ3 hC => ?_)
        obtain ⟨hC, hb⟩ := hC
        refine gj_if_eq (tgt := 29) X d_Gr_nonterminalsIn_23 (by decide) (fun c0 => ?_) (fun c0 => ?_)
        · have hC := hC.1 c0
          obtain ⟨v5, ev5⟩ : ∃ y : Int32, y = v_3 + 1 := ⟨_, rfl⟩
          have hC := hC v5 ev5
          refine gj_iinc (v := v5) (L' := [(3, .int v5), (0, .ref (h 2)), (1, .int v_1), (2, .int v_2)]) X d_Gr_nonterminalsIn_29 3 rfl (by rw [ev5]; rfl) (by decide) rfl ?_
          refine gj_goto (tgt := 4) X d_Gr_nonterminalsIn_32 (by decide) ?_
          exact gj_loc [1, 2, 3, 0] rfl hC
        · have hC := hC.2 c0
          obtain ⟨v6, ev6⟩ : ∃ y : Int32, y = v_2 + 1 := ⟨_, rfl⟩
          have hC := hC v6 ev6
          refine gj_iinc (v := v6) (L' := [(2, .int v6), (0, .ref (h 2)), (1, .int v_1), (3, .int v_3)]) X d_Gr_nonterminalsIn_26 2 rfl (by rw [ev6]; rfl) (by decide) rfl ?_
          obtain ⟨v7, ev7⟩ : ∃ y : Int32, y = v_3 + 1 := ⟨_, rfl⟩
          have hC := hC v7 ev7
          refine gj_iinc (v := v7) (L' := [(3, .int v7), (2, .int v6), (0, .ref (h 2)), (1, .int v_1)]) X d_Gr_nonterminalsIn_29 3 rfl (by rw [ev7]; rfl) (by decide) rfl ?_
          refine gj_goto (tgt := 4) X d_Gr_nonterminalsIn_32 (by decide) ?_
          exact gj_loc [2, 3, 1, 0] rfl hC)
  refine gj_iconst (v := 0) X d_Gr_nonterminalsIn_0 (by decide) ?_
  refine gj_istore_n (L' := [(2, .int (0 : Int32)), (0, .ref (h 2)), (1, .int a0)]) X d_Gr_nonterminalsIn_1 rfl (by decide) rfl ?_
  refine gj_iconst (v := 0) X d_Gr_nonterminalsIn_2 (by decide) ?_
  refine gj_istore_n (L' := [(3, .int (0 : Int32)), (2, .int (0 : Int32)), (0, .ref (h 2)), (1, .int a0)]) X d_Gr_nonterminalsIn_3 rfl (by decide) rfl ?_
  exact gj_loc [2, 3, 1, 0] rfl hC
abbrev rm_Dr_addRule : Room := { frames := 0, cells := 0, slots := 0, locals := 0 }
set_option maxHeartbeats 4000000 in
set_option maxRecDepth 100000 in
theorem c_Dr_addRule (l : Launch) (dC : Nat → ClassId) (dI : Nat → Nat → Nat) (h : Nat → Nat) (cI cL cZ : ClassId) (σ : gs_St) (a0 : Int32) (K : gs_St → Prop) (hC : C_Dr_addRule a0 σ K) : gj_MV 0 0 l y_Dr_addRule (gj_ws y_Dr_addRule b_Dr_addRule 2 (none)) rm_Dr_addRule (dC, dI) gs_C (gs_T cI cL cZ) ((wG h cI cL) σ) (wG h cI cL) [.ref (h 26), .int a0] K := by
  refine gj_enterV (by decide) (Nat.le_of_ble_eq_true rfl) (fun p e s m args below meth c A X hr hlk hA hnm => ?_)
  change gj_J p l e rm_Dr_addRule s m args below meth c 0 0 (MQ below (va_Qv K (gj_at (dC, dI) gs_C (gs_T cI cL cZ) (wG h cI cL) A) A) args s 0 0 A) (dC, dI) gs_C A 2 0 [(0, .ref (h 26)), (1, .int a0)] [] ((wG h cI cL) σ)
  refine gj_aload_n X d_Dr_addRule_0 rfl 0 rfl ?_
  refine gj_get X inX1 26 rfl rfl 2 (by decide) tw_153 rfl rfl d_Dr_addRule_1 ?_
  refine gj_sipush (v := 200) X d_Dr_addRule_4 (by decide) ?_
  refine gj_icmp_ge (tgt := 30) X d_Dr_addRule_7 (by decide) (fun c0 => ?_) (fun c0 => ?_)
  · have hC := hC.1 c0
    exact gj_vret X hr hlk hC d_Dr_addRule_30
  · have hC := hC.2 c0
    refine gj_aload_n X d_Dr_addRule_10 rfl 0 rfl ?_
    refine gj_get X inX1 26 rfl rfl 0 (by decide) tw_149 rfl rfl d_Dr_addRule_11 ?_
    refine gj_aload_n X d_Dr_addRule_14 rfl 0 rfl ?_
    refine gj_get X inX1 26 rfl rfl 2 (by decide) tw_153 rfl rfl d_Dr_addRule_15 ?_
    refine gj_iload_n X d_Dr_addRule_18 rfl 1 rfl ?_
    refine gj_iast (w' := (wG h cI cL) (gs_A σ 12 (upd (σ.2.1 12) (σ.1 12).toNatClampNeg a0))) X 27 0 rfl rfl hC.1 (set_wG_A12 h cI cL σ _) d_Dr_addRule_19 ?_
    refine gj_topw (wof := (wG h cI cL)) (fun σ1 eσ1 => ?_)
    have hC := hC.2 σ1 eσ1
    refine gj_aload_n X d_Dr_addRule_20 rfl 0 rfl ?_
    refine gj_dup X d_Dr_addRule_21 rfl ?_
    refine gj_get X inX1 26 rfl rfl 2 (by decide) tw_153 rfl rfl d_Dr_addRule_22 ?_
    refine gj_iconst (v := 1) X d_Dr_addRule_25 (by decide) ?_
    refine gj_iadd X d_Dr_addRule_26 ?_
    refine gj_put (w' := (wG h cI cL) (gs_I σ1 12 ((σ1.1 12) + (1 : Int32)))) X inX1 tyX1 tyX1_ok nmX1 26 rfl rfl 2 (by decide) tw_153 rfl rfl (tyX1_ok 2 (by decide)) rfl rfl (Nat.le_of_ble_eq_true rfl) (set_wG_I12 h cI cL σ1 _) d_Dr_addRule_27 ?_
    refine gj_topw (wof := (wG h cI cL)) (fun σ2 eσ2 => ?_)
    have hC := hC σ2 eσ2
    exact gj_vret X hr hlk hC d_Dr_addRule_30
abbrev rm_Co_endingsWith : Room := { frames := 1, cells := 0, slots := 0, locals := 23 }
set_option maxHeartbeats 4000000 in
set_option maxRecDepth 100000 in
theorem c_Co_endingsWith (l : Launch) (dC : Nat → ClassId) (dI : Nat → Nat → Nat) (h : Nat → Nat) (cI cL cZ : ClassId) (σ : gs_St) (a0 : Int32) (a1 : Int32) (a2 : Int32) (a3 : Int32) (K : Int64 → gs_St → Prop) (hC : C_Co_endingsWith a0 a1 a2 a3 σ K) : gj_ML l y_Co_endingsWith (gj_ws y_Co_endingsWith b_Co_endingsWith 8 (some .long)) rm_Co_endingsWith (dC, dI) gs_C (gs_T cI cL cZ) ((wG h cI cL) σ) (wG h cI cL) [.ref (h 12), .int a0, .int a1, .int a2, .int a3] K := by
  refine gj_enterL (by decide) (Nat.le_of_ble_eq_true rfl) (fun p e s m args below meth c A X hr hlk hA hnm => ?_)
  change gj_J p l e rm_Co_endingsWith s m args below meth c 0 0 (MQ below (va_Ql K (gj_at (dC, dI) gs_C (gs_T cI cL cZ) (wG h cI cL) A) A) args s 0 0 A) (dC, dI) gs_C A 8 0 [(0, .ref (h 12)), (1, .int a0), (2, .int a1), (3, .int a2), (4, .int a3)] [] ((wG h cI cL) σ)
  have hC := hC
    (fun (v_1 : Int32) (v_2 : Int32) (v_3 : Int32) (v_4 : Int32) (v_5 : Int32) (s_0 : Int64) (σ : gs_St) => gj_J p l e rm_Co_endingsWith s m args below meth c 0 0 (MQ below (va_Ql K (gj_at (dC, dI) gs_C (gs_T cI cL cZ) (wG h cI cL) A) A) args s 0 0 A) (dC, dI) gs_C A 8 21 [(0, .ref (h 12)), (1, .int v_1), (2, .int v_2), (3, .int v_3), (4, .int v_4), (5, .int v_5)] [.long s_0] ((wG h cI cL) σ))
    (by
      intro v_1 v_2 v_3 v_4 v_5 s_0 σ hC
      refine gj_lstore (L' := [(6, .long s_0), (0, .ref (h 12)), (1, .int v_1), (2, .int v_2), (3, .int v_3), (4, .int v_4), (5, .int v_5)]) X d_Co_endingsWith_21 (by decide) rfl ?_
      refine gj_iload X d_Co_endingsWith_23 6 rfl ?_
      refine gj_callSNI (As := [.int v_5]) (st := []) X (c_Gl_isNonterminal l dC dI h cI cL cZ σ v_5 _ hC) ⟨gj_cwN X tw_249 tw_1 tn_395 hd_Gl_isNonterminal rfl rfl ⟨Nat.le_of_ble_eq_true rfl, Nat.le_of_ble_eq_true rfl⟩, X.2.2.2.2.1 _ tw_248, trivial⟩ hA rfl (Nat.le_of_ble_eq_true rfl) ⟨Nat.zero_le _, Nat.zero_le _⟩ d_Co_endingsWith_25 rfl (fun r4 σ3 hC => ?_)
      obtain ⟨hC, hb⟩ := hC
      refine gj_if_eq (tgt := 45) X d_Co_endingsWith_28 (by decide) (fun c0 => ?_) (fun c0 => ?_)
      · have hC := hC.1 c0
        refine gj_lload X d_Co_endingsWith_45 0 rfl ?_
        refine gj_aload_n X d_Co_endingsWith_47 rfl 1 rfl ?_
        refine gj_get X inX0 12 rfl rfl 3 (by decide) tw_94 rfl rfl d_Co_endingsWith_48 ?_
        refine gj_iload_n X d_Co_endingsWith_51 rfl 2 rfl ?_
        refine gj_iload_n X d_Co_endingsWith_52 rfl 3 rfl ?_
        refine gj_iconst (v := 1) X d_Co_endingsWith_53 (by decide) ?_
        refine gj_iadd X d_Co_endingsWith_54 ?_
        refine gj_callSI (As := [.int v_1, .int (v_2 + (1 : Int32))]) (st := [.ref (h 14), .long s_0]) X (c_Co_endingsAt l dC dI h cI cL cZ σ3 v_1 (v_2 + (1 : Int32)) _ hC) ⟨gj_cwB X tw_393 tw_5 tw_391 hd_Co_endingsAt rfl rfl ⟨Nat.le_of_ble_eq_true rfl, Nat.le_of_ble_eq_true rfl⟩, X.2.2.2.2.1 _ tw_392⟩ hA rfl (Nat.le_of_ble_eq_true rfl) ⟨Nat.zero_le _, Nat.zero_le _⟩ d_Co_endingsWith_55 rfl (fun r6 σ5 hC => ?_)
        refine gj_iload X d_Co_endingsWith_58 5 rfl ?_
        refine gj_iadd X d_Co_endingsWith_60 ?_
        refine gj_iload_n X d_Co_endingsWith_61 rfl 4 rfl ?_
        refine gj_isub X d_Co_endingsWith_62 ?_
        refine gj_lald X 14 1 rfl rfl hC.1 d_Co_endingsWith_63 ?_
        have hC := hC.2
        refine gj_callSL (As := [.long s_0, .long (σ5.2.2 1 ((r6 + v_4) - v_3).toNatClampNeg)]) (st := []) X (c_Co_times l dC dI h cI cL cZ σ5 s_0 (σ5.2.2 1 ((r6 + v_4) - v_3).toNatClampNeg) _ hC) ⟨gj_cwB X tw_402 tw_5 tw_400 hd_Co_times rfl rfl ⟨Nat.le_of_ble_eq_true rfl, Nat.le_of_ble_eq_true rfl⟩, X.2.2.2.2.1 _ tw_401⟩ hA rfl (Nat.le_of_ble_eq_true rfl) ⟨Nat.zero_le _, Nat.zero_le _⟩ d_Co_endingsWith_64 rfl (fun r8 σ7 hC => ?_)
        exact gj_lret X hr hlk hC d_Co_endingsWith_67
      · have hC := hC.2 c0
        refine gj_aload_n X d_Co_endingsWith_31 rfl 1 rfl ?_
        refine gj_get X inX0 12 rfl rfl 2 (by decide) tw_93 rfl rfl d_Co_endingsWith_32 ?_
        refine gj_iload X d_Co_endingsWith_35 6 rfl ?_
        refine gj_bipush (v := 17) X d_Co_endingsWith_37 (by decide) ?_
        refine gj_imul X d_Co_endingsWith_39 ?_
        refine gj_iload_n X d_Co_endingsWith_40 rfl 4 rfl ?_
        refine gj_iadd X d_Co_endingsWith_41 ?_
        refine gj_lald X 13 1 rfl rfl hC.1 d_Co_endingsWith_42 ?_
        have hC := hC.2
        refine gj_topl (fun v9 ev9 => ?_)
        have hC := hC v9 ev9
        refine gj_lstore (L' := [(6, .long v9), (0, .ref (h 12)), (1, .int v_1), (2, .int v_2), (3, .int v_3), (4, .int v_4), (5, .int v_5)]) X d_Co_endingsWith_43 (by decide) rfl ?_
        refine gj_lload X d_Co_endingsWith_45 0 rfl ?_
        refine gj_aload_n X d_Co_endingsWith_47 rfl 1 rfl ?_
        refine gj_get X inX0 12 rfl rfl 3 (by decide) tw_94 rfl rfl d_Co_endingsWith_48 ?_
        refine gj_iload_n X d_Co_endingsWith_51 rfl 2 rfl ?_
        refine gj_iload_n X d_Co_endingsWith_52 rfl 3 rfl ?_
        refine gj_iconst (v := 1) X d_Co_endingsWith_53 (by decide) ?_
        refine gj_iadd X d_Co_endingsWith_54 ?_
        refine gj_callSI (As := [.int v_1, .int (v_2 + (1 : Int32))]) (st := [.ref (h 14), .long v9]) X (c_Co_endingsAt l dC dI h cI cL cZ σ3 v_1 (v_2 + (1 : Int32)) _ hC) ⟨gj_cwB X tw_393 tw_5 tw_391 hd_Co_endingsAt rfl rfl ⟨Nat.le_of_ble_eq_true rfl, Nat.le_of_ble_eq_true rfl⟩, X.2.2.2.2.1 _ tw_392⟩ hA rfl (Nat.le_of_ble_eq_true rfl) ⟨Nat.zero_le _, Nat.zero_le _⟩ d_Co_endingsWith_55 rfl (fun r11 σ10 hC => ?_)
        refine gj_iload X d_Co_endingsWith_58 5 rfl ?_
        refine gj_iadd X d_Co_endingsWith_60 ?_
        refine gj_iload_n X d_Co_endingsWith_61 rfl 4 rfl ?_
        refine gj_isub X d_Co_endingsWith_62 ?_
        refine gj_lald X 14 1 rfl rfl hC.1 d_Co_endingsWith_63 ?_
        have hC := hC.2
        refine gj_callSL (As := [.long v9, .long (σ10.2.2 1 ((r11 + v_4) - v_3).toNatClampNeg)]) (st := []) X (c_Co_times l dC dI h cI cL cZ σ10 v9 (σ10.2.2 1 ((r11 + v_4) - v_3).toNatClampNeg) _ hC) ⟨gj_cwB X tw_402 tw_5 tw_400 hd_Co_times rfl rfl ⟨Nat.le_of_ble_eq_true rfl, Nat.le_of_ble_eq_true rfl⟩, X.2.2.2.2.1 _ tw_401⟩ hA rfl (Nat.le_of_ble_eq_true rfl) ⟨Nat.zero_le _, Nat.zero_le _⟩ d_Co_endingsWith_64 rfl (fun r13 σ12 hC => ?_)
        exact gj_lret X hr hlk hC d_Co_endingsWith_67)
  refine gj_aload_n X d_Co_endingsWith_0 rfl 0 rfl ?_
  refine gj_get X inX0 12 rfl rfl 0 (by decide) tw_91 rfl rfl d_Co_endingsWith_1 ?_
  refine gj_iload_n X d_Co_endingsWith_4 rfl 1 rfl ?_
  refine gj_iload_n X d_Co_endingsWith_5 rfl 2 rfl ?_
  refine gj_callVI (As := [.int a0, .int a1]) (st := []) X (c_Gr_symbolAt l dC dI h cI cL cZ σ a0 a1 _ hC) ⟨gj_cwB X tw_288 tw_2 tw_394 hd_Gr_symbolAt rfl rfl ⟨Nat.le_of_ble_eq_true rfl, Nat.le_of_ble_eq_true rfl⟩, X.2.2.2.2.1 _ tw_286, X.2.2.2.2.1 _ tw_287⟩ 2 rfl rfl hA rfl (Nat.le_of_ble_eq_true rfl) ⟨Nat.zero_le _, Nat.zero_le _⟩ d_Co_endingsWith_6 rfl (fun r2 σ1 hC => ?_)
  refine gj_istore (L' := [(5, .int r2), (0, .ref (h 12)), (1, .int a0), (2, .int a1), (3, .int a2), (4, .int a3)]) X d_Co_endingsWith_9 (by decide) rfl ?_
  refine gj_iload_n X d_Co_endingsWith_11 rfl 4 rfl ?_
  refine gj_iconst (v := 1) X d_Co_endingsWith_12 (by decide) ?_
  refine gj_icmp_ne (tgt := 20) X d_Co_endingsWith_13 (by decide) (fun c0 => ?_) (fun c0 => ?_)
  · have hC := hC.1 c0
    refine gj_lconst (v := 0) X d_Co_endingsWith_20 (by decide) ?_
    exact gj_loc [1, 2, 3, 4, 5, 0] rfl hC
  · have hC := hC.2 c0
    refine gj_lconst (v := 1) X d_Co_endingsWith_16 (by decide) ?_
    refine gj_goto (tgt := 21) X d_Co_endingsWith_17 (by decide) ?_
    exact gj_loc [1, 2, 3, 4, 5, 0] rfl hC
abbrev rm_We_unfoldRule : Room := { frames := 2, cells := 0, slots := 0, locals := 50 }
set_option maxHeartbeats 4000000 in
set_option maxRecDepth 100000 in
theorem c_We_unfoldRule (l : Launch) (dC : Nat → ClassId) (dI : Nat → Nat → Nat) (h : Nat → Nat) (cI cL cZ : ClassId) (σ : gs_St) (a0 : Int32) (a1 : Int32) (a2 : Int64) (K : Int32 → gs_St → Prop) (hC : C_We_unfoldRule a0 a1 a2 σ K) : gj_MI l y_We_unfoldRule (gj_ws y_We_unfoldRule b_We_unfoldRule 15 (some .boolean)) rm_We_unfoldRule (dC, dI) gs_C (gs_T cI cL cZ) ((wG h cI cL) σ) (wG h cI cL) [.ref (h 22), .int a0, .int a1, .long a2] (fun r u => K r u ∧ (r = 0 ∨ r = 1)) := by
  refine gj_enterZ (by decide) (Nat.le_of_ble_eq_true rfl) (fun p e s m args below meth c A X hr hlk hA hnm => ?_)
  change gj_J p l e rm_We_unfoldRule s m args below meth c 0 0 (MQ below (va_Qi (fun r u => K r u ∧ (r = 0 ∨ r = 1)) (gj_at (dC, dI) gs_C (gs_T cI cL cZ) (wG h cI cL) A) A) args s 0 0 A) (dC, dI) gs_C A 15 0 [(0, .ref (h 22)), (1, .int a0), (2, .int a1), (3, .long a2)] [] ((wG h cI cL) σ)
  have hC := hC
    (fun (v_1 : Int32) (v_5 : Int32) (v_6 : Int32) (v_7 : Int64) (v_9 : Int32) (σ : gs_St) => gj_J p l e rm_We_unfoldRule s m args below meth c 0 0 (MQ below (va_Qi (fun r u => K r u ∧ (r = 0 ∨ r = 1)) (gj_at (dC, dI) gs_C (gs_T cI cL cZ) (wG h cI cL) A) A) args s 0 0 A) (dC, dI) gs_C A 15 68 [(0, .ref (h 22)), (1, .int v_1), (5, .int v_5), (6, .int v_6), (7, .long v_7), (9, .int v_9)] [] ((wG h cI cL) σ))
    (fun (v_1 : Int32) (v_5 : Int32) (v_6 : Int32) (v_7 : Int64) (v_9 : Int32) (v_10 : Int32) (v_11 : Int64) (σ : gs_St) => gj_J p l e rm_We_unfoldRule s m args below meth c 0 0 (MQ below (va_Qi (fun r u => K r u ∧ (r = 0 ∨ r = 1)) (gj_at (dC, dI) gs_C (gs_T cI cL cZ) (wG h cI cL) A) A) args s 0 0 A) (dC, dI) gs_C A 15 94 [(0, .ref (h 22)), (1, .int v_1), (5, .int v_5), (6, .int v_6), (7, .long v_7), (9, .int v_9), (10, .int v_10), (11, .long v_11)] [] ((wG h cI cL) σ))
    (fun (v_1 : Int32) (v_5 : Int32) (v_6 : Int32) (v_7 : Int64) (v_9 : Int32) (v_10 : Int32) (σ : gs_St) => gj_J p l e rm_We_unfoldRule s m args below meth c 0 0 (MQ below (va_Qi (fun r u => K r u ∧ (r = 0 ∨ r = 1)) (gj_at (dC, dI) gs_C (gs_T cI cL cZ) (wG h cI cL) A) A) args s 0 0 A) (dC, dI) gs_C A 15 138 [(0, .ref (h 22)), (1, .int v_1), (5, .int v_5), (6, .int v_6), (7, .long v_7), (9, .int v_9), (10, .int v_10)] [] ((wG h cI cL) σ))
    (by
      intro v_1 v_5 v_6 v_7 v_9 σ hC
      refine gj_iload X d_We_unfoldRule_68 5 rfl ?_
      refine gj_iload X d_We_unfoldRule_70 2 rfl ?_
      refine gj_icmp_ge (tgt := 217) X d_We_unfoldRule_72 (by decide) (fun c0 => ?_) (fun c0 => ?_)
      · have hC := hC.1 c0
        refine gj_aload_n X d_We_unfoldRule_217 rfl 0 rfl ?_
        refine gj_get X inX7 22 rfl rfl 2 (by decide) tw_168 rfl rfl d_We_unfoldRule_218 ?_
        refine gj_dup X d_We_unfoldRule_221 rfl ?_
        refine gj_getN X inX6 18 rfl rfl 3 (by decide) tn_127 rfl rfl d_We_unfoldRule_222 ?_
        refine gj_iload X d_We_unfoldRule_225 2 rfl ?_
        refine gj_iadd X d_We_unfoldRule_227 ?_
        refine gj_putN (w' := (wG h cI cL) (gs_I σ 8 ((σ.1 8) + v_5))) X inX6 tyX6 tyX6_ok nmX6 18 rfl rfl 3 (by decide) tn_127 rfl rfl (tyX6_ok 3 (by decide)) rfl rfl (Nat.le_of_ble_eq_true rfl) (set_wG_I8 h cI cL σ _) d_We_unfoldRule_228 ?_
        refine gj_topw (wof := (wG h cI cL)) (fun σ7 eσ7 => ?_)
        have hC := hC σ7 eσ7
        refine gj_iconst (v := 1) X d_We_unfoldRule_231 (by decide) ?_
        exact gj_zret X hr hlk (by decide) ⟨hC, Or.inr rfl⟩ d_We_unfoldRule_232
      · have hC := hC.2 c0
        refine gj_iconst (v := 0) X d_We_unfoldRule_75 (by decide) ?_
        refine gj_istore (L' := [(10, .int (0 : Int32)), (0, .ref (h 22)), (1, .int v_1), (5, .int v_5), (6, .int v_6), (7, .long v_7), (9, .int v_9)]) X d_We_unfoldRule_76 (by decide) rfl ?_
        refine gj_aload_n X d_We_unfoldRule_78 rfl 1 rfl ?_
        refine gj_get X inX7 22 rfl rfl 1 (by decide) tw_167 rfl rfl d_We_unfoldRule_79 ?_
        refine gj_iload_n X d_We_unfoldRule_82 rfl 2 rfl ?_
        refine gj_iload X d_We_unfoldRule_83 6 rfl ?_
        refine gj_iload X d_We_unfoldRule_85 0 rfl ?_
        refine gj_iload X d_We_unfoldRule_87 4 rfl ?_
        refine gj_callVL (As := [.int v_1, .int v_9, .int (0 : Int32), .int v_6]) (st := []) X (c_Co_endingsWith l dC dI h cI cL cZ σ v_1 v_9 (0 : Int32) v_6 _ hC) ⟨gj_cwB X tw_476 tw_5 tw_473 hd_Co_endingsWith rfl rfl ⟨Nat.le_of_ble_eq_true rfl, Nat.le_of_ble_eq_true rfl⟩, X.2.2.2.2.1 _ tw_474, X.2.2.2.2.1 _ tw_475⟩ 12 rfl rfl hA rfl (Nat.le_of_ble_eq_true rfl) ⟨Nat.zero_le _, Nat.zero_le _⟩ d_We_unfoldRule_89 rfl (fun r9 σ8 hC => ?_)
        refine gj_lstore (L' := [(11, .long r9), (10, .int (0 : Int32)), (0, .ref (h 22)), (1, .int v_1), (5, .int v_5), (6, .int v_6), (7, .long v_7), (9, .int v_9)]) X d_We_unfoldRule_92 (by decide) rfl ?_
        exact gj_loc [2, 3, 4, 5, 6, 7, 1, 0] rfl hC)
    (by
      intro v_1 v_5 v_6 v_7 v_9 v_10 v_11 σ hC
      refine gj_iload X d_We_unfoldRule_94 6 rfl ?_
      refine gj_iload X d_We_unfoldRule_96 3 rfl ?_
      refine gj_icmp_ge (tgt := 138) X d_We_unfoldRule_98 (by decide) (fun c0 => ?_) (fun c0 => ?_)
      · have hC := hC.1 c0
        exact gj_loc [0, 1, 2, 3, 4, 5, 6] rfl hC
      · have hC := hC.2 c0
        refine gj_lload X d_We_unfoldRule_101 4 rfl ?_
        refine gj_lload X d_We_unfoldRule_103 7 rfl ?_
        refine gj_lcmp_lt (tgt := 138) X d_We_unfoldRule_105 d_We_unfoldRule_106 (by decide) (fun c0 => ?_) (fun c0 => ?_)
        · have hC := hC.1 c0
          exact gj_loc [0, 1, 2, 3, 4, 5, 6] rfl hC
        · have hC := hC.2 c0
          refine gj_lload X d_We_unfoldRule_109 4 rfl ?_
          refine gj_lload X d_We_unfoldRule_111 7 rfl ?_
          refine gj_lsub X d_We_unfoldRule_113 ?_
          refine gj_topl (fun v10 ev10 => ?_)
          have hC := hC v10 ev10
          refine gj_lstore (L' := [(7, .long v10), (0, .ref (h 22)), (1, .int v_1), (5, .int v_5), (6, .int v_6), (9, .int v_9), (10, .int v_10), (11, .long v_11)]) X d_We_unfoldRule_114 (by decide) rfl ?_
          obtain ⟨v11, ev11⟩ : ∃ y : Int32, y = v_10 + 1 := ⟨_, rfl⟩
          have hC := hC v11 ev11
          refine gj_iinc (v := v11) (L' := [(10, .int v11), (7, .long v10), (0, .ref (h 22)), (1, .int v_1), (5, .int v_5), (6, .int v_6), (9, .int v_9), (11, .long v_11)]) X d_We_unfoldRule_116 6 rfl (by rw [ev11]; rfl) (by decide) rfl ?_
          refine gj_aload_n X d_We_unfoldRule_119 rfl 2 rfl ?_
          refine gj_get X inX7 22 rfl rfl 1 (by decide) tw_167 rfl rfl d_We_unfoldRule_120 ?_
          refine gj_iload_n X d_We_unfoldRule_123 rfl 3 rfl ?_
          refine gj_iload X d_We_unfoldRule_124 6 rfl ?_
          refine gj_iload X d_We_unfoldRule_126 0 rfl ?_
          refine gj_iload X d_We_unfoldRule_128 5 rfl ?_
          refine gj_callVL (As := [.int v_1, .int v_9, .int v11, .int v_6]) (st := []) X (c_Co_endingsWith l dC dI h cI cL cZ σ v_1 v_9 v11 v_6 _ hC) ⟨gj_cwB X tw_476 tw_5 tw_473 hd_Co_endingsWith rfl rfl ⟨Nat.le_of_ble_eq_true rfl, Nat.le_of_ble_eq_true rfl⟩, X.2.2.2.2.1 _ tw_474, X.2.2.2.2.1 _ tw_475⟩ 12 rfl rfl hA rfl (Nat.le_of_ble_eq_true rfl) ⟨Nat.zero_le _, Nat.zero_le _⟩ d_We_unfoldRule_130 rfl (fun r13 σ12 hC => ?_)
          refine gj_lstore (L' := [(11, .long r13), (10, .int v11), (7, .long v10), (0, .ref (h 22)), (1, .int v_1), (5, .int v_5), (6, .int v_6), (9, .int v_9)]) X d_We_unfoldRule_133 (by decide) rfl ?_
          refine gj_goto (tgt := 94) X d_We_unfoldRule_135 (by decide) ?_
          exact gj_loc [3, 4, 5, 6, 2, 7, 1, 0] rfl hC)
    (by
      intro v_1 v_5 v_6 v_7 v_9 v_10 σ hC
      refine gj_iload X d_We_unfoldRule_138 3 rfl ?_
      refine gj_iload X d_We_unfoldRule_140 6 rfl ?_
      refine gj_isub X d_We_unfoldRule_142 ?_
      refine gj_topi (fun v14 ev14 => ?_)
      have hC := hC v14 ev14
      refine gj_istore (L' := [(6, .int v14), (0, .ref (h 22)), (1, .int v_1), (5, .int v_5), (7, .long v_7), (9, .int v_9), (10, .int v_10)]) X d_We_unfoldRule_143 (by decide) rfl ?_
      refine gj_lconst (v := 1) X d_We_unfoldRule_145 (by decide) ?_
      refine gj_aload_n X d_We_unfoldRule_146 rfl 1 rfl ?_
      refine gj_get X inX7 22 rfl rfl 1 (by decide) tw_167 rfl rfl d_We_unfoldRule_147 ?_
      refine gj_iload_n X d_We_unfoldRule_150 rfl 2 rfl ?_
      refine gj_iload X d_We_unfoldRule_151 5 rfl ?_
      refine gj_iconst (v := 1) X d_We_unfoldRule_153 (by decide) ?_
      refine gj_iadd X d_We_unfoldRule_154 ?_
      refine gj_iload X d_We_unfoldRule_155 0 rfl ?_
      refine gj_callVL (As := [.int v_1, .int (v_9 + (1 : Int32)), .int v14]) (st := [.long (1 : Int64)]) X (c_Co_endingsOf l dC dI h cI cL cZ σ v_1 (v_9 + (1 : Int32)) v14 _ hC) ⟨gj_cwB X tw_414 tw_5 tw_457 hd_Co_endingsOf rfl rfl ⟨Nat.le_of_ble_eq_true rfl, Nat.le_of_ble_eq_true rfl⟩, X.2.2.2.2.1 _ tw_412, X.2.2.2.2.1 _ tw_413⟩ 12 rfl rfl hA rfl (Nat.le_of_ble_eq_true rfl) ⟨Nat.zero_le _, Nat.zero_le _⟩ d_We_unfoldRule_157 rfl (fun r16 σ15 hC => ?_)
      refine gj_mmaxl X tw_477 tw_478 tw_13 tw_479 (Nat.le_of_ble_eq_true rfl) (Nat.le_of_ble_eq_true rfl) (Nat.zero_le _) (Nat.zero_le _) d_We_unfoldRule_160 ?_
      refine gj_topl (fun v17 ev17 => ?_)
      have hC := hC v17 ev17
      refine gj_lstore (L' := [(13, .long v17), (6, .int v14), (0, .ref (h 22)), (1, .int v_1), (5, .int v_5), (7, .long v_7), (9, .int v_9), (10, .int v_10)]) X d_We_unfoldRule_163 (by decide) rfl ?_
      refine gj_aload_n X d_We_unfoldRule_165 rfl 2 rfl ?_
      refine gj_get X inX7 22 rfl rfl 2 (by decide) tw_168 rfl rfl d_We_unfoldRule_166 ?_
      refine gj_aload_n X d_We_unfoldRule_169 rfl 2 rfl ?_
      refine gj_get X inX7 22 rfl rfl 2 (by decide) tw_168 rfl rfl d_We_unfoldRule_170 ?_
      refine gj_getN X inX6 18 rfl rfl 3 (by decide) tn_127 rfl rfl d_We_unfoldRule_173 ?_
      refine gj_iload X d_We_unfoldRule_176 4 rfl ?_
      refine gj_iadd X d_We_unfoldRule_178 ?_
      refine gj_iconst (v := 1) X d_We_unfoldRule_179 (by decide) ?_
      refine gj_isub X d_We_unfoldRule_180 ?_
      refine gj_iload X d_We_unfoldRule_181 6 rfl ?_
      refine gj_isub X d_We_unfoldRule_183 ?_
      refine gj_aload_n X d_We_unfoldRule_184 rfl 2 rfl ?_
      refine gj_get X inX7 22 rfl rfl 0 (by decide) tw_166 rfl rfl d_We_unfoldRule_185 ?_
      refine gj_iload_n X d_We_unfoldRule_188 rfl 3 rfl ?_
      refine gj_iload X d_We_unfoldRule_189 6 rfl ?_
      refine gj_callVI (As := [.int v_1, .int v_9]) (st := [.int ((((σ15.1 8) + v_5) - (1 : Int32)) - v_9), .ref (h 18)]) X (c_Gr_symbolAt l dC dI h cI cL cZ σ15 v_1 v_9 _ hC) ⟨gj_cwB X tw_288 tw_2 tw_480 hd_Gr_symbolAt rfl rfl ⟨Nat.le_of_ble_eq_true rfl, Nat.le_of_ble_eq_true rfl⟩, X.2.2.2.2.1 _ tw_286, X.2.2.2.2.1 _ tw_287⟩ 2 rfl rfl hA rfl (Nat.le_of_ble_eq_true rfl) ⟨Nat.zero_le _, Nat.zero_le _⟩ d_We_unfoldRule_191 rfl (fun r19 σ18 hC => ?_)
      refine gj_iload X d_We_unfoldRule_194 7 rfl ?_
      refine gj_lload X d_We_unfoldRule_196 5 rfl ?_
      refine gj_lload X d_We_unfoldRule_198 0 rfl ?_
      refine gj_ldiv X d_We_unfoldRule_200 hC.1 ?_
      have hC := hC.2
      refine gj_callVV (As := [.int ((((σ15.1 8) + v_5) - (1 : Int32)) - v_9), .int r19, .int v_10, .long (v_7 / v17)]) (st := []) X (c_Pi_put l dC dI h cI cL cZ σ18 ((((σ15.1 8) + v_5) - (1 : Int32)) - v_9) r19 v_10 (v_7 / v17) _ hC) ⟨gj_cwB X tw_446 tw_6 tw_443 hd_Pi_put rfl rfl ⟨Nat.le_of_ble_eq_true rfl, Nat.le_of_ble_eq_true rfl⟩, X.2.2.2.2.1 _ tw_444, X.2.2.2.2.1 _ tw_445⟩ 18 rfl rfl hA rfl (Nat.le_of_ble_eq_true rfl) ⟨Nat.zero_le _, Nat.zero_le _⟩ d_We_unfoldRule_201 rfl (fun σ20 hC => ?_)
      refine gj_lload X d_We_unfoldRule_204 5 rfl ?_
      refine gj_lload X d_We_unfoldRule_206 0 rfl ?_
      refine gj_lrem X d_We_unfoldRule_208 hC.1 ?_
      have hC := hC.2
      refine gj_topl (fun v21 ev21 => ?_)
      have hC := hC v21 ev21
      refine gj_lstore (L' := [(7, .long v21), (13, .long v17), (6, .int v14), (0, .ref (h 22)), (1, .int v_1), (5, .int v_5), (9, .int v_9), (10, .int v_10)]) X d_We_unfoldRule_209 (by decide) rfl ?_
      obtain ⟨v22, ev22⟩ : ∃ y : Int32, y = v_9 + 1 := ⟨_, rfl⟩
      have hC := hC v22 ev22
      refine gj_iinc (v := v22) (L' := [(9, .int v22), (7, .long v21), (13, .long v17), (6, .int v14), (0, .ref (h 22)), (1, .int v_1), (5, .int v_5), (10, .int v_10)]) X d_We_unfoldRule_211 6 rfl (by rw [ev22]; rfl) (by decide) rfl ?_
      refine gj_goto (tgt := 68) X d_We_unfoldRule_214 (by decide) ?_
      exact gj_loc [4, 5, 6, 3, 1, 0] rfl hC)
  refine gj_aload_n X d_We_unfoldRule_0 rfl 0 rfl ?_
  refine gj_dup X d_We_unfoldRule_1 rfl ?_
  refine gj_get X inX7 22 rfl rfl 5 (by decide) tw_171 rfl rfl d_We_unfoldRule_2 ?_
  refine gj_aload_n X d_We_unfoldRule_5 rfl 0 rfl ?_
  refine gj_get X inX7 22 rfl rfl 0 (by decide) tw_166 rfl rfl d_We_unfoldRule_6 ?_
  refine gj_iload_n X d_We_unfoldRule_9 rfl 1 rfl ?_
  refine gj_callVI (As := [.int a0]) (st := [.int (σ.1 9), .ref (h 22)]) X (c_Gr_nonterminalsIn l dC dI h cI cL cZ σ a0 _ hC) ⟨gj_cwB X tw_465 tw_2 tw_462 hd_Gr_nonterminalsIn rfl rfl ⟨Nat.le_of_ble_eq_true rfl, Nat.le_of_ble_eq_true rfl⟩, X.2.2.2.2.1 _ tw_463, X.2.2.2.2.1 _ tw_464⟩ 2 rfl rfl hA rfl (Nat.le_of_ble_eq_true rfl) ⟨Nat.zero_le _, Nat.zero_le _⟩ d_We_unfoldRule_10 rfl (fun r2 σ1 hC => ?_)
  refine gj_iconst (v := 1) X d_We_unfoldRule_13 (by decide) ?_
  refine gj_isub X d_We_unfoldRule_14 ?_
  refine gj_iadd X d_We_unfoldRule_15 ?_
  refine gj_put (w' := (wG h cI cL) (gs_I σ1 9 ((σ.1 9) + (r2 - (1 : Int32))))) X inX7 tyX7 tyX7_ok nmX7 22 rfl rfl 5 (by decide) tw_171 rfl rfl (tyX7_ok 5 (by decide)) rfl rfl (Nat.le_of_ble_eq_true rfl) (set_wG_I9 h cI cL σ1 _) d_We_unfoldRule_16 ?_
  refine gj_topw (wof := (wG h cI cL)) (fun σ3 eσ3 => ?_)
  have hC := hC σ3 eσ3
  refine gj_aload_n X d_We_unfoldRule_19 rfl 0 rfl ?_
  refine gj_get X inX7 22 rfl rfl 4 (by decide) tw_170 rfl rfl d_We_unfoldRule_20 ?_
  refine gj_getN X inX1 26 rfl rfl 2 (by decide) tn_154 rfl rfl d_We_unfoldRule_23 ?_
  refine gj_iconst (v := 1) X d_We_unfoldRule_26 (by decide) ?_
  refine gj_iadd X d_We_unfoldRule_27 ?_
  refine gj_aload_n X d_We_unfoldRule_28 rfl 0 rfl ?_
  refine gj_get X inX7 22 rfl rfl 5 (by decide) tw_171 rfl rfl d_We_unfoldRule_29 ?_
  refine gj_iadd X d_We_unfoldRule_32 ?_
  refine gj_sipush (v := 200) X d_We_unfoldRule_33 (by decide) ?_
  refine gj_icmp_le (tgt := 41) X d_We_unfoldRule_36 (by decide) (fun c0 => ?_) (fun c0 => ?_)
  · have hC := hC.1 c0
    refine gj_aload_n X d_We_unfoldRule_41 rfl 0 rfl ?_
    refine gj_get X inX7 22 rfl rfl 4 (by decide) tw_170 rfl rfl d_We_unfoldRule_42 ?_
    refine gj_iload_n X d_We_unfoldRule_45 rfl 1 rfl ?_
    refine gj_callVV (As := [.int a0]) (st := []) X (c_Dr_addRule l dC dI h cI cL cZ σ3 a0 _ hC) ⟨gj_cwB X tw_471 tw_8 tw_468 hd_Dr_addRule rfl rfl ⟨Nat.le_of_ble_eq_true rfl, Nat.le_of_ble_eq_true rfl⟩, X.2.2.2.2.1 _ tw_469, X.2.2.2.2.1 _ tw_470⟩ 26 rfl rfl hA rfl (Nat.le_of_ble_eq_true rfl) ⟨Nat.zero_le _, Nat.zero_le _⟩ d_We_unfoldRule_46 rfl (fun σ4 hC => ?_)
    refine gj_aload_n X d_We_unfoldRule_49 rfl 0 rfl ?_
    refine gj_get X inX7 22 rfl rfl 0 (by decide) tw_166 rfl rfl d_We_unfoldRule_50 ?_
    refine gj_iload_n X d_We_unfoldRule_53 rfl 1 rfl ?_
    refine gj_callVI (As := [.int a0]) (st := []) X (c_Gr_sizeOf l dC dI h cI cL cZ σ4 a0 _ hC) ⟨gj_cwB X tw_280 tw_2 tw_472 hd_Gr_sizeOf rfl rfl ⟨Nat.le_of_ble_eq_true rfl, Nat.le_of_ble_eq_true rfl⟩, X.2.2.2.2.1 _ tw_278, X.2.2.2.2.1 _ tw_279⟩ 2 rfl rfl hA rfl (Nat.le_of_ble_eq_true rfl) ⟨Nat.zero_le _, Nat.zero_le _⟩ d_We_unfoldRule_54 rfl (fun r6 σ5 hC => ?_)
    refine gj_istore (L' := [(5, .int r6), (0, .ref (h 22)), (1, .int a0), (2, .int a1), (3, .long a2)]) X d_We_unfoldRule_57 (by decide) rfl ?_
    refine gj_iload_n X d_We_unfoldRule_59 rfl 3 rfl ?_
    refine gj_istore (L' := [(6, .int a1), (5, .int r6), (0, .ref (h 22)), (1, .int a0), (2, .int a1), (3, .long a2)]) X d_We_unfoldRule_60 (by decide) rfl ?_
    refine gj_lload_n X d_We_unfoldRule_62 rfl 5 rfl ?_
    refine gj_lstore (L' := [(7, .long a2), (6, .int a1), (5, .int r6), (0, .ref (h 22)), (1, .int a0), (2, .int a1), (3, .long a2)]) X d_We_unfoldRule_63 (by decide) rfl ?_
    refine gj_iconst (v := 0) X d_We_unfoldRule_65 (by decide) ?_
    refine gj_istore (L' := [(9, .int (0 : Int32)), (7, .long a2), (6, .int a1), (5, .int r6), (0, .ref (h 22)), (1, .int a0), (2, .int a1), (3, .long a2)]) X d_We_unfoldRule_66 (by decide) rfl ?_
    exact gj_loc [4, 5, 3, 2, 1, 0] rfl hC
  · have hC := hC.2 c0
    refine gj_iconst (v := 0) X d_We_unfoldRule_39 (by decide) ?_
    exact gj_zret X hr hlk (by decide) ⟨hC, Or.inl rfl⟩ d_We_unfoldRule_40
