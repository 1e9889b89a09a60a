abbrev rm_Mo_trees : Room := { frames := 4, cells := 0, slots := 0, locals := 97 }
set_option maxHeartbeats 4000000 in
set_option maxRecDepth 100000 in
theorem c_Mo_trees (l : Launch) (dC : Nat → ClassId) (dI : Nat → Nat → Nat) (h : Nat → Nat) (cI cL cZ : ClassId) (σ : gs_St) (a0 : Int32) (a1 : Int32) (K : Int64 → gs_St → Prop) (hC : C_Mo_trees a0 a1 σ K) : gj_ML l y_Mo_trees (gj_ws y_Mo_trees b_Mo_trees 5 (some .long)) rm_Mo_trees (dC, dI) gs_C (gs_T cI cL cZ) ((wM h cI cL cZ) σ) (wM h cI cL cZ) [.ref (h 0), .int a0, .int a1] K := by
  refine gj_enterL (by decide) (Nat.le_of_ble_eq_true rfl) (fun p e s m args below meth c A X hr hlk hA hnm => ?_)
  change gj_J p l e rm_Mo_trees s m args below meth c 0 0 (MQ below (va_Ql K (gj_at (dC, dI) gs_C (gs_T cI cL cZ) (wM h cI cL cZ) A) A) args s 0 0 A) (dC, dI) gs_C A 5 0 [(0, .ref (h 0)), (1, .int a0), (2, .int a1)] [] ((wM h cI cL cZ) σ)
  refine gj_iload_n X d_Mo_trees_0 rfl 1 rfl ?_
  refine gj_callSI (As := [.int a0]) (st := []) X (c_Mo_isNonterminal l dC dI h cI cL cZ σ a0 _ hC) ⟨gj_cwB X tw_644 tw_10 tw_642 hd_Mo_isNonterminal rfl rfl ⟨Nat.le_of_ble_eq_true rfl, Nat.le_of_ble_eq_true rfl⟩, X.2.2.2.2.1 _ tw_643⟩ hA rfl (Nat.le_of_ble_eq_true rfl) ⟨Nat.zero_le _, Nat.zero_le _⟩ d_Mo_trees_1 rfl (fun r2 σ1 hC => ?_)
  obtain ⟨hC, hb⟩ := hC
  refine gj_if_eq (tgt := 21) X d_Mo_trees_4 (by decide) (fun c0 => ?_) (fun c0 => ?_)
  · have hC := hC.1 c0
    refine gj_ldc2 (v := -1) X tw_706 d_Mo_trees_21 ?_
    exact gj_lret X hr hlk hC d_Mo_trees_24
  · have hC := hC.2 c0
    refine gj_iload_n X d_Mo_trees_7 rfl 2 rfl ?_
    refine gj_callSI (As := [.int a1]) (st := []) X (c_Mo_isLength l dC dI h cI cL cZ σ1 a1 _ hC) ⟨gj_cwB X tw_704 tw_10 tw_702 hd_Mo_isLength rfl rfl ⟨Nat.le_of_ble_eq_true rfl, Nat.le_of_ble_eq_true rfl⟩, X.2.2.2.2.1 _ tw_703⟩ hA rfl (Nat.le_of_ble_eq_true rfl) ⟨Nat.zero_le _, Nat.zero_le _⟩ d_Mo_trees_8 rfl (fun r4 σ3 hC => ?_)
    obtain ⟨hC, hb⟩ := hC
    refine gj_if_eq (tgt := 21) X d_Mo_trees_11 (by decide) (fun c0 => ?_) (fun c0 => ?_)
    · have hC := hC.1 c0
      refine gj_ldc2 (v := -1) X tw_706 d_Mo_trees_21 ?_
      exact gj_lret X hr hlk hC d_Mo_trees_24
    · have hC := hC.2 c0
      refine gj_aload_n X d_Mo_trees_14 rfl 0 rfl ?_
      refine gj_callVI (As := []) (st := []) X (c_Mo_circle l dC dI h cI cL cZ σ3 _ hC) ⟨gj_cwB X tw_689 tw_10 tw_705 hd_Mo_circle rfl rfl ⟨Nat.le_of_ble_eq_true rfl, Nat.le_of_ble_eq_true rfl⟩, X.2.2.2.2.1 _ tw_687, X.2.2.2.2.1 _ tw_688⟩ 0 rfl rfl hA rfl (Nat.le_of_ble_eq_true rfl) ⟨Nat.zero_le _, Nat.zero_le _⟩ d_Mo_trees_15 rfl (fun r6 σ5 hC => ?_)
      obtain ⟨hC, hb⟩ := hC
      refine gj_if_eq (tgt := 25) X d_Mo_trees_18 (by decide) (fun c0 => ?_) (fun c0 => ?_)
      · have hC := hC.1 c0
        refine gj_aload_n X d_Mo_trees_25 rfl 0 rfl ?_
        refine gj_iconst (v := -1) X d_Mo_trees_26 (by decide) ?_
        refine gj_callVV (As := [.int (-1 : Int32)]) (st := []) X (c_Mo_reckon l dC dI h cI cL cZ σ5 (-1 : Int32) _ hC) ⟨gj_cwB X tw_710 tw_10 tw_707 hd_Mo_reckon rfl rfl ⟨Nat.le_of_ble_eq_true rfl, Nat.le_of_ble_eq_true rfl⟩, X.2.2.2.2.1 _ tw_709, X.2.2.2.2.1 _ ts_23⟩ 0 rfl rfl hA rfl (Nat.le_of_ble_eq_true rfl) ⟨Nat.zero_le _, Nat.zero_le _⟩ d_Mo_trees_27 rfl (fun σ7 hC => ?_)
        refine gj_aload_n X d_Mo_trees_30 rfl 0 rfl ?_
        refine gj_iload_n X d_Mo_trees_31 rfl 1 rfl ?_
        refine gj_iload_n X d_Mo_trees_32 rfl 2 rfl ?_
        refine gj_callVL (As := [.int a0, .int a1]) (st := []) X (c_Mo_of l dC dI h cI cL cZ σ7 a0 a1 _ hC) ⟨gj_cwB X tw_718 tw_10 tw_715 hd_Mo_of rfl rfl ⟨Nat.le_of_ble_eq_true rfl, Nat.le_of_ble_eq_true rfl⟩, X.2.2.2.2.1 _ tw_717, X.2.2.2.2.1 _ ts_25⟩ 0 rfl rfl hA rfl (Nat.le_of_ble_eq_true rfl) ⟨Nat.zero_le _, Nat.zero_le _⟩ d_Mo_trees_33 rfl (fun r9 σ8 hC => ?_)
        refine gj_lstore_n (L' := [(3, .long r9), (0, .ref (h 0)), (1, .int a0), (2, .int a1)]) X d_Mo_trees_36 rfl (by decide) rfl ?_
        refine gj_lload_n X d_Mo_trees_37 rfl 0 rfl ?_
        refine gj_ldc2 (v := 1000000000000000000) X tw_722 d_Mo_trees_38 ?_
        refine gj_lcmp_le (tgt := 51) X d_Mo_trees_41 d_Mo_trees_42 (by decide) (fun c0 => ?_) (fun c0 => ?_)
        · have hC := hC.1 c0
          refine gj_lload_n X d_Mo_trees_51 rfl 0 rfl ?_
          exact gj_lret X hr hlk hC d_Mo_trees_52
        · have hC := hC.2 c0
          refine gj_ldc2 (v := -2) X tw_727 d_Mo_trees_45 ?_
          refine gj_goto (tgt := 52) X d_Mo_trees_48 (by decide) ?_
          exact gj_lret X hr hlk hC d_Mo_trees_52
      · have hC := hC.2 c0
        refine gj_ldc2 (v := -1) X tw_706 d_Mo_trees_21 ?_
        exact gj_lret X hr hlk hC d_Mo_trees_24
abbrev rm_Mo_treesWith : Room := { frames := 5, cells := 0, slots := 0, locals := 121 }
set_option maxHeartbeats 4000000 in
set_option maxRecDepth 100000 in
theorem c_Mo_treesWith (l : Launch) (dC : Nat → ClassId) (dI : Nat → Nat → Nat) (h : Nat → Nat) (cI cL cZ : ClassId) (σ : gs_St) (a0 : Int32) (a1 : Int32) (K : Int64 → gs_St → Prop) (hC : C_Mo_treesWith a0 a1 σ K) : gj_ML l y_Mo_treesWith (gj_ws y_Mo_treesWith b_Mo_treesWith 5 (some .long)) rm_Mo_treesWith (dC, dI) gs_C (gs_T cI cL cZ) ((wM h cI cL cZ) σ) (wM h cI cL cZ) [.ref (h 0), .int a0, .int a1] K := by
  refine gj_enterL (by decide) (Nat.le_of_ble_eq_true rfl) (fun p e s m args below meth c A X hr hlk hA hnm => ?_)
  change gj_J p l e rm_Mo_treesWith s m args below meth c 0 0 (MQ below (va_Ql K (gj_at (dC, dI) gs_C (gs_T cI cL cZ) (wM h cI cL cZ) A) A) args s 0 0 A) (dC, dI) gs_C A 5 0 [(0, .ref (h 0)), (1, .int a0), (2, .int a1)] [] ((wM h cI cL cZ) σ)
  refine gj_aload_n X d_Mo_treesWith_0 rfl 0 rfl ?_
  refine gj_iload_n X d_Mo_treesWith_1 rfl 1 rfl ?_
  refine gj_callVI (As := [.int a0]) (st := []) X (c_Mo_isRule l dC dI h cI cL cZ σ a0 _ hC) ⟨gj_cwB X tw_652 tw_10 tw_649 hd_Mo_isRule rfl rfl ⟨Nat.le_of_ble_eq_true rfl, Nat.le_of_ble_eq_true rfl⟩, X.2.2.2.2.1 _ tw_651, X.2.2.2.2.1 _ ts_16⟩ 0 rfl rfl hA rfl (Nat.le_of_ble_eq_true rfl) ⟨Nat.zero_le _, Nat.zero_le _⟩ d_Mo_treesWith_2 rfl (fun r2 σ1 hC => ?_)
  obtain ⟨hC, hb⟩ := hC
  refine gj_if_eq (tgt := 22) X d_Mo_treesWith_5 (by decide) (fun c0 => ?_) (fun c0 => ?_)
  · have hC := hC.1 c0
    refine gj_ldc2 (v := -1) X tw_706 d_Mo_treesWith_22 ?_
    exact gj_lret X hr hlk hC d_Mo_treesWith_25
  · have hC := hC.2 c0
    refine gj_iload_n X d_Mo_treesWith_8 rfl 2 rfl ?_
    refine gj_callSI (As := [.int a1]) (st := []) X (c_Mo_isLength l dC dI h cI cL cZ σ1 a1 _ hC) ⟨gj_cwB X tw_704 tw_10 tw_702 hd_Mo_isLength rfl rfl ⟨Nat.le_of_ble_eq_true rfl, Nat.le_of_ble_eq_true rfl⟩, X.2.2.2.2.1 _ tw_703⟩ hA rfl (Nat.le_of_ble_eq_true rfl) ⟨Nat.zero_le _, Nat.zero_le _⟩ d_Mo_treesWith_9 rfl (fun r4 σ3 hC => ?_)
    obtain ⟨hC, hb⟩ := hC
    refine gj_if_eq (tgt := 22) X d_Mo_treesWith_12 (by decide) (fun c0 => ?_) (fun c0 => ?_)
    · have hC := hC.1 c0
      refine gj_ldc2 (v := -1) X tw_706 d_Mo_treesWith_22 ?_
      exact gj_lret X hr hlk hC d_Mo_treesWith_25
    · have hC := hC.2 c0
      refine gj_aload_n X d_Mo_treesWith_15 rfl 0 rfl ?_
      refine gj_callVI (As := []) (st := []) X (c_Mo_circle l dC dI h cI cL cZ σ3 _ hC) ⟨gj_cwB X tw_689 tw_10 tw_705 hd_Mo_circle rfl rfl ⟨Nat.le_of_ble_eq_true rfl, Nat.le_of_ble_eq_true rfl⟩, X.2.2.2.2.1 _ tw_687, X.2.2.2.2.1 _ tw_688⟩ 0 rfl rfl hA rfl (Nat.le_of_ble_eq_true rfl) ⟨Nat.zero_le _, Nat.zero_le _⟩ d_Mo_treesWith_16 rfl (fun r6 σ5 hC => ?_)
      obtain ⟨hC, hb⟩ := hC
      refine gj_if_eq (tgt := 26) X d_Mo_treesWith_19 (by decide) (fun c0 => ?_) (fun c0 => ?_)
      · have hC := hC.1 c0
        refine gj_aload_n X d_Mo_treesWith_26 rfl 0 rfl ?_
        refine gj_iconst (v := 0) X d_Mo_treesWith_27 (by decide) ?_
        refine gj_iload_n X d_Mo_treesWith_28 rfl 2 rfl ?_
        refine gj_callVL (As := [.int (0 : Int32), .int a1]) (st := []) X (c_Mo_trees l dC dI h cI cL cZ σ5 (0 : Int32) a1 _ hC) ⟨gj_cwB X tw_701 tw_10 tw_732 hd_Mo_trees rfl rfl ⟨Nat.le_of_ble_eq_true rfl, Nat.le_of_ble_eq_true rfl⟩, X.2.2.2.2.1 _ tw_699, X.2.2.2.2.1 _ tw_700⟩ 0 rfl rfl hA rfl (Nat.le_of_ble_eq_true rfl) ⟨Nat.zero_le _, Nat.zero_le _⟩ d_Mo_treesWith_29 rfl (fun r8 σ7 hC => ?_)
        refine gj_lstore_n (L' := [(3, .long r8), (0, .ref (h 0)), (1, .int a0), (2, .int a1)]) X d_Mo_treesWith_32 rfl (by decide) rfl ?_
        refine gj_lload_n X d_Mo_treesWith_33 rfl 0 rfl ?_
        refine gj_lconst (v := 0) X d_Mo_treesWith_34 (by decide) ?_
        refine gj_lcmp_ge (tgt := 41) X d_Mo_treesWith_35 d_Mo_treesWith_36 (by decide) (fun c0 => ?_) (fun c0 => ?_)
        · have hC := hC.1 c0
          refine gj_aload_n X d_Mo_treesWith_41 rfl 1 rfl ?_
          refine gj_iload_n X d_Mo_treesWith_42 rfl 2 rfl ?_
          refine gj_callVV (As := [.int a0]) (st := []) X (c_Mo_reckon l dC dI h cI cL cZ σ7 a0 _ hC) ⟨gj_cwB X tw_710 tw_10 tw_707 hd_Mo_reckon rfl rfl ⟨Nat.le_of_ble_eq_true rfl, Nat.le_of_ble_eq_true rfl⟩, X.2.2.2.2.1 _ tw_709, X.2.2.2.2.1 _ ts_23⟩ 0 rfl rfl hA rfl (Nat.le_of_ble_eq_true rfl) ⟨Nat.zero_le _, Nat.zero_le _⟩ d_Mo_treesWith_43 rfl (fun σ9 hC => ?_)
          refine gj_lload_n X d_Mo_treesWith_46 rfl 0 rfl ?_
          refine gj_aload_n X d_Mo_treesWith_47 rfl 1 rfl ?_
          refine gj_iconst (v := 0) X d_Mo_treesWith_48 (by decide) ?_
          refine gj_iload_n X d_Mo_treesWith_49 rfl 3 rfl ?_
          refine gj_callVL (As := [.int (0 : Int32), .int a1]) (st := [.long r8]) X (c_Mo_of l dC dI h cI cL cZ σ9 (0 : Int32) a1 _ hC) ⟨gj_cwB X tw_718 tw_10 tw_715 hd_Mo_of rfl rfl ⟨Nat.le_of_ble_eq_true rfl, Nat.le_of_ble_eq_true rfl⟩, X.2.2.2.2.1 _ tw_717, X.2.2.2.2.1 _ ts_25⟩ 0 rfl rfl hA rfl (Nat.le_of_ble_eq_true rfl) ⟨Nat.zero_le _, Nat.zero_le _⟩ d_Mo_treesWith_50 rfl (fun r11 σ10 hC => ?_)
          refine gj_lsub X d_Mo_treesWith_53 ?_
          exact gj_lret X hr hlk hC d_Mo_treesWith_54
        · have hC := hC.2 c0
          refine gj_lload_n X d_Mo_treesWith_39 rfl 0 rfl ?_
          exact gj_lret X hr hlk hC d_Mo_treesWith_40
      · have hC := hC.2 c0
        refine gj_ldc2 (v := -1) X tw_706 d_Mo_treesWith_22 ?_
        exact gj_lret X hr hlk hC d_Mo_treesWith_25
abbrev rm_Mo_put : Room := { frames := 0, cells := 0, slots := 0, locals := 0 }
set_option maxHeartbeats 4000000 in
set_option maxRecDepth 100000 in
theorem c_Mo_put (l : Launch) (dC : Nat → ClassId) (dI : Nat → Nat → Nat) (h : Nat → Nat) (cI cL cZ : ClassId) (σ : gs_St) (a0 : Int32) (a1 : Int32) (a2 : Int64) (K : gs_St → Prop) (hC : C_Mo_put a0 a1 a2 σ K) : gj_MV 0 0 l y_Mo_put (gj_ws y_Mo_put b_Mo_put 5 (none)) rm_Mo_put (dC, dI) gs_C (gs_T cI cL cZ) ((wM h cI cL cZ) σ) (wM h cI cL cZ) [.ref (h 0), .int a0, .int a1, .long a2] K := by
  refine gj_enterV (by decide) (Nat.le_of_ble_eq_true rfl) (fun p e s m args below meth c A X hr hlk hA hnm => ?_)
  change gj_J p l e rm_Mo_put s m args below meth c 0 0 (MQ below (va_Qv K (gj_at (dC, dI) gs_C (gs_T cI cL cZ) (wM h cI cL cZ) A) A) args s 0 0 A) (dC, dI) gs_C A 5 0 [(0, .ref (h 0)), (1, .int a0), (2, .int a1), (3, .long a2)] [] ((wM h cI cL cZ) σ)
  refine gj_aload_n X d_Mo_put_0 rfl 0 rfl ?_
  refine gj_get X inX9 0 rfl rfl 20 (by decide) tw_568 rfl rfl d_Mo_put_1 ?_
  refine gj_aload_n X d_Mo_put_4 rfl 0 rfl ?_
  refine gj_get X inX9 0 rfl rfl 23 (by decide) tw_571 rfl rfl d_Mo_put_5 ?_
  refine gj_iload_n X d_Mo_put_8 rfl 1 rfl ?_
  refine gj_iast (w' := (wM h cI cL cZ) (gs_A σ 9 (upd (σ.2.1 9) (σ.1 7).toNatClampNeg a0))) X 14 0 rfl rfl hC.1 (set_wM_A9 h cI cL cZ σ _) d_Mo_put_9 ?_
  refine gj_topw (wof := (wM h cI cL cZ)) (fun σ1 eσ1 => ?_)
  have hC := hC.2 σ1 eσ1
  refine gj_aload_n X d_Mo_put_10 rfl 0 rfl ?_
  refine gj_get X inX9 0 rfl rfl 21 (by decide) tw_569 rfl rfl d_Mo_put_11 ?_
  refine gj_aload_n X d_Mo_put_14 rfl 0 rfl ?_
  refine gj_get X inX9 0 rfl rfl 23 (by decide) tw_571 rfl rfl d_Mo_put_15 ?_
  refine gj_iload_n X d_Mo_put_18 rfl 2 rfl ?_
  refine gj_iast (w' := (wM h cI cL cZ) (gs_A σ1 10 (upd (σ1.2.1 10) (σ1.1 7).toNatClampNeg a1))) X 15 0 rfl rfl hC.1 (set_wM_A10 h cI cL cZ σ1 _) d_Mo_put_19 ?_
  refine gj_topw (wof := (wM h cI cL cZ)) (fun σ2 eσ2 => ?_)
  have hC := hC.2 σ2 eσ2
  refine gj_aload_n X d_Mo_put_20 rfl 0 rfl ?_
  refine gj_get X inX9 0 rfl rfl 22 (by decide) tw_570 rfl rfl d_Mo_put_21 ?_
  refine gj_aload_n X d_Mo_put_24 rfl 0 rfl ?_
  refine gj_get X inX9 0 rfl rfl 23 (by decide) tw_571 rfl rfl d_Mo_put_25 ?_
  refine gj_lload_n X d_Mo_put_28 rfl 3 rfl ?_
  refine gj_last (w' := (wM h cI cL cZ) (gs_L σ2 4 (vp_updL (σ2.2.2 4) (σ2.1 7).toNatClampNeg a2))) X 16 1 rfl rfl hC.1 (set_wM_L4 h cI cL cZ σ2 _) d_Mo_put_29 ?_
  refine gj_topw (wof := (wM h cI cL cZ)) (fun σ3 eσ3 => ?_)
  have hC := hC.2 σ3 eσ3
  refine gj_aload_n X d_Mo_put_30 rfl 0 rfl ?_
  refine gj_dup X d_Mo_put_31 rfl ?_
  refine gj_get X inX9 0 rfl rfl 23 (by decide) tw_571 rfl rfl d_Mo_put_32 ?_
  refine gj_iconst (v := 1) X d_Mo_put_35 (by decide) ?_
  refine gj_iadd X d_Mo_put_36 ?_
  refine gj_put (w' := (wM h cI cL cZ) (gs_I σ3 7 ((σ3.1 7) + (1 : Int32)))) X inX9 tyX9 tyX9_ok nmX9 0 rfl rfl 23 (by decide) tw_571 rfl rfl (tyX9_ok 23 (by decide)) rfl rfl (Nat.le_of_ble_eq_true rfl) (set_wM_I7 h cI cL cZ σ3 _) d_Mo_put_37 ?_
  refine gj_topw (wof := (wM h cI cL cZ)) (fun σ4 eσ4 => ?_)
  have hC := hC σ4 eσ4
  exact gj_vret X hr hlk hC d_Mo_put_40
abbrev rm_Mo_split : Room := { frames := 3, cells := 0, slots := 0, locals := 69 }
set_option maxHeartbeats 4000000 in
set_option maxRecDepth 100000 in
theorem c_Mo_split (l : Launch) (dC : Nat → ClassId) (dI : Nat → Nat → Nat) (h : Nat → Nat) (cI cL cZ : ClassId) (σ : gs_St) (a0 : Int32) (a1 : Int32) (a2 : Int64) (K : Int32 → gs_St → Prop) (hC : C_Mo_split a0 a1 a2 σ K) : gj_MI l y_Mo_split (gj_ws y_Mo_split b_Mo_split 16 (some .int)) rm_Mo_split (dC, dI) gs_C (gs_T cI cL cZ) ((wM h cI cL cZ) σ) (wM h cI cL cZ) [.ref (h 0), .int a0, .int a1, .long a2] K := by
  refine gj_enterI (by decide) (Nat.le_of_ble_eq_true rfl) (fun p e s m args below meth c A X hr hlk hA hnm => ?_)
  change gj_J p l e rm_Mo_split s m args below meth c 0 0 (MQ below (va_Qi K (gj_at (dC, dI) gs_C (gs_T cI cL cZ) (wM h cI cL cZ) A) A) args s 0 0 A) (dC, dI) gs_C A 16 0 [(0, .ref (h 0)), (1, .int a0), (2, .int a1), (3, .long a2)] [] ((wM h cI cL cZ) σ)
  have hC := hC
    (fun (v_1 : Int32) (v_2 : Int32) (v_5 : Int64) (v_7 : Int32) (v_8 : Int32) (σ : gs_St) => gj_J p l e rm_Mo_split s m args below meth c 0 0 (MQ below (va_Qi K (gj_at (dC, dI) gs_C (gs_T cI cL cZ) (wM h cI cL cZ) A) A) args s 0 0 A) (dC, dI) gs_C A 16 9 [(0, .ref (h 0)), (1, .int v_1), (2, .int v_2), (5, .long v_5), (7, .int v_7), (8, .int v_8)] [] ((wM h cI cL cZ) σ))
    (fun (v_1 : Int32) (v_2 : Int32) (v_5 : Int64) (v_7 : Int32) (v_9 : Int64) (σ : gs_St) => gj_J p l e rm_Mo_split s m args below meth c 0 0 (MQ below (va_Qi K (gj_at (dC, dI) gs_C (gs_T cI cL cZ) (wM h cI cL cZ) A) A) args s 0 0 A) (dC, dI) gs_C A 16 52 [(0, .ref (h 0)), (1, .int v_1), (2, .int v_2), (5, .long v_5), (7, .int v_7), (9, .long v_9)] [] ((wM h cI cL cZ) σ))
    (fun (v_5 : Int64) (v_7 : Int32) (v_9 : Int32) (v_10 : Int32) (σ : gs_St) => gj_J p l e rm_Mo_split s m args below meth c 0 0 (MQ below (va_Qi K (gj_at (dC, dI) gs_C (gs_T cI cL cZ) (wM h cI cL cZ) A) A) args s 0 0 A) (dC, dI) gs_C A 16 91 [(0, .ref (h 0)), (5, .long v_5), (7, .int v_7), (9, .int v_9), (10, .int v_10)] [] ((wM h cI cL cZ) σ))
    (fun (v_5 : Int64) (v_7 : Int32) (v_9 : Int32) (v_10 : Int32) (v_11 : Int32) (v_12 : Int64) (σ : gs_St) => gj_J p l e rm_Mo_split s m args below meth c 0 0 (MQ below (va_Qi K (gj_at (dC, dI) gs_C (gs_T cI cL cZ) (wM h cI cL cZ) A) A) args s 0 0 A) (dC, dI) gs_C A 16 140 [(0, .ref (h 0)), (5, .long v_5), (7, .int v_7), (9, .int v_9), (10, .int v_10), (11, .int v_11), (12, .long v_12)] [] ((wM h cI cL cZ) σ))
    (fun (v_5 : Int64) (v_7 : Int32) (v_9 : Int32) (v_10 : Int32) (v_11 : Int32) (σ : gs_St) => gj_J p l e rm_Mo_split s m args below meth c 0 0 (MQ below (va_Qi K (gj_at (dC, dI) gs_C (gs_T cI cL cZ) (wM h cI cL cZ) A) A) args s 0 0 A) (dC, dI) gs_C A 16 206 [(0, .ref (h 0)), (5, .long v_5), (7, .int v_7), (9, .int v_9), (10, .int v_10), (11, .int v_11)] [] ((wM h cI cL cZ) σ))
    (fun (v_7 : Int32) (v_10 : Int32) (σ : gs_St) => gj_J p l e rm_Mo_split s m args below meth c 0 0 (MQ below (va_Qi K (gj_at (dC, dI) gs_C (gs_T cI cL cZ) (wM h cI cL cZ) A) A) args s 0 0 A) (dC, dI) gs_C A 16 276 [(0, .ref (h 0)), (7, .int v_7), (10, .int v_10)] [] ((wM h cI cL cZ) σ))
    (by
      intro v_1 v_2 v_5 v_7 v_8 σ hC
      refine gj_iload X d_Mo_split_9 5 rfl ?_
      refine gj_if_ne (tgt := 85) X d_Mo_split_11 (by decide) (fun c0 => ?_) (fun c0 => ?_)
      · have hC := hC.1 c0
        refine gj_iload_n X d_Mo_split_85 rfl 2 rfl ?_
        refine gj_istore (L' := [(9, .int v_2), (0, .ref (h 0)), (1, .int v_1), (2, .int v_2), (5, .long v_5), (7, .int v_7), (8, .int v_8)]) X d_Mo_split_86 (by decide) rfl ?_
        refine gj_iconst (v := 0) X d_Mo_split_88 (by decide) ?_
        refine gj_istore (L' := [(10, .int (0 : Int32)), (9, .int v_2), (0, .ref (h 0)), (1, .int v_1), (2, .int v_2), (5, .long v_5), (7, .int v_7), (8, .int v_8)]) X d_Mo_split_89 (by decide) rfl ?_
        exact gj_loc [2, 5, 6, 1, 0] rfl hC
      · have hC := hC.2 c0
        refine gj_iload X d_Mo_split_14 4 rfl ?_
        refine gj_aload_n X d_Mo_split_16 rfl 0 rfl ?_
        refine gj_get X inX9 0 rfl rfl 3 (by decide) tw_551 rfl rfl d_Mo_split_17 ?_
        refine gj_icmp_ge (tgt := 85) X d_Mo_split_20 (by decide) (fun c0 => ?_) (fun c0 => ?_)
        · have hC := hC.1 c0
          refine gj_iload_n X d_Mo_split_85 rfl 2 rfl ?_
          refine gj_istore (L' := [(9, .int v_2), (0, .ref (h 0)), (1, .int v_1), (2, .int v_2), (5, .long v_5), (7, .int v_7), (8, .int v_8)]) X d_Mo_split_86 (by decide) rfl ?_
          refine gj_iconst (v := 0) X d_Mo_split_88 (by decide) ?_
          refine gj_istore (L' := [(10, .int (0 : Int32)), (9, .int v_2), (0, .ref (h 0)), (1, .int v_1), (2, .int v_2), (5, .long v_5), (7, .int v_7), (8, .int v_8)]) X d_Mo_split_89 (by decide) rfl ?_
          exact gj_loc [2, 5, 6, 1, 0] rfl hC
        · have hC := hC.2 c0
          refine gj_lconst (v := 0) X d_Mo_split_23 (by decide) ?_
          refine gj_lstore (L' := [(9, .long (0 : Int64)), (0, .ref (h 0)), (1, .int v_1), (2, .int v_2), (5, .long v_5), (7, .int v_7), (8, .int v_8)]) X d_Mo_split_24 (by decide) rfl ?_
          refine gj_aload_n X d_Mo_split_26 rfl 1 rfl ?_
          refine gj_get X inX9 0 rfl rfl 0 (by decide) tw_548 rfl rfl d_Mo_split_27 ?_
          refine gj_iload X d_Mo_split_30 5 rfl ?_
          refine gj_iald X 1 0 rfl rfl hC.1 d_Mo_split_32 ?_
          have hC := hC.2
          refine gj_iload_n X d_Mo_split_33 rfl 2 rfl ?_
          refine gj_icmp_ne (tgt := 52) X d_Mo_split_34 (by decide) (fun c0 => ?_) (fun c0 => ?_)
          · have hC := hC.1 c0
            exact gj_loc [1, 2, 3, 4, 5, 0] rfl hC
          · have hC := hC.2 c0
            refine gj_aload_n X d_Mo_split_37 rfl 1 rfl ?_
            refine gj_iload X d_Mo_split_38 5 rfl ?_
            refine gj_iload_n X d_Mo_split_40 rfl 3 rfl ?_
            refine gj_callVV (As := [.int v_7, .int v_2]) (st := []) X (c_Mo_fill l dC dI h cI cL cZ σ v_7 v_2 _ hC) ⟨gj_cwB X tw_714 tw_10 tw_711 hd_Mo_fill rfl rfl ⟨Nat.le_of_ble_eq_true rfl, Nat.le_of_ble_eq_true rfl⟩, X.2.2.2.2.1 _ tw_713, X.2.2.2.2.1 _ ts_24⟩ 0 rfl rfl hA rfl (Nat.le_of_ble_eq_true rfl) ⟨Nat.zero_le _, Nat.zero_le _⟩ d_Mo_split_41 rfl (fun σ1 hC => ?_)
            refine gj_aload_n X d_Mo_split_44 rfl 1 rfl ?_
            refine gj_get X inX9 0 rfl rfl 19 (by decide) tw_567 rfl rfl d_Mo_split_45 ?_
            refine gj_iload_n X d_Mo_split_48 rfl 3 rfl ?_
            refine gj_lald X 13 1 rfl rfl hC.1 d_Mo_split_49 ?_
            have hC := hC.2
            refine gj_topl (fun v2 ev2 => ?_)
            have hC := hC v2 ev2
            refine gj_lstore (L' := [(9, .long v2), (0, .ref (h 0)), (1, .int v_1), (2, .int v_2), (5, .long v_5), (7, .int v_7), (8, .int v_8)]) X d_Mo_split_50 (by decide) rfl ?_
            exact gj_loc [1, 2, 3, 4, 5, 0] rfl hC)
    (by
      intro v_1 v_2 v_5 v_7 v_9 σ hC
      refine gj_lload X d_Mo_split_52 3 rfl ?_
      refine gj_lload X d_Mo_split_54 5 rfl ?_
      refine gj_lcmp_ge (tgt := 64) X d_Mo_split_56 d_Mo_split_57 (by decide) (fun c0 => ?_) (fun c0 => ?_)
      · have hC := hC.1 c0
        refine gj_iconst (v := 0) X d_Mo_split_64 (by decide) ?_
        refine gj_istore (L' := [(8, .int (0 : Int32)), (0, .ref (h 0)), (1, .int v_1), (2, .int v_2), (5, .long v_5), (7, .int v_7), (9, .long v_9)]) X d_Mo_split_65 (by decide) rfl ?_
        refine gj_iload X d_Mo_split_67 0 rfl ?_
        refine gj_if_ne (tgt := 82) X d_Mo_split_69 (by decide) (fun c0 => ?_) (fun c0 => ?_)
        · have hC := hC.1 c0
          refine gj_goto (tgt := 9) X d_Mo_split_82 (by decide) ?_
          exact gj_loc [1, 2, 3, 4, 5, 0] rfl hC
        · have hC := hC.2 c0
          refine gj_lload X d_Mo_split_72 4 rfl ?_
          refine gj_lload X d_Mo_split_74 6 rfl ?_
          refine gj_lsub X d_Mo_split_76 ?_
          refine gj_topl (fun v3 ev3 => ?_)
          have hC := hC v3 ev3
          refine gj_lstore (L' := [(5, .long v3), (8, .int (0 : Int32)), (0, .ref (h 0)), (1, .int v_1), (2, .int v_2), (7, .int v_7), (9, .long v_9)]) X d_Mo_split_77 (by decide) rfl ?_
          obtain ⟨v4, ev4⟩ : ∃ y : Int32, y = v_7 + 1 := ⟨_, rfl⟩
          have hC := hC v4 ev4
          refine gj_iinc (v := v4) (L' := [(7, .int v4), (5, .long v3), (8, .int (0 : Int32)), (0, .ref (h 0)), (1, .int v_1), (2, .int v_2), (9, .long v_9)]) X d_Mo_split_79 5 rfl (by rw [ev4]; rfl) (by decide) rfl ?_
          refine gj_goto (tgt := 9) X d_Mo_split_82 (by decide) ?_
          exact gj_loc [3, 4, 5, 1, 0, 2] rfl hC
      · have hC := hC.2 c0
        refine gj_iconst (v := 1) X d_Mo_split_60 (by decide) ?_
        refine gj_goto (tgt := 65) X d_Mo_split_61 (by decide) ?_
        refine gj_istore (L' := [(8, .int (1 : Int32)), (0, .ref (h 0)), (1, .int v_1), (2, .int v_2), (5, .long v_5), (7, .int v_7), (9, .long v_9)]) X d_Mo_split_65 (by decide) rfl ?_
        refine gj_iload X d_Mo_split_67 0 rfl ?_
        refine gj_if_ne (tgt := 82) X d_Mo_split_69 (by decide) (fun c0 => ?_) (fun c0 => ?_)
        · have hC := hC.1 c0
          refine gj_goto (tgt := 9) X d_Mo_split_82 (by decide) ?_
          exact gj_loc [1, 2, 3, 4, 5, 0] rfl hC
        · have hC := hC.2 c0
          refine gj_lload X d_Mo_split_72 4 rfl ?_
          refine gj_lload X d_Mo_split_74 6 rfl ?_
          refine gj_lsub X d_Mo_split_76 ?_
          refine gj_topl (fun v5 ev5 => ?_)
          have hC := hC v5 ev5
          refine gj_lstore (L' := [(5, .long v5), (8, .int (1 : Int32)), (0, .ref (h 0)), (1, .int v_1), (2, .int v_2), (7, .int v_7), (9, .long v_9)]) X d_Mo_split_77 (by decide) rfl ?_
          obtain ⟨v6, ev6⟩ : ∃ y : Int32, y = v_7 + 1 := ⟨_, rfl⟩
          have hC := hC v6 ev6
          refine gj_iinc (v := v6) (L' := [(7, .int v6), (5, .long v5), (8, .int (1 : Int32)), (0, .ref (h 0)), (1, .int v_1), (2, .int v_2), (9, .long v_9)]) X d_Mo_split_79 5 rfl (by rw [ev6]; rfl) (by decide) rfl ?_
          refine gj_goto (tgt := 9) X d_Mo_split_82 (by decide) ?_
          exact gj_loc [3, 4, 5, 1, 0, 2] rfl hC)
    (by
      intro v_5 v_7 v_9 v_10 σ hC
      refine gj_iload X d_Mo_split_91 4 rfl ?_
      refine gj_aload_n X d_Mo_split_93 rfl 0 rfl ?_
      refine gj_get X inX9 0 rfl rfl 1 (by decide) tw_549 rfl rfl d_Mo_split_94 ?_
      refine gj_iload X d_Mo_split_97 2 rfl ?_
      refine gj_iald X 2 0 rfl rfl hC.1 d_Mo_split_99 ?_
      have hC := hC.2
      refine gj_icmp_ge (tgt := 265) X d_Mo_split_100 (by decide) (fun c0 => ?_) (fun c0 => ?_)
      · have hC := hC.1 c0
        refine gj_aload_n X d_Mo_split_265 rfl 0 rfl ?_
        refine gj_get X inX9 0 rfl rfl 1 (by decide) tw_549 rfl rfl d_Mo_split_266 ?_
        refine gj_iload X d_Mo_split_269 2 rfl ?_
        refine gj_iald X 2 0 rfl rfl hC.1 d_Mo_split_271 ?_
        have hC := hC.2
        refine gj_iconst (v := 1) X d_Mo_split_272 (by decide) ?_
        refine gj_isub X d_Mo_split_273 ?_
        refine gj_topi (fun v7 ev7 => ?_)
        have hC := hC v7 ev7
        refine gj_istore (L' := [(10, .int v7), (0, .ref (h 0)), (5, .long v_5), (7, .int v_7), (9, .int v_9)]) X d_Mo_split_274 (by decide) rfl ?_
        exact gj_loc [1, 3, 0] rfl hC
      · have hC := hC.2 c0
        refine gj_iconst (v := 0) X d_Mo_split_103 (by decide) ?_
        refine gj_istore (L' := [(11, .int (0 : Int32)), (0, .ref (h 0)), (5, .long v_5), (7, .int v_7), (9, .int v_9), (10, .int v_10)]) X d_Mo_split_104 (by decide) rfl ?_
        refine gj_aload_n X d_Mo_split_106 rfl 1 rfl ?_
        refine gj_aload_n X d_Mo_split_107 rfl 1 rfl ?_
        refine gj_iload X d_Mo_split_108 3 rfl ?_
        refine gj_iload X d_Mo_split_110 5 rfl ?_
        refine gj_callVI (As := [.int v_7, .int v_10]) (st := [.ref (h 0)]) X (c_Mo_at l dC dI h cI cL cZ σ v_7 v_10 _ hC) ⟨gj_cwB X tw_664 tw_10 tw_661 hd_Mo_at rfl rfl ⟨Nat.le_of_ble_eq_true rfl, Nat.le_of_ble_eq_true rfl⟩, X.2.2.2.2.1 _ tw_663, X.2.2.2.2.1 _ ts_17⟩ 0 rfl rfl hA rfl (Nat.le_of_ble_eq_true rfl) ⟨Nat.zero_le _, Nat.zero_le _⟩ d_Mo_split_112 rfl (fun r9 σ8 hC => ?_)
        refine gj_iconst (v := 0) X d_Mo_split_115 (by decide) ?_
        refine gj_callVL (As := [.int r9, .int (0 : Int32)]) (st := []) X (c_Mo_of l dC dI h cI cL cZ σ8 r9 (0 : Int32) _ hC) ⟨gj_cwB X tw_718 tw_10 tw_715 hd_Mo_of rfl rfl ⟨Nat.le_of_ble_eq_true rfl, Nat.le_of_ble_eq_true rfl⟩, X.2.2.2.2.1 _ tw_717, X.2.2.2.2.1 _ ts_25⟩ 0 rfl rfl hA rfl (Nat.le_of_ble_eq_true rfl) ⟨Nat.zero_le _, Nat.zero_le _⟩ d_Mo_split_116 rfl (fun r11 σ10 hC => ?_)
        refine gj_aload_n X d_Mo_split_119 rfl 1 rfl ?_
        refine gj_get X inX9 0 rfl rfl 19 (by decide) tw_567 rfl rfl d_Mo_split_120 ?_
        refine gj_bipush (v := 17) X d_Mo_split_123 (by decide) ?_
        refine gj_iload X d_Mo_split_125 5 rfl ?_
        refine gj_imul X d_Mo_split_127 ?_
        refine gj_bipush (v := 17) X d_Mo_split_128 (by decide) ?_
        refine gj_iadd X d_Mo_split_130 ?_
        refine gj_iload X d_Mo_split_131 4 rfl ?_
        refine gj_iadd X d_Mo_split_133 ?_
        refine gj_lald X 13 1 rfl rfl hC.1 d_Mo_split_134 ?_
        have hC := hC.2
        refine gj_callSL (As := [.long r11, .long (σ10.2.2 3 ((((17 : Int32) * v_10) + (17 : Int32)) + v_9).toNatClampNeg)]) (st := []) X (c_Mo_product l dC dI h cI cL cZ σ10 r11 (σ10.2.2 3 ((((17 : Int32) * v_10) + (17 : Int32)) + v_9).toNatClampNeg) _ hC) ⟨gj_cwB X tw_721 tw_10 tw_719 hd_Mo_product rfl rfl ⟨Nat.le_of_ble_eq_true rfl, Nat.le_of_ble_eq_true rfl⟩, X.2.2.2.2.1 _ tw_720⟩ hA rfl (Nat.le_of_ble_eq_true rfl) ⟨Nat.zero_le _, Nat.zero_le _⟩ d_Mo_split_135 rfl (fun r13 σ12 hC => ?_)
        refine gj_lstore (L' := [(12, .long r13), (11, .int (0 : Int32)), (0, .ref (h 0)), (5, .long v_5), (7, .int v_7), (9, .int v_9), (10, .int v_10)]) X d_Mo_split_138 (by decide) rfl ?_
        exact gj_loc [2, 3, 4, 5, 6, 1, 0] rfl hC)
    (by
      intro v_5 v_7 v_9 v_10 v_11 v_12 σ hC
      refine gj_lload X d_Mo_split_140 1 rfl ?_
      refine gj_lload X d_Mo_split_142 6 rfl ?_
      refine gj_lcmp_lt (tgt := 206) X d_Mo_split_144 d_Mo_split_145 (by decide) (fun c0 => ?_) (fun c0 => ?_)
      · have hC := hC.1 c0
        exact gj_loc [0, 1, 2, 3, 4, 5] rfl hC
      · have hC := hC.2 c0
        refine gj_iload X d_Mo_split_148 5 rfl ?_
        refine gj_iload X d_Mo_split_150 3 rfl ?_
        refine gj_icmp_ge (tgt := 206) X d_Mo_split_152 (by decide) (fun c0 => ?_) (fun c0 => ?_)
        · have hC := hC.1 c0
          exact gj_loc [0, 1, 2, 3, 4, 5] rfl hC
        · have hC := hC.2 c0
          refine gj_lload X d_Mo_split_155 1 rfl ?_
          refine gj_lload X d_Mo_split_157 6 rfl ?_
          refine gj_lsub X d_Mo_split_159 ?_
          refine gj_topl (fun v14 ev14 => ?_)
          have hC := hC v14 ev14
          refine gj_lstore (L' := [(5, .long v14), (0, .ref (h 0)), (7, .int v_7), (9, .int v_9), (10, .int v_10), (11, .int v_11), (12, .long v_12)]) X d_Mo_split_160 (by decide) rfl ?_
          obtain ⟨v15, ev15⟩ : ∃ y : Int32, y = v_11 + 1 := ⟨_, rfl⟩
          have hC := hC v15 ev15
          refine gj_iinc (v := v15) (L' := [(11, .int v15), (5, .long v14), (0, .ref (h 0)), (7, .int v_7), (9, .int v_9), (10, .int v_10), (12, .long v_12)]) X d_Mo_split_162 5 rfl (by rw [ev15]; rfl) (by decide) rfl ?_
          refine gj_aload_n X d_Mo_split_165 rfl 2 rfl ?_
          refine gj_aload_n X d_Mo_split_166 rfl 2 rfl ?_
          refine gj_iload X d_Mo_split_167 3 rfl ?_
          refine gj_iload X d_Mo_split_169 5 rfl ?_
          refine gj_callVI (As := [.int v_7, .int v_10]) (st := [.ref (h 0)]) X (c_Mo_at l dC dI h cI cL cZ σ v_7 v_10 _ hC) ⟨gj_cwB X tw_664 tw_10 tw_661 hd_Mo_at rfl rfl ⟨Nat.le_of_ble_eq_true rfl, Nat.le_of_ble_eq_true rfl⟩, X.2.2.2.2.1 _ tw_663, X.2.2.2.2.1 _ ts_17⟩ 0 rfl rfl hA rfl (Nat.le_of_ble_eq_true rfl) ⟨Nat.zero_le _, Nat.zero_le _⟩ d_Mo_split_171 rfl (fun r17 σ16 hC => ?_)
          refine gj_iload X d_Mo_split_174 0 rfl ?_
          refine gj_callVL (As := [.int r17, .int v15]) (st := []) X (c_Mo_of l dC dI h cI cL cZ σ16 r17 v15 _ hC) ⟨gj_cwB X tw_718 tw_10 tw_715 hd_Mo_of rfl rfl ⟨Nat.le_of_ble_eq_true rfl, Nat.le_of_ble_eq_true rfl⟩, X.2.2.2.2.1 _ tw_717, X.2.2.2.2.1 _ ts_25⟩ 0 rfl rfl hA rfl (Nat.le_of_ble_eq_true rfl) ⟨Nat.zero_le _, Nat.zero_le _⟩ d_Mo_split_176 rfl (fun r19 σ18 hC => ?_)
          refine gj_aload_n X d_Mo_split_179 rfl 2 rfl ?_
          refine gj_get X inX9 0 rfl rfl 19 (by decide) tw_567 rfl rfl d_Mo_split_180 ?_
          refine gj_bipush (v := 17) X d_Mo_split_183 (by decide) ?_
          refine gj_iload X d_Mo_split_185 5 rfl ?_
          refine gj_imul X d_Mo_split_187 ?_
          refine gj_bipush (v := 17) X d_Mo_split_188 (by decide) ?_
          refine gj_iadd X d_Mo_split_190 ?_
          refine gj_iload X d_Mo_split_191 4 rfl ?_
          refine gj_iadd X d_Mo_split_193 ?_
          refine gj_iload X d_Mo_split_194 0 rfl ?_
          refine gj_isub X d_Mo_split_196 ?_
          refine gj_lald X 13 1 rfl rfl hC.1 d_Mo_split_197 ?_
          have hC := hC.2
          refine gj_callSL (As := [.long r19, .long (σ18.2.2 3 (((((17 : Int32) * v_10) + (17 : Int32)) + v_9) - v15).toNatClampNeg)]) (st := []) X (c_Mo_product l dC dI h cI cL cZ σ18 r19 (σ18.2.2 3 (((((17 : Int32) * v_10) + (17 : Int32)) + v_9) - v15).toNatClampNeg) _ hC) ⟨gj_cwB X tw_721 tw_10 tw_719 hd_Mo_product rfl rfl ⟨Nat.le_of_ble_eq_true rfl, Nat.le_of_ble_eq_true rfl⟩, X.2.2.2.2.1 _ tw_720⟩ hA rfl (Nat.le_of_ble_eq_true rfl) ⟨Nat.zero_le _, Nat.zero_le _⟩ d_Mo_split_198 rfl (fun r21 σ20 hC => ?_)
          refine gj_lstore (L' := [(12, .long r21), (11, .int v15), (5, .long v14), (0, .ref (h 0)), (7, .int v_7), (9, .int v_9), (10, .int v_10)]) X d_Mo_split_201 (by decide) rfl ?_
          refine gj_goto (tgt := 140) X d_Mo_split_203 (by decide) ?_
          exact gj_loc [3, 2, 4, 5, 6, 1, 0] rfl hC)
    (by
      intro v_5 v_7 v_9 v_10 v_11 σ hC
      refine gj_iload X d_Mo_split_206 3 rfl ?_
      refine gj_iload X d_Mo_split_208 5 rfl ?_
      refine gj_isub X d_Mo_split_210 ?_
      refine gj_topi (fun v22 ev22 => ?_)
      have hC := hC v22 ev22
      refine gj_istore (L' := [(9, .int v22), (0, .ref (h 0)), (5, .long v_5), (7, .int v_7), (10, .int v_10), (11, .int v_11)]) X d_Mo_split_211 (by decide) rfl ?_
      refine gj_aload_n X d_Mo_split_213 rfl 1 rfl ?_
      refine gj_get X inX9 0 rfl rfl 19 (by decide) tw_567 rfl rfl d_Mo_split_214 ?_
      refine gj_bipush (v := 17) X d_Mo_split_217 (by decide) ?_
      refine gj_iload X d_Mo_split_219 4 rfl ?_
      refine gj_imul X d_Mo_split_221 ?_
      refine gj_bipush (v := 17) X d_Mo_split_222 (by decide) ?_
      refine gj_iadd X d_Mo_split_224 ?_
      refine gj_iload X d_Mo_split_225 0 rfl ?_
      refine gj_iadd X d_Mo_split_227 ?_
      refine gj_lald X 13 1 rfl rfl hC.1 d_Mo_split_228 ?_
      have hC := hC.2
      refine gj_topl (fun v23 ev23 => ?_)
      have hC := hC v23 ev23
      refine gj_lstore (L' := [(14, .long v23), (9, .int v22), (0, .ref (h 0)), (5, .long v_5), (7, .int v_7), (10, .int v_10), (11, .int v_11)]) X d_Mo_split_229 (by decide) rfl ?_
      refine gj_aload_n X d_Mo_split_231 rfl 2 rfl ?_
      refine gj_get X inX9 0 rfl rfl 26 (by decide) tw_574 rfl rfl d_Mo_split_232 ?_
      refine gj_iload X d_Mo_split_235 5 rfl ?_
      refine gj_iload X d_Mo_split_237 6 rfl ?_
      refine gj_iast (w' := (wM h cI cL cZ) (gs_A σ 13 (upd (σ.2.1 13) v_10.toNatClampNeg v_11))) X 19 0 rfl rfl hC.1 (set_wM_A13 h cI cL cZ σ _) d_Mo_split_239 ?_
      refine gj_topw (wof := (wM h cI cL cZ)) (fun σ24 eσ24 => ?_)
      have hC := hC.2 σ24 eσ24
      refine gj_aload_n X d_Mo_split_240 rfl 2 rfl ?_
      refine gj_get X inX9 0 rfl rfl 27 (by decide) tw_575 rfl rfl d_Mo_split_241 ?_
      refine gj_iload X d_Mo_split_244 5 rfl ?_
      refine gj_lload X d_Mo_split_246 3 rfl ?_
      refine gj_lload X d_Mo_split_248 0 rfl ?_
      refine gj_ldiv X d_Mo_split_250 hC.1 ?_
      have hC := hC.2
      refine gj_last (w' := (wM h cI cL cZ) (gs_L σ24 5 (vp_updL (σ24.2.2 5) v_10.toNatClampNeg (v_5 / v23)))) X 20 1 rfl rfl hC.1 (set_wM_L5 h cI cL cZ σ24 _) d_Mo_split_251 ?_
      refine gj_topw (wof := (wM h cI cL cZ)) (fun σ25 eσ25 => ?_)
      have hC := hC.2 σ25 eσ25
      refine gj_lload X d_Mo_split_252 3 rfl ?_
      refine gj_lload X d_Mo_split_254 0 rfl ?_
      refine gj_lrem X d_Mo_split_256 hC.1 ?_
      have hC := hC.2
      refine gj_topl (fun v26 ev26 => ?_)
      have hC := hC v26 ev26
      refine gj_lstore (L' := [(5, .long v26), (14, .long v23), (9, .int v22), (0, .ref (h 0)), (7, .int v_7), (10, .int v_10), (11, .int v_11)]) X d_Mo_split_257 (by decide) rfl ?_
      obtain ⟨v27, ev27⟩ : ∃ y : Int32, y = v_10 + 1 := ⟨_, rfl⟩
      have hC := hC v27 ev27
      refine gj_iinc (v := v27) (L' := [(10, .int v27), (5, .long v26), (14, .long v23), (9, .int v22), (0, .ref (h 0)), (7, .int v_7), (11, .int v_11)]) X d_Mo_split_259 5 rfl (by rw [ev27]; rfl) (by decide) rfl ?_
      refine gj_goto (tgt := 91) X d_Mo_split_262 (by decide) ?_
      exact gj_loc [4, 1, 5, 3, 0] rfl hC)
    (by
      intro v_7 v_10 σ hC
      refine gj_iload X d_Mo_split_276 2 rfl ?_
      refine gj_if_lt (tgt := 313) X d_Mo_split_278 (by decide) (fun c0 => ?_) (fun c0 => ?_)
      · have hC := hC.1 c0
        refine gj_iload X d_Mo_split_313 1 rfl ?_
        exact gj_iret X hr hlk hC d_Mo_split_315
      · have hC := hC.2 c0
        refine gj_aload_n X d_Mo_split_281 rfl 0 rfl ?_
        refine gj_aload_n X d_Mo_split_282 rfl 0 rfl ?_
        refine gj_iload X d_Mo_split_283 1 rfl ?_
        refine gj_iload X d_Mo_split_285 2 rfl ?_
        refine gj_callVI (As := [.int v_7, .int v_10]) (st := [.ref (h 0)]) X (c_Mo_at l dC dI h cI cL cZ σ v_7 v_10 _ hC) ⟨gj_cwB X tw_664 tw_10 tw_661 hd_Mo_at rfl rfl ⟨Nat.le_of_ble_eq_true rfl, Nat.le_of_ble_eq_true rfl⟩, X.2.2.2.2.1 _ tw_663, X.2.2.2.2.1 _ ts_17⟩ 0 rfl rfl hA rfl (Nat.le_of_ble_eq_true rfl) ⟨Nat.zero_le _, Nat.zero_le _⟩ d_Mo_split_287 rfl (fun r29 σ28 hC => ?_)
        refine gj_aload_n X d_Mo_split_290 rfl 0 rfl ?_
        refine gj_get X inX9 0 rfl rfl 26 (by decide) tw_574 rfl rfl d_Mo_split_291 ?_
        refine gj_iload X d_Mo_split_294 2 rfl ?_
        refine gj_iald X 19 0 rfl rfl hC.1 d_Mo_split_296 ?_
        have hC := hC.2
        refine gj_aload_n X d_Mo_split_297 rfl 0 rfl ?_
        refine gj_get X inX9 0 rfl rfl 27 (by decide) tw_575 rfl rfl d_Mo_split_298 ?_
        refine gj_iload X d_Mo_split_301 2 rfl ?_
        refine gj_lald X 20 1 rfl rfl hC.1 d_Mo_split_303 ?_
        have hC := hC.2
        refine gj_callVV (As := [.int r29, .int (σ28.2.1 13 v_10.toNatClampNeg), .long (σ28.2.2 5 v_10.toNatClampNeg)]) (st := []) X (c_Mo_put l dC dI h cI cL cZ σ28 r29 (σ28.2.1 13 v_10.toNatClampNeg) (σ28.2.2 5 v_10.toNatClampNeg) _ hC) ⟨gj_cwB X tw_740 tw_10 tw_737 hd_Mo_put rfl rfl ⟨Nat.le_of_ble_eq_true rfl, Nat.le_of_ble_eq_true rfl⟩, X.2.2.2.2.1 _ tw_739, X.2.2.2.2.1 _ ts_26⟩ 0 rfl rfl hA rfl (Nat.le_of_ble_eq_true rfl) ⟨Nat.zero_le _, Nat.zero_le _⟩ d_Mo_split_304 rfl (fun σ30 hC => ?_)
        obtain ⟨v31, ev31⟩ : ∃ y : Int32, y = v_10 + (-1) := ⟨_, rfl⟩
        have hC := hC v31 ev31
        refine gj_iinc (v := v31) (L' := [(10, .int v31), (0, .ref (h 0)), (7, .int v_7)]) X d_Mo_split_307 2 rfl (by rw [ev31]; rfl) (by decide) rfl ?_
        refine gj_goto (tgt := 276) X d_Mo_split_310 (by decide) ?_
        exact gj_loc [1, 2, 0] rfl hC)
  refine gj_lload_n X d_Mo_split_0 rfl 3 rfl ?_
  refine gj_lstore (L' := [(5, .long a2), (0, .ref (h 0)), (1, .int a0), (2, .int a1), (3, .long a2)]) X d_Mo_split_1 (by decide) rfl ?_
  refine gj_iconst (v := 0) X d_Mo_split_3 (by decide) ?_
  refine gj_istore (L' := [(7, .int (0 : Int32)), (5, .long a2), (0, .ref (h 0)), (1, .int a0), (2, .int a1), (3, .long a2)]) X d_Mo_split_4 (by decide) rfl ?_
  refine gj_iconst (v := 0) X d_Mo_split_6 (by decide) ?_
  refine gj_istore (L' := [(8, .int (0 : Int32)), (7, .int (0 : Int32)), (5, .long a2), (0, .ref (h 0)), (1, .int a0), (2, .int a1), (3, .long a2)]) X d_Mo_split_7 (by decide) rfl ?_
  exact gj_loc [3, 4, 5, 2, 1, 0] rfl hC
abbrev rm_Mo_draw : Room := { frames := 5, cells := 0, slots := 0, locals := 121 }
set_option maxHeartbeats 4000000 in
set_option maxRecDepth 100000 in
theorem c_Mo_draw (l : Launch) (dC : Nat → ClassId) (dI : Nat → Nat → Nat) (h : Nat → Nat) (cI cL cZ : ClassId) (σ : gs_St) (a0 : Int32) (a1 : Int32) (a2 : Int64) (K : Int32 → gs_St → Prop) (hC : C_Mo_draw a0 a1 a2 σ K) : gj_MI l y_Mo_draw (gj_ws y_Mo_draw b_Mo_draw 10 (some .int)) rm_Mo_draw (dC, dI) gs_C (gs_T cI cL cZ) ((wM h cI cL cZ) σ) (wM h cI cL cZ) [.ref (h 0), .int a0, .int a1, .long a2] K := by
  refine gj_enterI (by decide) (Nat.le_of_ble_eq_true rfl) (fun p e s m args below meth c A X hr hlk hA hnm => ?_)
  change gj_J p l e rm_Mo_draw s m args below meth c 0 0 (MQ below (va_Qi K (gj_at (dC, dI) gs_C (gs_T cI cL cZ) (wM h cI cL cZ) A) A) args s 0 0 A) (dC, dI) gs_C A 10 0 [(0, .ref (h 0)), (1, .int a0), (2, .int a1), (3, .long a2)] [] ((wM h cI cL cZ) σ)
  have hC := hC
    (fun (v_7 : Int32) (v_8 : Int32) (σ : gs_St) => gj_J p l e rm_Mo_draw s m args below meth c 0 0 (MQ below (va_Qi K (gj_at (dC, dI) gs_C (gs_T cI cL cZ) (wM h cI cL cZ) A) A) args s 0 0 A) (dC, dI) gs_C A 10 48 [(0, .ref (h 0)), (7, .int v_7), (8, .int v_8)] [] ((wM h cI cL cZ) σ))
    (fun (v_9 : Int32) (σ : gs_St) => gj_J p l e rm_Mo_draw s m args below meth c 0 0 (MQ below (va_Qi K (gj_at (dC, dI) gs_C (gs_T cI cL cZ) (wM h cI cL cZ) A) A) args s 0 0 A) (dC, dI) gs_C A 10 162 [(0, .ref (h 0)), (9, .int v_9)] [] ((wM h cI cL cZ) σ))
    (fun (v_9 : Int32) (σ : gs_St) => gj_J p l e rm_Mo_draw s m args below meth c 0 0 (MQ below (va_Qi K (gj_at (dC, dI) gs_C (gs_T cI cL cZ) (wM h cI cL cZ) A) A) args s 0 0 A) (dC, dI) gs_C A 10 194 [(0, .ref (h 0)), (9, .int v_9)] [] ((wM h cI cL cZ) σ))
    (by
      intro v_7 v_8 σ hC
      refine gj_aload_n X d_Mo_draw_48 rfl 0 rfl ?_
      refine gj_get X inX9 0 rfl rfl 23 (by decide) tw_571 rfl rfl d_Mo_draw_49 ?_
      refine gj_if_le (tgt := 147) X d_Mo_draw_52 (by decide) (fun c0 => ?_) (fun c0 => ?_)
      · have hC := hC.1 c0
        refine gj_aload_n X d_Mo_draw_147 rfl 0 rfl ?_
        refine gj_iload X d_Mo_draw_148 1 rfl ?_
        refine gj_put (w' := (wM h cI cL cZ) (gs_I σ 3 v_7)) X inX9 tyX9 tyX9_ok nmX9 0 rfl rfl 10 (by decide) tw_558 rfl rfl (tyX9_ok 10 (by decide)) rfl rfl (Nat.le_of_ble_eq_true rfl) (set_wM_I3 h cI cL cZ σ _) d_Mo_draw_150 ?_
        refine gj_topw (wof := (wM h cI cL cZ)) (fun σ5 eσ5 => ?_)
        have hC := hC σ5 eσ5
        refine gj_aload_n X d_Mo_draw_153 rfl 0 rfl ?_
        refine gj_iload X d_Mo_draw_154 2 rfl ?_
        refine gj_put (w' := (wM h cI cL cZ) (gs_I σ5 4 v_8)) X inX9 tyX9 tyX9_ok nmX9 0 rfl rfl 11 (by decide) tw_559 rfl rfl (tyX9_ok 11 (by decide)) rfl rfl (Nat.le_of_ble_eq_true rfl) (set_wM_I4 h cI cL cZ σ5 _) d_Mo_draw_156 ?_
        refine gj_topw (wof := (wM h cI cL cZ)) (fun σ6 eσ6 => ?_)
        have hC := hC σ6 eσ6
        refine gj_iconst (v := 0) X d_Mo_draw_159 (by decide) ?_
        refine gj_istore (L' := [(9, .int (0 : Int32)), (0, .ref (h 0)), (7, .int v_7), (8, .int v_8)]) X d_Mo_draw_160 (by decide) rfl ?_
        exact gj_loc [1, 0] rfl hC
      · have hC := hC.2 c0
        refine gj_aload_n X d_Mo_draw_55 rfl 0 rfl ?_
        refine gj_dup X d_Mo_draw_56 rfl ?_
        refine gj_get X inX9 0 rfl rfl 23 (by decide) tw_571 rfl rfl d_Mo_draw_57 ?_
        refine gj_iconst (v := 1) X d_Mo_draw_60 (by decide) ?_
        refine gj_isub X d_Mo_draw_61 ?_
        refine gj_put (w' := (wM h cI cL cZ) (gs_I σ 7 ((σ.1 7) - (1 : Int32)))) X inX9 tyX9 tyX9_ok nmX9 0 rfl rfl 23 (by decide) tw_571 rfl rfl (tyX9_ok 23 (by decide)) rfl rfl (Nat.le_of_ble_eq_true rfl) (set_wM_I7 h cI cL cZ σ _) d_Mo_draw_62 ?_
        refine gj_topw (wof := (wM h cI cL cZ)) (fun σ7 eσ7 => ?_)
        have hC := hC σ7 eσ7
        refine gj_aload_n X d_Mo_draw_65 rfl 0 rfl ?_
        refine gj_get X inX9 0 rfl rfl 20 (by decide) tw_568 rfl rfl d_Mo_draw_66 ?_
        refine gj_aload_n X d_Mo_draw_69 rfl 0 rfl ?_
        refine gj_get X inX9 0 rfl rfl 23 (by decide) tw_571 rfl rfl d_Mo_draw_70 ?_
        refine gj_iald X 14 0 rfl rfl hC.1 d_Mo_draw_73 ?_
        have hC := hC.2
        refine gj_topi (fun v8 ev8 => ?_)
        have hC := hC v8 ev8
        refine gj_istore (L' := [(9, .int v8), (0, .ref (h 0)), (7, .int v_7), (8, .int v_8)]) X d_Mo_draw_74 (by decide) rfl ?_
        refine gj_iload X d_Mo_draw_76 0 rfl ?_
        refine gj_callSI (As := [.int v8]) (st := []) X (c_Mo_isNonterminal l dC dI h cI cL cZ σ7 v8 _ hC) ⟨gj_cwB X tw_644 tw_10 tw_642 hd_Mo_isNonterminal rfl rfl ⟨Nat.le_of_ble_eq_true rfl, Nat.le_of_ble_eq_true rfl⟩, X.2.2.2.2.1 _ tw_643⟩ hA rfl (Nat.le_of_ble_eq_true rfl) ⟨Nat.zero_le _, Nat.zero_le _⟩ d_Mo_draw_78 rfl (fun r10 σ9 hC => ?_)
        obtain ⟨hC, hb⟩ := hC
        refine gj_if_ne (tgt := 99) X d_Mo_draw_81 (by decide) (fun c0 => ?_) (fun c0 => ?_)
        · have hC := hC.1 c0
          refine gj_iload X d_Mo_draw_99 2 rfl ?_
          refine gj_sipush (v := 200) X d_Mo_draw_101 (by decide) ?_
          refine gj_icmp_ne (tgt := 110) X d_Mo_draw_104 (by decide) (fun c0 => ?_) (fun c0 => ?_)
          · have hC := hC.1 c0
            refine gj_aload_n X d_Mo_draw_110 rfl 1 rfl ?_
            refine gj_get X inX9 0 rfl rfl 24 (by decide) tw_572 rfl rfl d_Mo_draw_111 ?_
            refine gj_iload X d_Mo_draw_114 2 rfl ?_
            refine gj_aload_n X d_Mo_draw_116 rfl 1 rfl ?_
            refine gj_iload X d_Mo_draw_117 0 rfl ?_
            refine gj_aload_n X d_Mo_draw_119 rfl 1 rfl ?_
            refine gj_get X inX9 0 rfl rfl 21 (by decide) tw_569 rfl rfl d_Mo_draw_120 ?_
            refine gj_aload_n X d_Mo_draw_123 rfl 1 rfl ?_
            refine gj_get X inX9 0 rfl rfl 23 (by decide) tw_571 rfl rfl d_Mo_draw_124 ?_
            refine gj_iald X 15 0 rfl rfl hC.1 d_Mo_draw_127 ?_
            have hC := hC.2
            refine gj_aload_n X d_Mo_draw_128 rfl 1 rfl ?_
            refine gj_get X inX9 0 rfl rfl 22 (by decide) tw_570 rfl rfl d_Mo_draw_129 ?_
            refine gj_aload_n X d_Mo_draw_132 rfl 1 rfl ?_
            refine gj_get X inX9 0 rfl rfl 23 (by decide) tw_571 rfl rfl d_Mo_draw_133 ?_
            refine gj_lald X 16 1 rfl rfl hC.1 d_Mo_draw_136 ?_
            have hC := hC.2
            refine gj_callVI (As := [.int v8, .int (σ9.2.1 10 (σ9.1 7).toNatClampNeg), .long (σ9.2.2 4 (σ9.1 7).toNatClampNeg)]) (st := [.int v_7, .ref (h 17)]) X (c_Mo_split l dC dI h cI cL cZ σ9 v8 (σ9.2.1 10 (σ9.1 7).toNatClampNeg) (σ9.2.2 4 (σ9.1 7).toNatClampNeg) _ hC) ⟨gj_cwB X tw_744 tw_10 tw_741 hd_Mo_split rfl rfl ⟨Nat.le_of_ble_eq_true rfl, Nat.le_of_ble_eq_true rfl⟩, X.2.2.2.2.1 _ tw_743, X.2.2.2.2.1 _ ts_27⟩ 0 rfl rfl hA rfl (Nat.le_of_ble_eq_true rfl) ⟨Nat.zero_le _, Nat.zero_le _⟩ d_Mo_draw_137 rfl (fun r12 σ11 hC => ?_)
            refine gj_iast (w' := (wM h cI cL cZ) (gs_A σ11 11 (upd (σ11.2.1 11) v_7.toNatClampNeg r12))) X 17 0 rfl rfl hC.1 (set_wM_A11 h cI cL cZ σ11 _) d_Mo_draw_140 ?_
            refine gj_topw (wof := (wM h cI cL cZ)) (fun σ13 eσ13 => ?_)
            have hC := hC.2 σ13 eσ13
            obtain ⟨v14, ev14⟩ : ∃ y : Int32, y = v_7 + 1 := ⟨_, rfl⟩
            have hC := hC v14 ev14
            refine gj_iinc (v := v14) (L' := [(7, .int v14), (9, .int v8), (0, .ref (h 0)), (8, .int v_8)]) X d_Mo_draw_141 2 rfl (by rw [ev14]; rfl) (by decide) rfl ?_
            refine gj_goto (tgt := 48) X d_Mo_draw_144 (by decide) ?_
            exact gj_loc [2, 0, 3] rfl hC
          · have hC := hC.2 c0
            refine gj_bipush (v := -2) X d_Mo_draw_107 (by decide) ?_
            exact gj_iret X hr hlk hC d_Mo_draw_109
        · have hC := hC.2 c0
          refine gj_aload_n X d_Mo_draw_84 rfl 1 rfl ?_
          refine gj_get X inX9 0 rfl rfl 25 (by decide) tw_573 rfl rfl d_Mo_draw_85 ?_
          refine gj_iload X d_Mo_draw_88 3 rfl ?_
          refine gj_iload X d_Mo_draw_90 0 rfl ?_
          refine gj_iast (w' := (wM h cI cL cZ) (gs_A σ9 12 (upd (σ9.2.1 12) v_8.toNatClampNeg v8))) X 18 0 rfl rfl hC.1 (set_wM_A12 h cI cL cZ σ9 _) d_Mo_draw_92 ?_
          refine gj_topw (wof := (wM h cI cL cZ)) (fun σ15 eσ15 => ?_)
          have hC := hC.2 σ15 eσ15
          obtain ⟨v16, ev16⟩ : ∃ y : Int32, y = v_8 + 1 := ⟨_, rfl⟩
          have hC := hC v16 ev16
          refine gj_iinc (v := v16) (L' := [(8, .int v16), (9, .int v8), (0, .ref (h 0)), (7, .int v_7)]) X d_Mo_draw_93 3 rfl (by rw [ev16]; rfl) (by decide) rfl ?_
          refine gj_goto (tgt := 48) X d_Mo_draw_96 (by decide) ?_
          exact gj_loc [2, 3, 0] rfl hC)
    (by
      intro v_9 σ hC
      refine gj_iload X d_Mo_draw_162 1 rfl ?_
      refine gj_aload_n X d_Mo_draw_164 rfl 0 rfl ?_
      refine gj_get X inX9 0 rfl rfl 10 (by decide) tw_558 rfl rfl d_Mo_draw_165 ?_
      refine gj_icmp_ge (tgt := 191) X d_Mo_draw_168 (by decide) (fun c0 => ?_) (fun c0 => ?_)
      · have hC := hC.1 c0
        refine gj_iconst (v := 0) X d_Mo_draw_191 (by decide) ?_
        refine gj_istore (L' := [(9, .int (0 : Int32)), (0, .ref (h 0))]) X d_Mo_draw_192 (by decide) rfl ?_
        exact gj_loc [1, 0] rfl hC
      · have hC := hC.2 c0
        refine gj_aload_n X d_Mo_draw_171 rfl 0 rfl ?_
        refine gj_get X inX9 0 rfl rfl 8 (by decide) tw_556 rfl rfl d_Mo_draw_172 ?_
        refine gj_iload X d_Mo_draw_175 1 rfl ?_
        refine gj_aload_n X d_Mo_draw_177 rfl 0 rfl ?_
        refine gj_get X inX9 0 rfl rfl 24 (by decide) tw_572 rfl rfl d_Mo_draw_178 ?_
        refine gj_iload X d_Mo_draw_181 1 rfl ?_
        refine gj_iald X 17 0 rfl rfl hC.1 d_Mo_draw_183 ?_
        have hC := hC.2
        refine gj_iast (w' := (wM h cI cL cZ) (gs_A σ 5 (upd (σ.2.1 5) v_9.toNatClampNeg (σ.2.1 11 v_9.toNatClampNeg)))) X 6 0 rfl rfl hC.1 (set_wM_A5 h cI cL cZ σ _) d_Mo_draw_184 ?_
        refine gj_topw (wof := (wM h cI cL cZ)) (fun σ17 eσ17 => ?_)
        have hC := hC.2 σ17 eσ17
        obtain ⟨v18, ev18⟩ : ∃ y : Int32, y = v_9 + 1 := ⟨_, rfl⟩
        have hC := hC v18 ev18
        refine gj_iinc (v := v18) (L' := [(9, .int v18), (0, .ref (h 0))]) X d_Mo_draw_185 1 rfl (by rw [ev18]; rfl) (by decide) rfl ?_
        refine gj_goto (tgt := 162) X d_Mo_draw_188 (by decide) ?_
        exact gj_loc [1, 0] rfl hC)
    (by
      intro v_9 σ hC
      refine gj_iload X d_Mo_draw_194 1 rfl ?_
      refine gj_aload_n X d_Mo_draw_196 rfl 0 rfl ?_
      refine gj_get X inX9 0 rfl rfl 11 (by decide) tw_559 rfl rfl d_Mo_draw_197 ?_
      refine gj_icmp_ge (tgt := 223) X d_Mo_draw_200 (by decide) (fun c0 => ?_) (fun c0 => ?_)
      · have hC := hC.1 c0
        refine gj_aload_n X d_Mo_draw_223 rfl 0 rfl ?_
        refine gj_get X inX9 0 rfl rfl 10 (by decide) tw_558 rfl rfl d_Mo_draw_224 ?_
        exact gj_iret X hr hlk hC d_Mo_draw_227
      · have hC := hC.2 c0
        refine gj_aload_n X d_Mo_draw_203 rfl 0 rfl ?_
        refine gj_get X inX9 0 rfl rfl 9 (by decide) tw_557 rfl rfl d_Mo_draw_204 ?_
        refine gj_iload X d_Mo_draw_207 1 rfl ?_
        refine gj_aload_n X d_Mo_draw_209 rfl 0 rfl ?_
        refine gj_get X inX9 0 rfl rfl 25 (by decide) tw_573 rfl rfl d_Mo_draw_210 ?_
        refine gj_iload X d_Mo_draw_213 1 rfl ?_
        refine gj_iald X 18 0 rfl rfl hC.1 d_Mo_draw_215 ?_
        have hC := hC.2
        refine gj_iast (w' := (wM h cI cL cZ) (gs_A σ 6 (upd (σ.2.1 6) v_9.toNatClampNeg (σ.2.1 12 v_9.toNatClampNeg)))) X 7 0 rfl rfl hC.1 (set_wM_A6 h cI cL cZ σ _) d_Mo_draw_216 ?_
        refine gj_topw (wof := (wM h cI cL cZ)) (fun σ19 eσ19 => ?_)
        have hC := hC.2 σ19 eσ19
        obtain ⟨v20, ev20⟩ : ∃ y : Int32, y = v_9 + 1 := ⟨_, rfl⟩
        have hC := hC v20 ev20
        refine gj_iinc (v := v20) (L' := [(9, .int v20), (0, .ref (h 0))]) X d_Mo_draw_217 1 rfl (by rw [ev20]; rfl) (by decide) rfl ?_
        refine gj_goto (tgt := 194) X d_Mo_draw_220 (by decide) ?_
        exact gj_loc [1, 0] rfl hC)
  refine gj_aload_n X d_Mo_draw_0 rfl 0 rfl ?_
  refine gj_iload_n X d_Mo_draw_1 rfl 1 rfl ?_
  refine gj_iload_n X d_Mo_draw_2 rfl 2 rfl ?_
  refine gj_callVL (As := [.int a0, .int a1]) (st := []) X (c_Mo_trees l dC dI h cI cL cZ σ a0 a1 _ hC) ⟨gj_cwB X tw_701 tw_10 tw_732 hd_Mo_trees rfl rfl ⟨Nat.le_of_ble_eq_true rfl, Nat.le_of_ble_eq_true rfl⟩, X.2.2.2.2.1 _ tw_699, X.2.2.2.2.1 _ tw_700⟩ 0 rfl rfl hA rfl (Nat.le_of_ble_eq_true rfl) ⟨Nat.zero_le _, Nat.zero_le _⟩ d_Mo_draw_3 rfl (fun r2 σ1 hC => ?_)
  refine gj_lstore (L' := [(5, .long r2), (0, .ref (h 0)), (1, .int a0), (2, .int a1), (3, .long a2)]) X d_Mo_draw_6 (by decide) rfl ?_
  refine gj_lload X d_Mo_draw_8 0 rfl ?_
  refine gj_lconst (v := 0) X d_Mo_draw_10 (by decide) ?_
  refine gj_lcmp_lt (tgt := 28) X d_Mo_draw_11 d_Mo_draw_12 (by decide) (fun c0 => ?_) (fun c0 => ?_)
  · have hC := hC.1 c0
    refine gj_iconst (v := -1) X d_Mo_draw_28 (by decide) ?_
    exact gj_iret X hr hlk hC d_Mo_draw_29
  · have hC := hC.2 c0
    refine gj_lload_n X d_Mo_draw_15 rfl 4 rfl ?_
    refine gj_lconst (v := 0) X d_Mo_draw_16 (by decide) ?_
    refine gj_lcmp_lt (tgt := 28) X d_Mo_draw_17 d_Mo_draw_18 (by decide) (fun c0 => ?_) (fun c0 => ?_)
    · have hC := hC.1 c0
      refine gj_iconst (v := -1) X d_Mo_draw_28 (by decide) ?_
      exact gj_iret X hr hlk hC d_Mo_draw_29
    · have hC := hC.2 c0
      refine gj_lload_n X d_Mo_draw_21 rfl 4 rfl ?_
      refine gj_lload X d_Mo_draw_22 0 rfl ?_
      refine gj_lcmp_lt (tgt := 30) X d_Mo_draw_24 d_Mo_draw_25 (by decide) (fun c0 => ?_) (fun c0 => ?_)
      · have hC := hC.1 c0
        refine gj_aload_n X d_Mo_draw_30 rfl 1 rfl ?_
        refine gj_iconst (v := 0) X d_Mo_draw_31 (by decide) ?_
        refine gj_put (w' := (wM h cI cL cZ) (gs_I σ1 7 (0 : Int32))) X inX9 tyX9 tyX9_ok nmX9 0 rfl rfl 23 (by decide) tw_571 rfl rfl (tyX9_ok 23 (by decide)) rfl rfl (Nat.le_of_ble_eq_true rfl) (set_wM_I7 h cI cL cZ σ1 _) d_Mo_draw_32 ?_
        refine gj_topw (wof := (wM h cI cL cZ)) (fun σ3 eσ3 => ?_)
        have hC := hC σ3 eσ3
        refine gj_aload_n X d_Mo_draw_35 rfl 1 rfl ?_
        refine gj_iload_n X d_Mo_draw_36 rfl 2 rfl ?_
        refine gj_iload_n X d_Mo_draw_37 rfl 3 rfl ?_
        refine gj_lload_n X d_Mo_draw_38 rfl 4 rfl ?_
        refine gj_callVV (As := [.int a0, .int a1, .long a2]) (st := []) X (c_Mo_put l dC dI h cI cL cZ σ3 a0 a1 a2 _ hC) ⟨gj_cwB X tw_740 tw_10 tw_737 hd_Mo_put rfl rfl ⟨Nat.le_of_ble_eq_true rfl, Nat.le_of_ble_eq_true rfl⟩, X.2.2.2.2.1 _ tw_739, X.2.2.2.2.1 _ ts_26⟩ 0 rfl rfl hA rfl (Nat.le_of_ble_eq_true rfl) ⟨Nat.zero_le _, Nat.zero_le _⟩ d_Mo_draw_39 rfl (fun σ4 hC => ?_)
        refine gj_iconst (v := 0) X d_Mo_draw_42 (by decide) ?_
        refine gj_istore (L' := [(7, .int (0 : Int32)), (5, .long r2), (0, .ref (h 0)), (1, .int a0), (2, .int a1), (3, .long a2)]) X d_Mo_draw_43 (by decide) rfl ?_
        refine gj_iconst (v := 0) X d_Mo_draw_45 (by decide) ?_
        refine gj_istore (L' := [(8, .int (0 : Int32)), (7, .int (0 : Int32)), (5, .long r2), (0, .ref (h 0)), (1, .int a0), (2, .int a1), (3, .long a2)]) X d_Mo_draw_46 (by decide) rfl ?_
        exact gj_loc [3, 1, 0] rfl hC
      · have hC := hC.2 c0
        refine gj_iconst (v := -1) X d_Mo_draw_28 (by decide) ?_
        exact gj_iret X hr hlk hC d_Mo_draw_29
