abbrev rm_Mo_shortest : Room := { frames := 4, cells := 0, slots := 0, locals := 90 }
set_option maxHeartbeats 4000000 in
set_option maxRecDepth 100000 in
theorem c_Mo_shortest (l : Launch) (dC : Nat → ClassId) (dI : Nat → Nat → Nat) (h : Nat → Nat) (cI cL cZ : ClassId) (σ : gs_St) (a0 : Int32) (K : Int32 → gs_St → Prop) (hC : C_Mo_shortest a0 σ K) : gj_MI l y_Mo_shortest (gj_ws y_Mo_shortest b_Mo_shortest 2 (some .int)) rm_Mo_shortest (dC, dI) gs_C (gs_T cI cL cZ) ((wM h cI cL cZ) σ) (wM h cI cL cZ) [.ref (h 0), .int a0] K := by
  refine gj_enterI (by decide) (Nat.le_of_ble_eq_true rfl) (fun p e s m args below meth c A X hr hlk hA hnm => ?_)
  change gj_J p l e rm_Mo_shortest s m args below meth c 0 0 (MQ below (va_Qi K (gj_at (dC, dI) gs_C (gs_T cI cL cZ) (wM h cI cL cZ) A) A) args s 0 0 A) (dC, dI) gs_C A 2 0 [(0, .ref (h 0)), (1, .int a0)] [] ((wM h cI cL cZ) σ)
  refine gj_iload_n X d_Mo_shortest_0 rfl 1 rfl ?_
  refine gj_callSI (As := [.int a0]) (st := []) X (c_Mo_isNonterminal l dC dI h cI cL cZ σ a0 _ hC) ⟨gj_cwB X tw_644 tw_10 tw_642 hd_Mo_isNonterminal rfl rfl ⟨Nat.le_of_ble_eq_true rfl, Nat.le_of_ble_eq_true rfl⟩, X.2.2.2.2.1 _ tw_643⟩ hA rfl (Nat.le_of_ble_eq_true rfl) ⟨Nat.zero_le _, Nat.zero_le _⟩ d_Mo_shortest_1 rfl (fun r2 σ1 hC => ?_)
  obtain ⟨hC, hb⟩ := hC
  refine gj_if_ne (tgt := 9) X d_Mo_shortest_4 (by decide) (fun c0 => ?_) (fun c0 => ?_)
  · have hC := hC.1 c0
    refine gj_aload_n X d_Mo_shortest_9 rfl 0 rfl ?_
    refine gj_callVV (As := []) (st := []) X (c_Mo_shorten l dC dI h cI cL cZ σ1 _ hC) ⟨gj_cwB X tw_672 tw_10 tw_669 hd_Mo_shorten rfl rfl ⟨Nat.le_of_ble_eq_true rfl, Nat.le_of_ble_eq_true rfl⟩, X.2.2.2.2.1 _ tw_671, X.2.2.2.2.1 _ ts_18⟩ 0 rfl rfl hA rfl (Nat.le_of_ble_eq_true rfl) ⟨Nat.zero_le _, Nat.zero_le _⟩ d_Mo_shortest_10 rfl (fun σ3 hC => ?_)
    refine gj_aload_n X d_Mo_shortest_13 rfl 0 rfl ?_
    refine gj_get X inX9 0 rfl rfl 12 (by decide) tw_560 rfl rfl d_Mo_shortest_14 ?_
    refine gj_iload_n X d_Mo_shortest_17 rfl 1 rfl ?_
    refine gj_lald X 8 1 rfl rfl hC.1 d_Mo_shortest_18 ?_
    have hC := hC.2
    refine gj_ldc2 (v := 1152921504606846976) X tw_673 d_Mo_shortest_19 ?_
    refine gj_lcmp_ge (tgt := 36) X d_Mo_shortest_22 d_Mo_shortest_23 (by decide) (fun c0 => ?_) (fun c0 => ?_)
    · have hC := hC.1 c0
      refine gj_iconst (v := -1) X d_Mo_shortest_36 (by decide) ?_
      exact gj_iret X hr hlk hC d_Mo_shortest_37
    · have hC := hC.2 c0
      refine gj_aload_n X d_Mo_shortest_26 rfl 0 rfl ?_
      refine gj_get X inX9 0 rfl rfl 12 (by decide) tw_560 rfl rfl d_Mo_shortest_27 ?_
      refine gj_iload_n X d_Mo_shortest_30 rfl 1 rfl ?_
      refine gj_lald X 8 1 rfl rfl hC.1 d_Mo_shortest_31 ?_
      have hC := hC.2
      refine gj_l2i X d_Mo_shortest_32 ?_
      refine gj_goto (tgt := 37) X d_Mo_shortest_33 (by decide) ?_
      exact gj_iret X hr hlk hC d_Mo_shortest_37
  · have hC := hC.2 c0
    refine gj_iconst (v := -1) X d_Mo_shortest_7 (by decide) ?_
    exact gj_iret X hr hlk hC d_Mo_shortest_8
abbrev rm_Mo_shortestWith : Room := { frames := 4, cells := 0, slots := 0, locals := 90 }
set_option maxHeartbeats 4000000 in
set_option maxRecDepth 100000 in
theorem c_Mo_shortestWith (l : Launch) (dC : Nat → ClassId) (dI : Nat → Nat → Nat) (h : Nat → Nat) (cI cL cZ : ClassId) (σ : gs_St) (a0 : Int32) (K : Int32 → gs_St → Prop) (hC : C_Mo_shortestWith a0 σ K) : gj_MI l y_Mo_shortestWith (gj_ws y_Mo_shortestWith b_Mo_shortestWith 7 (some .int)) rm_Mo_shortestWith (dC, dI) gs_C (gs_T cI cL cZ) ((wM h cI cL cZ) σ) (wM h cI cL cZ) [.ref (h 0), .int a0] K := by
  refine gj_enterI (by decide) (Nat.le_of_ble_eq_true rfl) (fun p e s m args below meth c A X hr hlk hA hnm => ?_)
  change gj_J p l e rm_Mo_shortestWith s m args below meth c 0 0 (MQ below (va_Qi K (gj_at (dC, dI) gs_C (gs_T cI cL cZ) (wM h cI cL cZ) A) A) args s 0 0 A) (dC, dI) gs_C A 7 0 [(0, .ref (h 0)), (1, .int a0)] [] ((wM h cI cL cZ) σ)
  have hC := hC
    (fun (v_1 : Int32) (v_2 : Int32) (σ : gs_St) => gj_J p l e rm_Mo_shortestWith s m args below meth c 0 0 (MQ below (va_Qi K (gj_at (dC, dI) gs_C (gs_T cI cL cZ) (wM h cI cL cZ) A) A) args s 0 0 A) (dC, dI) gs_C A 7 16 [(0, .ref (h 0)), (1, .int v_1), (2, .int v_2)] [] ((wM h cI cL cZ) σ))
    (fun (v_2 : Int32) (σ : gs_St) => gj_J p l e rm_Mo_shortestWith s m args below meth c 0 0 (MQ below (va_Qi K (gj_at (dC, dI) gs_C (gs_T cI cL cZ) (wM h cI cL cZ) A) A) args s 0 0 A) (dC, dI) gs_C A 7 56 [(0, .ref (h 0)), (2, .int v_2)] [] ((wM h cI cL cZ) σ))
    (fun (v_2 : Int32) (v_3 : Int32) (σ : gs_St) => gj_J p l e rm_Mo_shortestWith s m args below meth c 0 0 (MQ below (va_Qi K (gj_at (dC, dI) gs_C (gs_T cI cL cZ) (wM h cI cL cZ) A) A) args s 0 0 A) (dC, dI) gs_C A 7 64 [(0, .ref (h 0)), (2, .int v_2), (3, .int v_3)] [] ((wM h cI cL cZ) σ))
    (fun (v_2 : Int32) (v_3 : Int32) (v_4 : Int32) (σ : gs_St) => gj_J p l e rm_Mo_shortestWith s m args below meth c 0 0 (MQ below (va_Qi K (gj_at (dC, dI) gs_C (gs_T cI cL cZ) (wM h cI cL cZ) A) A) args s 0 0 A) (dC, dI) gs_C A 7 75 [(0, .ref (h 0)), (2, .int v_2), (3, .int v_3), (4, .int v_4)] [] ((wM h cI cL cZ) σ))
    (by
      intro v_1 v_2 σ hC
      refine gj_iload_n X d_Mo_shortestWith_16 rfl 2 rfl ?_
      refine gj_bipush (v := 8) X d_Mo_shortestWith_17 (by decide) ?_
      refine gj_icmp_ge (tgt := 37) X d_Mo_shortestWith_19 (by decide) (fun c0 => ?_) (fun c0 => ?_)
      · have hC := hC.1 c0
        refine gj_aload_n X d_Mo_shortestWith_37 rfl 0 rfl ?_
        refine gj_get X inX9 0 rfl rfl 13 (by decide) tw_561 rfl rfl d_Mo_shortestWith_38 ?_
        refine gj_aload_n X d_Mo_shortestWith_41 rfl 0 rfl ?_
        refine gj_get X inX9 0 rfl rfl 0 (by decide) tw_548 rfl rfl d_Mo_shortestWith_42 ?_
        refine gj_iload_n X d_Mo_shortestWith_45 rfl 1 rfl ?_
        refine gj_iald X 1 0 rfl rfl hC.1 d_Mo_shortestWith_46 ?_
        have hC := hC.2
        refine gj_aload_n X d_Mo_shortestWith_47 rfl 0 rfl ?_
        refine gj_iload_n X d_Mo_shortestWith_48 rfl 1 rfl ?_
        refine gj_iconst (v := -1) X d_Mo_shortestWith_49 (by decide) ?_
        refine gj_callVL (As := [.int v_1, .int (-1 : Int32)]) (st := [.int (σ.2.1 0 v_1.toNatClampNeg), .ref (h 9)]) X (c_Mo_leastBut l dC dI h cI cL cZ σ v_1 (-1 : Int32) _ hC) ⟨gj_cwB X tw_677 tw_10 tw_674 hd_Mo_leastBut rfl rfl ⟨Nat.le_of_ble_eq_true rfl, Nat.le_of_ble_eq_true rfl⟩, X.2.2.2.2.1 _ tw_676, X.2.2.2.2.1 _ ts_19⟩ 0 rfl rfl hA rfl (Nat.le_of_ble_eq_true rfl) ⟨Nat.zero_le _, Nat.zero_le _⟩ d_Mo_shortestWith_50 rfl (fun r5 σ4 hC => ?_)
        refine gj_last (w' := (wM h cI cL cZ) (gs_L σ4 1 (vp_updL (σ4.2.2 1) (σ.2.1 0 v_1.toNatClampNeg).toNatClampNeg r5))) X 9 1 rfl rfl hC.1 (set_wM_L1 h cI cL cZ σ4 _) d_Mo_shortestWith_53 ?_
        refine gj_topw (wof := (wM h cI cL cZ)) (fun σ6 eσ6 => ?_)
        have hC := hC.2 σ6 eσ6
        refine gj_iconst (v := 0) X d_Mo_shortestWith_54 (by decide) ?_
        refine gj_istore_n (L' := [(2, .int (0 : Int32)), (0, .ref (h 0)), (1, .int v_1)]) X d_Mo_shortestWith_55 rfl (by decide) rfl ?_
        exact gj_loc [1, 0] rfl hC
      · have hC := hC.2 c0
        refine gj_aload_n X d_Mo_shortestWith_22 rfl 0 rfl ?_
        refine gj_get X inX9 0 rfl rfl 13 (by decide) tw_561 rfl rfl d_Mo_shortestWith_23 ?_
        refine gj_iload_n X d_Mo_shortestWith_26 rfl 2 rfl ?_
        refine gj_ldc2 (v := 1152921504606846976) X tw_673 d_Mo_shortestWith_27 ?_
        refine gj_last (w' := (wM h cI cL cZ) (gs_L σ 1 (vp_updL (σ.2.2 1) v_2.toNatClampNeg (1152921504606846976 : Int64)))) X 9 1 rfl rfl hC.1 (set_wM_L1 h cI cL cZ σ _) d_Mo_shortestWith_30 ?_
        refine gj_topw (wof := (wM h cI cL cZ)) (fun σ7 eσ7 => ?_)
        have hC := hC.2 σ7 eσ7
        obtain ⟨v8, ev8⟩ : ∃ y : Int32, y = v_2 + 1 := ⟨_, rfl⟩
        have hC := hC v8 ev8
        refine gj_iinc (v := v8) (L' := [(2, .int v8), (0, .ref (h 0)), (1, .int v_1)]) X d_Mo_shortestWith_31 2 rfl (by rw [ev8]; rfl) (by decide) rfl ?_
        refine gj_goto (tgt := 16) X d_Mo_shortestWith_34 (by decide) ?_
        exact gj_loc [1, 2, 0] rfl hC)
    (by
      intro v_2 σ hC
      refine gj_iload_n X d_Mo_shortestWith_56 rfl 1 rfl ?_
      refine gj_bipush (v := 8) X d_Mo_shortestWith_57 (by decide) ?_
      refine gj_icmp_ge (tgt := 183) X d_Mo_shortestWith_59 (by decide) (fun c0 => ?_) (fun c0 => ?_)
      · have hC := hC.1 c0
        refine gj_aload_n X d_Mo_shortestWith_183 rfl 0 rfl ?_
        refine gj_get X inX9 0 rfl rfl 13 (by decide) tw_561 rfl rfl d_Mo_shortestWith_184 ?_
        refine gj_iconst (v := 0) X d_Mo_shortestWith_187 (by decide) ?_
        refine gj_lald X 9 1 rfl rfl hC.1 d_Mo_shortestWith_188 ?_
        have hC := hC.2
        refine gj_ldc2 (v := 1152921504606846976) X tw_673 d_Mo_shortestWith_189 ?_
        refine gj_lcmp_ge (tgt := 206) X d_Mo_shortestWith_192 d_Mo_shortestWith_193 (by decide) (fun c0 => ?_) (fun c0 => ?_)
        · have hC := hC.1 c0
          refine gj_iconst (v := -1) X d_Mo_shortestWith_206 (by decide) ?_
          exact gj_iret X hr hlk hC d_Mo_shortestWith_207
        · have hC := hC.2 c0
          refine gj_aload_n X d_Mo_shortestWith_196 rfl 0 rfl ?_
          refine gj_get X inX9 0 rfl rfl 13 (by decide) tw_561 rfl rfl d_Mo_shortestWith_197 ?_
          refine gj_iconst (v := 0) X d_Mo_shortestWith_200 (by decide) ?_
          refine gj_lald X 9 1 rfl rfl hC.1 d_Mo_shortestWith_201 ?_
          have hC := hC.2
          refine gj_l2i X d_Mo_shortestWith_202 ?_
          refine gj_goto (tgt := 207) X d_Mo_shortestWith_203 (by decide) ?_
          exact gj_iret X hr hlk hC d_Mo_shortestWith_207
      · have hC := hC.2 c0
        refine gj_iconst (v := 0) X d_Mo_shortestWith_62 (by decide) ?_
        refine gj_istore_n (L' := [(3, .int (0 : Int32)), (0, .ref (h 0)), (2, .int v_2)]) X d_Mo_shortestWith_63 rfl (by decide) rfl ?_
        exact gj_loc [1, 2, 0] rfl hC)
    (by
      intro v_2 v_3 σ hC
      refine gj_iload_n X d_Mo_shortestWith_64 rfl 2 rfl ?_
      refine gj_aload_n X d_Mo_shortestWith_65 rfl 0 rfl ?_
      refine gj_get X inX9 0 rfl rfl 3 (by decide) tw_551 rfl rfl d_Mo_shortestWith_66 ?_
      refine gj_icmp_ge (tgt := 177) X d_Mo_shortestWith_69 (by decide) (fun c0 => ?_) (fun c0 => ?_)
      · have hC := hC.1 c0
        obtain ⟨v9, ev9⟩ : ∃ y : Int32, y = v_2 + 1 := ⟨_, rfl⟩
        have hC := hC v9 ev9
        refine gj_iinc (v := v9) (L' := [(2, .int v9), (0, .ref (h 0)), (3, .int v_3)]) X d_Mo_shortestWith_177 1 rfl (by rw [ev9]; rfl) (by decide) rfl ?_
        refine gj_goto (tgt := 56) X d_Mo_shortestWith_180 (by decide) ?_
        exact gj_loc [1, 0] rfl hC
      · have hC := hC.2 c0
        refine gj_iconst (v := 0) X d_Mo_shortestWith_72 (by decide) ?_
        refine gj_istore (L' := [(4, .int (0 : Int32)), (0, .ref (h 0)), (2, .int v_2), (3, .int v_3)]) X d_Mo_shortestWith_73 (by decide) rfl ?_
        exact gj_loc [1, 2, 3, 0] rfl hC)
    (by
      intro v_2 v_3 v_4 σ hC
      refine gj_iload X d_Mo_shortestWith_75 3 rfl ?_
      refine gj_aload_n X d_Mo_shortestWith_77 rfl 0 rfl ?_
      refine gj_get X inX9 0 rfl rfl 1 (by decide) tw_549 rfl rfl d_Mo_shortestWith_78 ?_
      refine gj_iload_n X d_Mo_shortestWith_81 rfl 2 rfl ?_
      refine gj_iald X 2 0 rfl rfl hC.1 d_Mo_shortestWith_82 ?_
      have hC := hC.2
      refine gj_icmp_ge (tgt := 171) X d_Mo_shortestWith_83 (by decide) (fun c0 => ?_) (fun c0 => ?_)
      · have hC := hC.1 c0
        obtain ⟨v10, ev10⟩ : ∃ y : Int32, y = v_3 + 1 := ⟨_, rfl⟩
        have hC := hC v10 ev10
        refine gj_iinc (v := v10) (L' := [(3, .int v10), (0, .ref (h 0)), (2, .int v_2), (4, .int v_4)]) X d_Mo_shortestWith_171 2 rfl (by rw [ev10]; rfl) (by decide) rfl ?_
        refine gj_goto (tgt := 64) X d_Mo_shortestWith_174 (by decide) ?_
        exact gj_loc [1, 2, 0] rfl hC
      · have hC := hC.2 c0
        refine gj_aload_n X d_Mo_shortestWith_86 rfl 0 rfl ?_
        refine gj_iload_n X d_Mo_shortestWith_87 rfl 2 rfl ?_
        refine gj_iload X d_Mo_shortestWith_88 3 rfl ?_
        refine gj_callVI (As := [.int v_3, .int v_4]) (st := []) X (c_Mo_at l dC dI h cI cL cZ σ v_3 v_4 _ hC) ⟨gj_cwB X tw_664 tw_10 tw_661 hd_Mo_at rfl rfl ⟨Nat.le_of_ble_eq_true rfl, Nat.le_of_ble_eq_true rfl⟩, X.2.2.2.2.1 _ tw_663, X.2.2.2.2.1 _ ts_17⟩ 0 rfl rfl hA rfl (Nat.le_of_ble_eq_true rfl) ⟨Nat.zero_le _, Nat.zero_le _⟩ d_Mo_shortestWith_90 rfl (fun r12 σ11 hC => ?_)
        refine gj_callSI (As := [.int r12]) (st := []) X (c_Mo_isNonterminal l dC dI h cI cL cZ σ11 r12 _ hC) ⟨gj_cwB X tw_644 tw_10 tw_642 hd_Mo_isNonterminal rfl rfl ⟨Nat.le_of_ble_eq_true rfl, Nat.le_of_ble_eq_true rfl⟩, X.2.2.2.2.1 _ tw_643⟩ hA rfl (Nat.le_of_ble_eq_true rfl) ⟨Nat.zero_le _, Nat.zero_le _⟩ d_Mo_shortestWith_93 rfl (fun r14 σ13 hC => ?_)
        obtain ⟨hC, hb⟩ := hC
        refine gj_if_eq (tgt := 165) X d_Mo_shortestWith_96 (by decide) (fun c0 => ?_) (fun c0 => ?_)
        · have hC := hC.1 c0
          obtain ⟨v15, ev15⟩ : ∃ y : Int32, y = v_4 + 1 := ⟨_, rfl⟩
          have hC := hC v15 ev15
          refine gj_iinc (v := v15) (L' := [(4, .int v15), (0, .ref (h 0)), (2, .int v_2), (3, .int v_3)]) X d_Mo_shortestWith_165 3 rfl (by rw [ev15]; rfl) (by decide) rfl ?_
          refine gj_goto (tgt := 75) X d_Mo_shortestWith_168 (by decide) ?_
          exact gj_loc [1, 2, 3, 0] rfl hC
        · have hC := hC.2 c0
          refine gj_aload_n X d_Mo_shortestWith_99 rfl 0 rfl ?_
          refine gj_iload_n X d_Mo_shortestWith_100 rfl 2 rfl ?_
          refine gj_iload X d_Mo_shortestWith_101 3 rfl ?_
          refine gj_callVL (As := [.int v_3, .int v_4]) (st := []) X (c_Mo_leastBut l dC dI h cI cL cZ σ13 v_3 v_4 _ hC) ⟨gj_cwB X tw_677 tw_10 tw_674 hd_Mo_leastBut rfl rfl ⟨Nat.le_of_ble_eq_true rfl, Nat.le_of_ble_eq_true rfl⟩, X.2.2.2.2.1 _ tw_676, X.2.2.2.2.1 _ ts_19⟩ 0 rfl rfl hA rfl (Nat.le_of_ble_eq_true rfl) ⟨Nat.zero_le _, Nat.zero_le _⟩ d_Mo_shortestWith_103 rfl (fun r17 σ16 hC => ?_)
          refine gj_aload_n X d_Mo_shortestWith_106 rfl 0 rfl ?_
          refine gj_get X inX9 0 rfl rfl 13 (by decide) tw_561 rfl rfl d_Mo_shortestWith_107 ?_
          refine gj_aload_n X d_Mo_shortestWith_110 rfl 0 rfl ?_
          refine gj_iload_n X d_Mo_shortestWith_111 rfl 2 rfl ?_
          refine gj_iload X d_Mo_shortestWith_112 3 rfl ?_
          refine gj_callVI (As := [.int v_3, .int v_4]) (st := [.ref (h 9), .long r17]) X (c_Mo_at l dC dI h cI cL cZ σ16 v_3 v_4 _ hC) ⟨gj_cwB X tw_664 tw_10 tw_661 hd_Mo_at rfl rfl ⟨Nat.le_of_ble_eq_true rfl, Nat.le_of_ble_eq_true rfl⟩, X.2.2.2.2.1 _ tw_663, X.2.2.2.2.1 _ ts_17⟩ 0 rfl rfl hA rfl (Nat.le_of_ble_eq_true rfl) ⟨Nat.zero_le _, Nat.zero_le _⟩ d_Mo_shortestWith_114 rfl (fun r19 σ18 hC => ?_)
          refine gj_lald X 9 1 rfl rfl hC.1 d_Mo_shortestWith_117 ?_
          have hC := hC.2
          refine gj_ladd X d_Mo_shortestWith_118 ?_
          refine gj_topl (fun v20 ev20 => ?_)
          have hC := hC v20 ev20
          refine gj_lstore (L' := [(5, .long v20), (0, .ref (h 0)), (2, .int v_2), (3, .int v_3), (4, .int v_4)]) X d_Mo_shortestWith_119 (by decide) rfl ?_
          refine gj_aload_n X d_Mo_shortestWith_121 rfl 1 rfl ?_
          refine gj_get X inX9 0 rfl rfl 13 (by decide) tw_561 rfl rfl d_Mo_shortestWith_122 ?_
          refine gj_aload_n X d_Mo_shortestWith_125 rfl 1 rfl ?_
          refine gj_get X inX9 0 rfl rfl 0 (by decide) tw_548 rfl rfl d_Mo_shortestWith_126 ?_
          refine gj_iload_n X d_Mo_shortestWith_129 rfl 3 rfl ?_
          refine gj_iald X 1 0 rfl rfl hC.1 d_Mo_shortestWith_130 ?_
          have hC := hC.2
          refine gj_lload X d_Mo_shortestWith_131 0 rfl ?_
          refine gj_aload_n X d_Mo_shortestWith_133 rfl 1 rfl ?_
          refine gj_get X inX9 0 rfl rfl 13 (by decide) tw_561 rfl rfl d_Mo_shortestWith_134 ?_
          refine gj_aload_n X d_Mo_shortestWith_137 rfl 1 rfl ?_
          refine gj_get X inX9 0 rfl rfl 0 (by decide) tw_548 rfl rfl d_Mo_shortestWith_138 ?_
          refine gj_iload_n X d_Mo_shortestWith_141 rfl 3 rfl ?_
          refine gj_iald X 1 0 rfl rfl hC.1 d_Mo_shortestWith_142 ?_
          have hC := hC.2
          refine gj_lald X 9 1 rfl rfl hC.1 d_Mo_shortestWith_143 ?_
          have hC := hC.2
          refine gj_lcmp_ge (tgt := 153) X d_Mo_shortestWith_144 d_Mo_shortestWith_145 (by decide) (fun c0 => ?_) (fun c0 => ?_)
          · have hC := hC.1 c0
            refine gj_aload_n X d_Mo_shortestWith_153 rfl 1 rfl ?_
            refine gj_get X inX9 0 rfl rfl 13 (by decide) tw_561 rfl rfl d_Mo_shortestWith_154 ?_
            refine gj_aload_n X d_Mo_shortestWith_157 rfl 1 rfl ?_
            refine gj_get X inX9 0 rfl rfl 0 (by decide) tw_548 rfl rfl d_Mo_shortestWith_158 ?_
            refine gj_iload_n X d_Mo_shortestWith_161 rfl 3 rfl ?_
            refine gj_iald X 1 0 rfl rfl hC.1 d_Mo_shortestWith_162 ?_
            have hC := hC.2
            refine gj_lald X 9 1 rfl rfl hC.1 d_Mo_shortestWith_163 ?_
            have hC := hC.2
            refine gj_last (w' := (wM h cI cL cZ) (gs_L σ18 1 (vp_updL (σ18.2.2 1) (σ18.2.1 0 v_3.toNatClampNeg).toNatClampNeg (σ18.2.2 1 (σ18.2.1 0 v_3.toNatClampNeg).toNatClampNeg)))) X 9 1 rfl rfl hC.1 (set_wM_L1 h cI cL cZ σ18 _) d_Mo_shortestWith_164 ?_
            refine gj_topw (wof := (wM h cI cL cZ)) (fun σ21 eσ21 => ?_)
            have hC := hC.2 σ21 eσ21
            obtain ⟨v22, ev22⟩ : ∃ y : Int32, y = v_4 + 1 := ⟨_, rfl⟩
            have hC := hC v22 ev22
            refine gj_iinc (v := v22) (L' := [(4, .int v22), (5, .long v20), (0, .ref (h 0)), (2, .int v_2), (3, .int v_3)]) X d_Mo_shortestWith_165 4 rfl (by rw [ev22]; rfl) (by decide) rfl ?_
            refine gj_goto (tgt := 75) X d_Mo_shortestWith_168 (by decide) ?_
            exact gj_loc [2, 3, 4, 0] rfl hC
          · have hC := hC.2 c0
            refine gj_lload X d_Mo_shortestWith_148 0 rfl ?_
            refine gj_goto (tgt := 164) X d_Mo_shortestWith_150 (by decide) ?_
            refine gj_last (w' := (wM h cI cL cZ) (gs_L σ18 1 (vp_updL (σ18.2.2 1) (σ18.2.1 0 v_3.toNatClampNeg).toNatClampNeg v20))) X 9 1 rfl rfl hC.1 (set_wM_L1 h cI cL cZ σ18 _) d_Mo_shortestWith_164 ?_
            refine gj_topw (wof := (wM h cI cL cZ)) (fun σ23 eσ23 => ?_)
            have hC := hC.2 σ23 eσ23
            obtain ⟨v24, ev24⟩ : ∃ y : Int32, y = v_4 + 1 := ⟨_, rfl⟩
            have hC := hC v24 ev24
            refine gj_iinc (v := v24) (L' := [(4, .int v24), (5, .long v20), (0, .ref (h 0)), (2, .int v_2), (3, .int v_3)]) X d_Mo_shortestWith_165 4 rfl (by rw [ev24]; rfl) (by decide) rfl ?_
            refine gj_goto (tgt := 75) X d_Mo_shortestWith_168 (by decide) ?_
            exact gj_loc [2, 3, 4, 0] rfl hC)
  refine gj_aload_n X d_Mo_shortestWith_0 rfl 0 rfl ?_
  refine gj_iload_n X d_Mo_shortestWith_1 rfl 1 rfl ?_
  refine gj_callVI (As := [.int a0]) (st := []) X (c_Mo_isRule l dC dI h cI cL cZ σ a0 _ hC) ⟨gj_cwB X tw_652 tw_10 tw_649 hd_Mo_isRule rfl rfl ⟨Nat.le_of_ble_eq_true rfl, Nat.le_of_ble_eq_true rfl⟩, X.2.2.2.2.1 _ tw_651, X.2.2.2.2.1 _ ts_16⟩ 0 rfl rfl hA rfl (Nat.le_of_ble_eq_true rfl) ⟨Nat.zero_le _, Nat.zero_le _⟩ d_Mo_shortestWith_2 rfl (fun r2 σ1 hC => ?_)
  obtain ⟨hC, hb⟩ := hC
  refine gj_if_ne (tgt := 10) X d_Mo_shortestWith_5 (by decide) (fun c0 => ?_) (fun c0 => ?_)
  · have hC := hC.1 c0
    refine gj_aload_n X d_Mo_shortestWith_10 rfl 0 rfl ?_
    refine gj_callVV (As := []) (st := []) X (c_Mo_shorten l dC dI h cI cL cZ σ1 _ hC) ⟨gj_cwB X tw_672 tw_10 tw_669 hd_Mo_shorten rfl rfl ⟨Nat.le_of_ble_eq_true rfl, Nat.le_of_ble_eq_true rfl⟩, X.2.2.2.2.1 _ tw_671, X.2.2.2.2.1 _ ts_18⟩ 0 rfl rfl hA rfl (Nat.le_of_ble_eq_true rfl) ⟨Nat.zero_le _, Nat.zero_le _⟩ d_Mo_shortestWith_11 rfl (fun σ3 hC => ?_)
    refine gj_iconst (v := 0) X d_Mo_shortestWith_14 (by decide) ?_
    refine gj_istore_n (L' := [(2, .int (0 : Int32)), (0, .ref (h 0)), (1, .int a0)]) X d_Mo_shortestWith_15 rfl (by decide) rfl ?_
    exact gj_loc [1, 2, 0] rfl hC
  · have hC := hC.2 c0
    refine gj_iconst (v := -1) X d_Mo_shortestWith_8 (by decide) ?_
    exact gj_iret X hr hlk hC d_Mo_shortestWith_9
abbrev rm_Mo_isEmpty : Room := { frames := 1, cells := 0, slots := 0, locals := 20 }
set_option maxHeartbeats 4000000 in
set_option maxRecDepth 100000 in
theorem c_Mo_isEmpty (l : Launch) (dC : Nat → ClassId) (dI : Nat → Nat → Nat) (h : Nat → Nat) (cI cL cZ : ClassId) (σ : gs_St) (a0 : Int32) (K : Int32 → gs_St → Prop) (hC : C_Mo_isEmpty a0 σ K) : gj_MI l y_Mo_isEmpty (gj_ws y_Mo_isEmpty b_Mo_isEmpty 2 (some .boolean)) rm_Mo_isEmpty (dC, dI) gs_C (gs_T cI cL cZ) ((wM h cI cL cZ) σ) (wM h cI cL cZ) [.ref (h 0), .int a0] (fun r u => K r u ∧ (r = 0 ∨ r = 1)) := by
  refine gj_enterZ (by decide) (Nat.le_of_ble_eq_true rfl) (fun p e s m args below meth c A X hr hlk hA hnm => ?_)
  change gj_J p l e rm_Mo_isEmpty s m args below meth c 0 0 (MQ below (va_Qi (fun r u => K r u ∧ (r = 0 ∨ r = 1)) (gj_at (dC, dI) gs_C (gs_T cI cL cZ) (wM h cI cL cZ) A) A) args s 0 0 A) (dC, dI) gs_C A 2 0 [(0, .ref (h 0)), (1, .int a0)] [] ((wM h cI cL cZ) σ)
  refine gj_iload_n X d_Mo_isEmpty_0 rfl 1 rfl ?_
  refine gj_callSI (As := [.int a0]) (st := []) X (c_Mo_isNonterminal l dC dI h cI cL cZ σ a0 _ hC) ⟨gj_cwB X tw_644 tw_10 tw_642 hd_Mo_isNonterminal rfl rfl ⟨Nat.le_of_ble_eq_true rfl, Nat.le_of_ble_eq_true rfl⟩, X.2.2.2.2.1 _ tw_643⟩ hA rfl (Nat.le_of_ble_eq_true rfl) ⟨Nat.zero_le _, Nat.zero_le _⟩ d_Mo_isEmpty_1 rfl (fun r2 σ1 hC => ?_)
  obtain ⟨hC, hb⟩ := hC
  refine gj_if_eq (tgt := 20) X d_Mo_isEmpty_4 (by decide) (fun c0 => ?_) (fun c0 => ?_)
  · have hC := hC.1 c0
    refine gj_iconst (v := 0) X d_Mo_isEmpty_20 (by decide) ?_
    exact gj_zret X hr hlk (by decide) ⟨hC, Or.inl rfl⟩ d_Mo_isEmpty_21
  · have hC := hC.2 c0
    refine gj_aload_n X d_Mo_isEmpty_7 rfl 0 rfl ?_
    refine gj_get X inX9 0 rfl rfl 14 (by decide) tw_562 rfl rfl d_Mo_isEmpty_8 ?_
    refine gj_iload_n X d_Mo_isEmpty_11 rfl 1 rfl ?_
    refine gj_zald X 10 2 rfl rfl hC.1 d_Mo_isEmpty_12 ?_
    have hC := hC.2
    refine gj_if_eq (tgt := 20) X d_Mo_isEmpty_13 (by decide) (fun c0 => ?_) (fun c0 => ?_)
    · have hC := hC.1 c0
      refine gj_iconst (v := 0) X d_Mo_isEmpty_20 (by decide) ?_
      exact gj_zret X hr hlk (by decide) ⟨hC, Or.inl rfl⟩ d_Mo_isEmpty_21
    · have hC := hC.2 c0
      refine gj_iconst (v := 1) X d_Mo_isEmpty_16 (by decide) ?_
      refine gj_goto (tgt := 21) X d_Mo_isEmpty_17 (by decide) ?_
      exact gj_zret X hr hlk (by decide) ⟨hC, Or.inr rfl⟩ d_Mo_isEmpty_21
abbrev rm_Mo_allEmpty : Room := { frames := 2, cells := 0, slots := 0, locals := 41 }
set_option maxHeartbeats 4000000 in
set_option maxRecDepth 100000 in
theorem c_Mo_allEmpty (l : Launch) (dC : Nat → ClassId) (dI : Nat → Nat → Nat) (h : Nat → Nat) (cI cL cZ : ClassId) (σ : gs_St) (a0 : Int32) (a1 : Int32) (K : Int32 → gs_St → Prop) (hC : C_Mo_allEmpty a0 a1 σ K) : gj_MI l y_Mo_allEmpty (gj_ws y_Mo_allEmpty b_Mo_allEmpty 5 (some .boolean)) rm_Mo_allEmpty (dC, dI) gs_C (gs_T cI cL cZ) ((wM h cI cL cZ) σ) (wM h cI cL cZ) [.ref (h 0), .int a0, .int a1] (fun r u => K r u ∧ (r = 0 ∨ r = 1)) := by
  refine gj_enterZ (by decide) (Nat.le_of_ble_eq_true rfl) (fun p e s m args below meth c A X hr hlk hA hnm => ?_)
  change gj_J p l e rm_Mo_allEmpty s m args below meth c 0 0 (MQ below (va_Qi (fun r u => K r u ∧ (r = 0 ∨ r = 1)) (gj_at (dC, dI) gs_C (gs_T cI cL cZ) (wM h cI cL cZ) A) A) args s 0 0 A) (dC, dI) gs_C A 5 0 [(0, .ref (h 0)), (1, .int a0), (2, .int a1)] [] ((wM h cI cL cZ) σ)
  have hC := hC
    (fun (v_1 : Int32) (v_2 : Int32) (v_3 : Int32) (v_4 : Int32) (σ : gs_St) => gj_J p l e rm_Mo_allEmpty s m args below meth c 0 0 (MQ below (va_Qi (fun r u => K r u ∧ (r = 0 ∨ r = 1)) (gj_at (dC, dI) gs_C (gs_T cI cL cZ) (wM h cI cL cZ) A) A) args s 0 0 A) (dC, dI) gs_C A 5 5 [(0, .ref (h 0)), (1, .int v_1), (2, .int v_2), (3, .int v_3), (4, .int v_4)] [] ((wM h cI cL cZ) σ))
    (by
      intro v_1 v_2 v_3 v_4 σ hC
      refine gj_iload X d_Mo_allEmpty_5 4 rfl ?_
      refine gj_aload_n X d_Mo_allEmpty_7 rfl 0 rfl ?_
      refine gj_get X inX9 0 rfl rfl 1 (by decide) tw_549 rfl rfl d_Mo_allEmpty_8 ?_
      refine gj_iload_n X d_Mo_allEmpty_11 rfl 1 rfl ?_
      refine gj_iald X 2 0 rfl rfl hC.1 d_Mo_allEmpty_12 ?_
      have hC := hC.2
      refine gj_icmp_ge (tgt := 52) X d_Mo_allEmpty_13 (by decide) (fun c0 => ?_) (fun c0 => ?_)
      · have hC := hC.1 c0
        refine gj_iload_n X d_Mo_allEmpty_52 rfl 3 rfl ?_
        exact gj_zret X hr hlk (gj_nz hC.1) ⟨hC.2, hC.1⟩ d_Mo_allEmpty_53
      · have hC := hC.2 c0
        refine gj_iload_n X d_Mo_allEmpty_16 rfl 3 rfl ?_
        refine gj_if_eq (tgt := 44) X d_Mo_allEmpty_17 (by decide) (fun c0 => ?_) (fun c0 => ?_)
        · have hC := hC.1 c0
          refine gj_iconst (v := 0) X d_Mo_allEmpty_44 (by decide) ?_
          refine gj_istore_n (L' := [(3, .int (0 : Int32)), (0, .ref (h 0)), (1, .int v_1), (2, .int v_2), (4, .int v_4)]) X d_Mo_allEmpty_45 rfl (by decide) rfl ?_
          obtain ⟨v1, ev1⟩ : ∃ y : Int32, y = v_4 + 1 := ⟨_, rfl⟩
          have hC := hC v1 ev1
          refine gj_iinc (v := v1) (L' := [(4, .int v1), (3, .int (0 : Int32)), (0, .ref (h 0)), (1, .int v_1), (2, .int v_2)]) X d_Mo_allEmpty_46 4 rfl (by rw [ev1]; rfl) (by decide) rfl ?_
          refine gj_goto (tgt := 5) X d_Mo_allEmpty_49 (by decide) ?_
          exact gj_loc [2, 3, 4, 1, 0] rfl hC
        · have hC := hC.2 c0
          refine gj_iload X d_Mo_allEmpty_20 4 rfl ?_
          refine gj_iload_n X d_Mo_allEmpty_22 rfl 2 rfl ?_
          refine gj_icmp_eq (tgt := 40) X d_Mo_allEmpty_23 (by decide) (fun c0 => ?_) (fun c0 => ?_)
          · have hC := hC.1 c0
            refine gj_iconst (v := 1) X d_Mo_allEmpty_40 (by decide) ?_
            refine gj_goto (tgt := 45) X d_Mo_allEmpty_41 (by decide) ?_
            refine gj_istore_n (L' := [(3, .int (1 : Int32)), (0, .ref (h 0)), (1, .int v_1), (2, .int v_2), (4, .int v_4)]) X d_Mo_allEmpty_45 rfl (by decide) rfl ?_
            obtain ⟨v2, ev2⟩ : ∃ y : Int32, y = v_4 + 1 := ⟨_, rfl⟩
            have hC := hC v2 ev2
            refine gj_iinc (v := v2) (L' := [(4, .int v2), (3, .int (1 : Int32)), (0, .ref (h 0)), (1, .int v_1), (2, .int v_2)]) X d_Mo_allEmpty_46 4 rfl (by rw [ev2]; rfl) (by decide) rfl ?_
            refine gj_goto (tgt := 5) X d_Mo_allEmpty_49 (by decide) ?_
            exact gj_loc [2, 3, 4, 1, 0] rfl hC
          · have hC := hC.2 c0
            refine gj_aload_n X d_Mo_allEmpty_26 rfl 0 rfl ?_
            refine gj_aload_n X d_Mo_allEmpty_27 rfl 0 rfl ?_
            refine gj_iload_n X d_Mo_allEmpty_28 rfl 1 rfl ?_
            refine gj_iload X d_Mo_allEmpty_29 4 rfl ?_
            refine gj_callVI (As := [.int v_1, .int v_4]) (st := [.ref (h 0)]) X (c_Mo_at l dC dI h cI cL cZ σ v_1 v_4 _ hC) ⟨gj_cwB X tw_664 tw_10 tw_661 hd_Mo_at rfl rfl ⟨Nat.le_of_ble_eq_true rfl, Nat.le_of_ble_eq_true rfl⟩, X.2.2.2.2.1 _ tw_663, X.2.2.2.2.1 _ ts_17⟩ 0 rfl rfl hA rfl (Nat.le_of_ble_eq_true rfl) ⟨Nat.zero_le _, Nat.zero_le _⟩ d_Mo_allEmpty_31 rfl (fun r4 σ3 hC => ?_)
            refine gj_callVI (As := [.int r4]) (st := []) X (c_Mo_isEmpty l dC dI h cI cL cZ σ3 r4 _ hC) ⟨gj_cwB X tw_697 tw_10 tw_694 hd_Mo_isEmpty rfl rfl ⟨Nat.le_of_ble_eq_true rfl, Nat.le_of_ble_eq_true rfl⟩, X.2.2.2.2.1 _ tw_696, X.2.2.2.2.1 _ ts_22⟩ 0 rfl rfl hA rfl (Nat.le_of_ble_eq_true rfl) ⟨Nat.zero_le _, Nat.zero_le _⟩ d_Mo_allEmpty_34 rfl (fun r6 σ5 hC => ?_)
            obtain ⟨hC, hb⟩ := hC
            refine gj_if_eq (tgt := 44) X d_Mo_allEmpty_37 (by decide) (fun c0 => ?_) (fun c0 => ?_)
            · have hC := hC.1 c0
              refine gj_iconst (v := 0) X d_Mo_allEmpty_44 (by decide) ?_
              refine gj_istore_n (L' := [(3, .int (0 : Int32)), (0, .ref (h 0)), (1, .int v_1), (2, .int v_2), (4, .int v_4)]) X d_Mo_allEmpty_45 rfl (by decide) rfl ?_
              obtain ⟨v7, ev7⟩ : ∃ y : Int32, y = v_4 + 1 := ⟨_, rfl⟩
              have hC := hC v7 ev7
              refine gj_iinc (v := v7) (L' := [(4, .int v7), (3, .int (0 : Int32)), (0, .ref (h 0)), (1, .int v_1), (2, .int v_2)]) X d_Mo_allEmpty_46 4 rfl (by rw [ev7]; rfl) (by decide) rfl ?_
              refine gj_goto (tgt := 5) X d_Mo_allEmpty_49 (by decide) ?_
              exact gj_loc [2, 3, 4, 1, 0] rfl hC
            · have hC := hC.2 c0
              refine gj_iconst (v := 1) X d_Mo_allEmpty_40 (by decide) ?_
              refine gj_goto (tgt := 45) X d_Mo_allEmpty_41 (by decide) ?_
              refine gj_istore_n (L' := [(3, .int (1 : Int32)), (0, .ref (h 0)), (1, .int v_1), (2, .int v_2), (4, .int v_4)]) X d_Mo_allEmpty_45 rfl (by decide) rfl ?_
              obtain ⟨v8, ev8⟩ : ∃ y : Int32, y = v_4 + 1 := ⟨_, rfl⟩
              have hC := hC v8 ev8
              refine gj_iinc (v := v8) (L' := [(4, .int v8), (3, .int (1 : Int32)), (0, .ref (h 0)), (1, .int v_1), (2, .int v_2)]) X d_Mo_allEmpty_46 4 rfl (by rw [ev8]; rfl) (by decide) rfl ?_
              refine gj_goto (tgt := 5) X d_Mo_allEmpty_49 (by decide) ?_
              exact gj_loc [2, 3, 4, 1, 0] rfl hC)
  refine gj_iconst (v := 1) X d_Mo_allEmpty_0 (by decide) ?_
  refine gj_istore_n (L' := [(3, .int (1 : Int32)), (0, .ref (h 0)), (1, .int a0), (2, .int a1)]) X d_Mo_allEmpty_1 rfl (by decide) rfl ?_
  refine gj_iconst (v := 0) X d_Mo_allEmpty_2 (by decide) ?_
  refine gj_istore (L' := [(4, .int (0 : Int32)), (3, .int (1 : Int32)), (0, .ref (h 0)), (1, .int a0), (2, .int a1)]) X d_Mo_allEmpty_3 (by decide) rfl ?_
  exact gj_loc [2, 3, 4, 1, 0] rfl hC
abbrev rm_Mo_circle : Room := { frames := 3, cells := 0, slots := 0, locals := 65 }
set_option maxHeartbeats 4000000 in
set_option maxRecDepth 100000 in
theorem c_Mo_circle (l : Launch) (dC : Nat → ClassId) (dI : Nat → Nat → Nat) (h : Nat → Nat) (cI cL cZ : ClassId) (σ : gs_St) (K : Int32 → gs_St → Prop) (hC : C_Mo_circle σ K) : gj_MI l y_Mo_circle (gj_ws y_Mo_circle b_Mo_circle 3 (some .boolean)) rm_Mo_circle (dC, dI) gs_C (gs_T cI cL cZ) ((wM h cI cL cZ) σ) (wM h cI cL cZ) [.ref (h 0)] (fun r u => K r u ∧ (r = 0 ∨ r = 1)) := by
  refine gj_enterZ (by decide) (Nat.le_of_ble_eq_true rfl) (fun p e s m args below meth c A X hr hlk hA hnm => ?_)
  change gj_J p l e rm_Mo_circle s m args below meth c 0 0 (MQ below (va_Qi (fun r u => K r u ∧ (r = 0 ∨ r = 1)) (gj_at (dC, dI) gs_C (gs_T cI cL cZ) (wM h cI cL cZ) A) A) args s 0 0 A) (dC, dI) gs_C A 3 0 [(0, .ref (h 0))] [] ((wM h cI cL cZ) σ)
  have hC := hC
    (fun (v_1 : Int32) (σ : gs_St) => gj_J p l e rm_Mo_circle s m args below meth c 0 0 (MQ below (va_Qi (fun r u => K r u ∧ (r = 0 ∨ r = 1)) (gj_at (dC, dI) gs_C (gs_T cI cL cZ) (wM h cI cL cZ) A) A) args s 0 0 A) (dC, dI) gs_C A 3 2 [(0, .ref (h 0)), (1, .int v_1)] [] ((wM h cI cL cZ) σ))
    (fun (v_1 : Int32) (σ : gs_St) => gj_J p l e rm_Mo_circle s m args below meth c 0 0 (MQ below (va_Qi (fun r u => K r u ∧ (r = 0 ∨ r = 1)) (gj_at (dC, dI) gs_C (gs_T cI cL cZ) (wM h cI cL cZ) A) A) args s 0 0 A) (dC, dI) gs_C A 3 23 [(0, .ref (h 0)), (1, .int v_1)] [] ((wM h cI cL cZ) σ))
    (fun (v_1 : Int32) (v_2 : Int32) (σ : gs_St) => gj_J p l e rm_Mo_circle s m args below meth c 0 0 (MQ below (va_Qi (fun r u => K r u ∧ (r = 0 ∨ r = 1)) (gj_at (dC, dI) gs_C (gs_T cI cL cZ) (wM h cI cL cZ) A) A) args s 0 0 A) (dC, dI) gs_C A 3 31 [(0, .ref (h 0)), (1, .int v_1), (2, .int v_2)] [] ((wM h cI cL cZ) σ))
    (fun (v_1 : Int32) (σ : gs_St) => gj_J p l e rm_Mo_circle s m args below meth c 0 0 (MQ below (va_Qi (fun r u => K r u ∧ (r = 0 ∨ r = 1)) (gj_at (dC, dI) gs_C (gs_T cI cL cZ) (wM h cI cL cZ) A) A) args s 0 0 A) (dC, dI) gs_C A 3 92 [(0, .ref (h 0)), (1, .int v_1)] [] ((wM h cI cL cZ) σ))
    (fun (v_1 : Int32) (σ : gs_St) => gj_J p l e rm_Mo_circle s m args below meth c 0 0 (MQ below (va_Qi (fun r u => K r u ∧ (r = 0 ∨ r = 1)) (gj_at (dC, dI) gs_C (gs_T cI cL cZ) (wM h cI cL cZ) A) A) args s 0 0 A) (dC, dI) gs_C A 3 113 [(0, .ref (h 0)), (1, .int v_1)] [] ((wM h cI cL cZ) σ))
    (fun (v_1 : Int32) (v_2 : Int32) (σ : gs_St) => gj_J p l e rm_Mo_circle s m args below meth c 0 0 (MQ below (va_Qi (fun r u => K r u ∧ (r = 0 ∨ r = 1)) (gj_at (dC, dI) gs_C (gs_T cI cL cZ) (wM h cI cL cZ) A) A) args s 0 0 A) (dC, dI) gs_C A 3 123 [(0, .ref (h 0)), (1, .int v_1), (2, .int v_2)] [] ((wM h cI cL cZ) σ))
    (fun (v_1 : Int32) (σ : gs_St) => gj_J p l e rm_Mo_circle s m args below meth c 0 0 (MQ below (va_Qi (fun r u => K r u ∧ (r = 0 ∨ r = 1)) (gj_at (dC, dI) gs_C (gs_T cI cL cZ) (wM h cI cL cZ) A) A) args s 0 0 A) (dC, dI) gs_C A 3 190 [(0, .ref (h 0)), (1, .int v_1)] [] ((wM h cI cL cZ) σ))
    (fun (v_1 : Int32) (v_2 : Int32) (σ : gs_St) => gj_J p l e rm_Mo_circle s m args below meth c 0 0 (MQ below (va_Qi (fun r u => K r u ∧ (r = 0 ∨ r = 1)) (gj_at (dC, dI) gs_C (gs_T cI cL cZ) (wM h cI cL cZ) A) A) args s 0 0 A) (dC, dI) gs_C A 3 198 [(0, .ref (h 0)), (1, .int v_1), (2, .int v_2)] [] ((wM h cI cL cZ) σ))
    (fun (v_1 : Int32) (v_2 : Int32) (σ : gs_St) => gj_J p l e rm_Mo_circle s m args below meth c 0 0 (MQ below (va_Qi (fun r u => K r u ∧ (r = 0 ∨ r = 1)) (gj_at (dC, dI) gs_C (gs_T cI cL cZ) (wM h cI cL cZ) A) A) args s 0 0 A) (dC, dI) gs_C A 3 274 [(0, .ref (h 0)), (1, .int v_1), (2, .int v_2)] [] ((wM h cI cL cZ) σ))
    (by
      intro v_1 σ hC
      refine gj_iload_n X d_Mo_circle_2 rfl 1 rfl ?_
      refine gj_bipush (v := 8) X d_Mo_circle_3 (by decide) ?_
      refine gj_icmp_ge (tgt := 21) X d_Mo_circle_5 (by decide) (fun c0 => ?_) (fun c0 => ?_)
      · have hC := hC.1 c0
        refine gj_iconst (v := 0) X d_Mo_circle_21 (by decide) ?_
        refine gj_istore_n (L' := [(1, .int (0 : Int32)), (0, .ref (h 0))]) X d_Mo_circle_22 rfl (by decide) rfl ?_
        exact gj_loc [1, 0] rfl hC
      · have hC := hC.2 c0
        refine gj_aload_n X d_Mo_circle_8 rfl 0 rfl ?_
        refine gj_get X inX9 0 rfl rfl 14 (by decide) tw_562 rfl rfl d_Mo_circle_9 ?_
        refine gj_iload_n X d_Mo_circle_12 rfl 1 rfl ?_
        refine gj_iconst (v := 0) X d_Mo_circle_13 (by decide) ?_
        refine gj_zast (w' := (wM h cI cL cZ) (gs_A σ 7 (upd (σ.2.1 7) v_1.toNatClampNeg (vp_nar .boolean (0 : Int32))))) X 10 2 rfl rfl hC.1 (set_wM_A7 h cI cL cZ σ _) d_Mo_circle_14 ?_
        refine gj_topw (wof := (wM h cI cL cZ)) (fun σ1 eσ1 => ?_)
        have hC := hC.2 σ1 eσ1
        obtain ⟨v2, ev2⟩ : ∃ y : Int32, y = v_1 + 1 := ⟨_, rfl⟩
        have hC := hC v2 ev2
        refine gj_iinc (v := v2) (L' := [(1, .int v2), (0, .ref (h 0))]) X d_Mo_circle_15 1 rfl (by rw [ev2]; rfl) (by decide) rfl ?_
        refine gj_goto (tgt := 2) X d_Mo_circle_18 (by decide) ?_
        exact gj_loc [1, 0] rfl hC)
    (by
      intro v_1 σ hC
      refine gj_iload_n X d_Mo_circle_23 rfl 1 rfl ?_
      refine gj_bipush (v := 8) X d_Mo_circle_24 (by decide) ?_
      refine gj_icmp_ge (tgt := 90) X d_Mo_circle_26 (by decide) (fun c0 => ?_) (fun c0 => ?_)
      · have hC := hC.1 c0
        refine gj_iconst (v := 0) X d_Mo_circle_90 (by decide) ?_
        refine gj_istore_n (L' := [(1, .int (0 : Int32)), (0, .ref (h 0))]) X d_Mo_circle_91 rfl (by decide) rfl ?_
        exact gj_loc [1, 0] rfl hC
      · have hC := hC.2 c0
        refine gj_iconst (v := 0) X d_Mo_circle_29 (by decide) ?_
        refine gj_istore_n (L' := [(2, .int (0 : Int32)), (0, .ref (h 0)), (1, .int v_1)]) X d_Mo_circle_30 rfl (by decide) rfl ?_
        exact gj_loc [1, 2, 0] rfl hC)
    (by
      intro v_1 v_2 σ hC
      refine gj_iload_n X d_Mo_circle_31 rfl 2 rfl ?_
      refine gj_aload_n X d_Mo_circle_32 rfl 0 rfl ?_
      refine gj_get X inX9 0 rfl rfl 3 (by decide) tw_551 rfl rfl d_Mo_circle_33 ?_
      refine gj_icmp_ge (tgt := 84) X d_Mo_circle_36 (by decide) (fun c0 => ?_) (fun c0 => ?_)
      · have hC := hC.1 c0
        obtain ⟨v3, ev3⟩ : ∃ y : Int32, y = v_1 + 1 := ⟨_, rfl⟩
        have hC := hC v3 ev3
        refine gj_iinc (v := v3) (L' := [(1, .int v3), (0, .ref (h 0)), (2, .int v_2)]) X d_Mo_circle_84 1 rfl (by rw [ev3]; rfl) (by decide) rfl ?_
        refine gj_goto (tgt := 23) X d_Mo_circle_87 (by decide) ?_
        exact gj_loc [1, 0] rfl hC
      · have hC := hC.2 c0
        refine gj_aload_n X d_Mo_circle_39 rfl 0 rfl ?_
        refine gj_get X inX9 0 rfl rfl 14 (by decide) tw_562 rfl rfl d_Mo_circle_40 ?_
        refine gj_aload_n X d_Mo_circle_43 rfl 0 rfl ?_
        refine gj_get X inX9 0 rfl rfl 0 (by decide) tw_548 rfl rfl d_Mo_circle_44 ?_
        refine gj_iload_n X d_Mo_circle_47 rfl 2 rfl ?_
        refine gj_iald X 1 0 rfl rfl hC.1 d_Mo_circle_48 ?_
        have hC := hC.2
        refine gj_aload_n X d_Mo_circle_49 rfl 0 rfl ?_
        refine gj_get X inX9 0 rfl rfl 14 (by decide) tw_562 rfl rfl d_Mo_circle_50 ?_
        refine gj_aload_n X d_Mo_circle_53 rfl 0 rfl ?_
        refine gj_get X inX9 0 rfl rfl 0 (by decide) tw_548 rfl rfl d_Mo_circle_54 ?_
        refine gj_iload_n X d_Mo_circle_57 rfl 2 rfl ?_
        refine gj_iald X 1 0 rfl rfl hC.1 d_Mo_circle_58 ?_
        have hC := hC.2
        refine gj_zald X 10 2 rfl rfl hC.1 d_Mo_circle_59 ?_
        have hC := hC.2
        refine gj_if_ne (tgt := 72) X d_Mo_circle_60 (by decide) (fun c0 => ?_) (fun c0 => ?_)
        · have hC := hC.1 c0
          refine gj_iconst (v := 1) X d_Mo_circle_72 (by decide) ?_
          refine gj_goto (tgt := 77) X d_Mo_circle_73 (by decide) ?_
          refine gj_zast (w' := (wM h cI cL cZ) (gs_A σ 7 (upd (σ.2.1 7) (σ.2.1 0 v_2.toNatClampNeg).toNatClampNeg (vp_nar .boolean (1 : Int32))))) X 10 2 rfl rfl hC.1 (set_wM_A7 h cI cL cZ σ _) d_Mo_circle_77 ?_
          refine gj_topw (wof := (wM h cI cL cZ)) (fun σ4 eσ4 => ?_)
          have hC := hC.2 σ4 eσ4
          obtain ⟨v5, ev5⟩ : ∃ y : Int32, y = v_2 + 1 := ⟨_, rfl⟩
          have hC := hC v5 ev5
          refine gj_iinc (v := v5) (L' := [(2, .int v5), (0, .ref (h 0)), (1, .int v_1)]) X d_Mo_circle_78 2 rfl (by rw [ev5]; rfl) (by decide) rfl ?_
          refine gj_goto (tgt := 31) X d_Mo_circle_81 (by decide) ?_
          exact gj_loc [1, 2, 0] rfl hC
        · have hC := hC.2 c0
          refine gj_aload_n X d_Mo_circle_63 rfl 0 rfl ?_
          refine gj_iload_n X d_Mo_circle_64 rfl 2 rfl ?_
          refine gj_iconst (v := -1) X d_Mo_circle_65 (by decide) ?_
          refine gj_callVI (As := [.int v_2, .int (-1 : Int32)]) (st := [.int (σ.2.1 0 v_2.toNatClampNeg), .ref (h 10)]) X (c_Mo_allEmpty l dC dI h cI cL cZ σ v_2 (-1 : Int32) _ hC) ⟨gj_cwB X tw_693 tw_10 tw_690 hd_Mo_allEmpty rfl rfl ⟨Nat.le_of_ble_eq_true rfl, Nat.le_of_ble_eq_true rfl⟩, X.2.2.2.2.1 _ tw_692, X.2.2.2.2.1 _ ts_21⟩ 0 rfl rfl hA rfl (Nat.le_of_ble_eq_true rfl) ⟨Nat.zero_le _, Nat.zero_le _⟩ d_Mo_circle_66 rfl (fun r7 σ6 hC => ?_)
          obtain ⟨hC, hb⟩ := hC
          refine gj_if_eq (tgt := 76) X d_Mo_circle_69 (by decide) (fun c0 => ?_) (fun c0 => ?_)
          · have hC := hC.1 c0
            refine gj_iconst (v := 0) X d_Mo_circle_76 (by decide) ?_
            refine gj_zast (w' := (wM h cI cL cZ) (gs_A σ6 7 (upd (σ6.2.1 7) (σ.2.1 0 v_2.toNatClampNeg).toNatClampNeg (vp_nar .boolean (0 : Int32))))) X 10 2 rfl rfl hC.1 (set_wM_A7 h cI cL cZ σ6 _) d_Mo_circle_77 ?_
            refine gj_topw (wof := (wM h cI cL cZ)) (fun σ8 eσ8 => ?_)
            have hC := hC.2 σ8 eσ8
            obtain ⟨v9, ev9⟩ : ∃ y : Int32, y = v_2 + 1 := ⟨_, rfl⟩
            have hC := hC v9 ev9
            refine gj_iinc (v := v9) (L' := [(2, .int v9), (0, .ref (h 0)), (1, .int v_1)]) X d_Mo_circle_78 2 rfl (by rw [ev9]; rfl) (by decide) rfl ?_
            refine gj_goto (tgt := 31) X d_Mo_circle_81 (by decide) ?_
            exact gj_loc [1, 2, 0] rfl hC
          · have hC := hC.2 c0
            refine gj_iconst (v := 1) X d_Mo_circle_72 (by decide) ?_
            refine gj_goto (tgt := 77) X d_Mo_circle_73 (by decide) ?_
            refine gj_zast (w' := (wM h cI cL cZ) (gs_A σ6 7 (upd (σ6.2.1 7) (σ.2.1 0 v_2.toNatClampNeg).toNatClampNeg (vp_nar .boolean (1 : Int32))))) X 10 2 rfl rfl hC.1 (set_wM_A7 h cI cL cZ σ6 _) d_Mo_circle_77 ?_
            refine gj_topw (wof := (wM h cI cL cZ)) (fun σ10 eσ10 => ?_)
            have hC := hC.2 σ10 eσ10
            obtain ⟨v11, ev11⟩ : ∃ y : Int32, y = v_2 + 1 := ⟨_, rfl⟩
            have hC := hC v11 ev11
            refine gj_iinc (v := v11) (L' := [(2, .int v11), (0, .ref (h 0)), (1, .int v_1)]) X d_Mo_circle_78 2 rfl (by rw [ev11]; rfl) (by decide) rfl ?_
            refine gj_goto (tgt := 31) X d_Mo_circle_81 (by decide) ?_
            exact gj_loc [1, 2, 0] rfl hC)
    (by
      intro v_1 σ hC
      refine gj_iload_n X d_Mo_circle_92 rfl 1 rfl ?_
      refine gj_bipush (v := 64) X d_Mo_circle_93 (by decide) ?_
      refine gj_icmp_ge (tgt := 111) X d_Mo_circle_95 (by decide) (fun c0 => ?_) (fun c0 => ?_)
      · have hC := hC.1 c0
        refine gj_iconst (v := 0) X d_Mo_circle_111 (by decide) ?_
        refine gj_istore_n (L' := [(1, .int (0 : Int32)), (0, .ref (h 0))]) X d_Mo_circle_112 rfl (by decide) rfl ?_
        exact gj_loc [1, 0] rfl hC
      · have hC := hC.2 c0
        refine gj_aload_n X d_Mo_circle_98 rfl 0 rfl ?_
        refine gj_get X inX9 0 rfl rfl 15 (by decide) tw_563 rfl rfl d_Mo_circle_99 ?_
        refine gj_iload_n X d_Mo_circle_102 rfl 1 rfl ?_
        refine gj_iconst (v := 0) X d_Mo_circle_103 (by decide) ?_
        refine gj_zast (w' := (wM h cI cL cZ) (gs_A σ 8 (upd (σ.2.1 8) v_1.toNatClampNeg (vp_nar .boolean (0 : Int32))))) X 11 2 rfl rfl hC.1 (set_wM_A8 h cI cL cZ σ _) d_Mo_circle_104 ?_
        refine gj_topw (wof := (wM h cI cL cZ)) (fun σ12 eσ12 => ?_)
        have hC := hC.2 σ12 eσ12
        obtain ⟨v13, ev13⟩ : ∃ y : Int32, y = v_1 + 1 := ⟨_, rfl⟩
        have hC := hC v13 ev13
        refine gj_iinc (v := v13) (L' := [(1, .int v13), (0, .ref (h 0))]) X d_Mo_circle_105 1 rfl (by rw [ev13]; rfl) (by decide) rfl ?_
        refine gj_goto (tgt := 92) X d_Mo_circle_108 (by decide) ?_
        exact gj_loc [1, 0] rfl hC)
    (by
      intro v_1 σ hC
      refine gj_iload_n X d_Mo_circle_113 rfl 1 rfl ?_
      refine gj_aload_n X d_Mo_circle_114 rfl 0 rfl ?_
      refine gj_get X inX9 0 rfl rfl 3 (by decide) tw_551 rfl rfl d_Mo_circle_115 ?_
      refine gj_icmp_ge (tgt := 188) X d_Mo_circle_118 (by decide) (fun c0 => ?_) (fun c0 => ?_)
      · have hC := hC.1 c0
        refine gj_iconst (v := 0) X d_Mo_circle_188 (by decide) ?_
        refine gj_istore_n (L' := [(1, .int (0 : Int32)), (0, .ref (h 0))]) X d_Mo_circle_189 rfl (by decide) rfl ?_
        exact gj_loc [1, 0] rfl hC
      · have hC := hC.2 c0
        refine gj_iconst (v := 0) X d_Mo_circle_121 (by decide) ?_
        refine gj_istore_n (L' := [(2, .int (0 : Int32)), (0, .ref (h 0)), (1, .int v_1)]) X d_Mo_circle_122 rfl (by decide) rfl ?_
        exact gj_loc [1, 2, 0] rfl hC)
    (by
      intro v_1 v_2 σ hC
      refine gj_iload_n X d_Mo_circle_123 rfl 2 rfl ?_
      refine gj_aload_n X d_Mo_circle_124 rfl 0 rfl ?_
      refine gj_get X inX9 0 rfl rfl 1 (by decide) tw_549 rfl rfl d_Mo_circle_125 ?_
      refine gj_iload_n X d_Mo_circle_128 rfl 1 rfl ?_
      refine gj_iald X 2 0 rfl rfl hC.1 d_Mo_circle_129 ?_
      have hC := hC.2
      refine gj_icmp_ge (tgt := 182) X d_Mo_circle_130 (by decide) (fun c0 => ?_) (fun c0 => ?_)
      · have hC := hC.1 c0
        obtain ⟨v14, ev14⟩ : ∃ y : Int32, y = v_1 + 1 := ⟨_, rfl⟩
        have hC := hC v14 ev14
        refine gj_iinc (v := v14) (L' := [(1, .int v14), (0, .ref (h 0)), (2, .int v_2)]) X d_Mo_circle_182 1 rfl (by rw [ev14]; rfl) (by decide) rfl ?_
        refine gj_goto (tgt := 113) X d_Mo_circle_185 (by decide) ?_
        exact gj_loc [1, 0] rfl hC
      · have hC := hC.2 c0
        refine gj_aload_n X d_Mo_circle_133 rfl 0 rfl ?_
        refine gj_iload_n X d_Mo_circle_134 rfl 1 rfl ?_
        refine gj_iload_n X d_Mo_circle_135 rfl 2 rfl ?_
        refine gj_callVI (As := [.int v_1, .int v_2]) (st := []) X (c_Mo_at l dC dI h cI cL cZ σ v_1 v_2 _ hC) ⟨gj_cwB X tw_664 tw_10 tw_661 hd_Mo_at rfl rfl ⟨Nat.le_of_ble_eq_true rfl, Nat.le_of_ble_eq_true rfl⟩, X.2.2.2.2.1 _ tw_663, X.2.2.2.2.1 _ ts_17⟩ 0 rfl rfl hA rfl (Nat.le_of_ble_eq_true rfl) ⟨Nat.zero_le _, Nat.zero_le _⟩ d_Mo_circle_136 rfl (fun r16 σ15 hC => ?_)
        refine gj_callSI (As := [.int r16]) (st := []) X (c_Mo_isNonterminal l dC dI h cI cL cZ σ15 r16 _ hC) ⟨gj_cwB X tw_644 tw_10 tw_642 hd_Mo_isNonterminal rfl rfl ⟨Nat.le_of_ble_eq_true rfl, Nat.le_of_ble_eq_true rfl⟩, X.2.2.2.2.1 _ tw_643⟩ hA rfl (Nat.le_of_ble_eq_true rfl) ⟨Nat.zero_le _, Nat.zero_le _⟩ d_Mo_circle_139 rfl (fun r18 σ17 hC => ?_)
        obtain ⟨hC, hb⟩ := hC
        refine gj_if_eq (tgt := 176) X d_Mo_circle_142 (by decide) (fun c0 => ?_) (fun c0 => ?_)
        · have hC := hC.1 c0
          obtain ⟨v19, ev19⟩ : ∃ y : Int32, y = v_2 + 1 := ⟨_, rfl⟩
          have hC := hC v19 ev19
          refine gj_iinc (v := v19) (L' := [(2, .int v19), (0, .ref (h 0)), (1, .int v_1)]) X d_Mo_circle_176 2 rfl (by rw [ev19]; rfl) (by decide) rfl ?_
          refine gj_goto (tgt := 123) X d_Mo_circle_179 (by decide) ?_
          exact gj_loc [1, 2, 0] rfl hC
        · have hC := hC.2 c0
          refine gj_aload_n X d_Mo_circle_145 rfl 0 rfl ?_
          refine gj_iload_n X d_Mo_circle_146 rfl 1 rfl ?_
          refine gj_iload_n X d_Mo_circle_147 rfl 2 rfl ?_
          refine gj_callVI (As := [.int v_1, .int v_2]) (st := []) X (c_Mo_allEmpty l dC dI h cI cL cZ σ17 v_1 v_2 _ hC) ⟨gj_cwB X tw_693 tw_10 tw_690 hd_Mo_allEmpty rfl rfl ⟨Nat.le_of_ble_eq_true rfl, Nat.le_of_ble_eq_true rfl⟩, X.2.2.2.2.1 _ tw_692, X.2.2.2.2.1 _ ts_21⟩ 0 rfl rfl hA rfl (Nat.le_of_ble_eq_true rfl) ⟨Nat.zero_le _, Nat.zero_le _⟩ d_Mo_circle_148 rfl (fun r21 σ20 hC => ?_)
          obtain ⟨hC, hb⟩ := hC
          refine gj_if_eq (tgt := 176) X d_Mo_circle_151 (by decide) (fun c0 => ?_) (fun c0 => ?_)
          · have hC := hC.1 c0
            obtain ⟨v22, ev22⟩ : ∃ y : Int32, y = v_2 + 1 := ⟨_, rfl⟩
            have hC := hC v22 ev22
            refine gj_iinc (v := v22) (L' := [(2, .int v22), (0, .ref (h 0)), (1, .int v_1)]) X d_Mo_circle_176 2 rfl (by rw [ev22]; rfl) (by decide) rfl ?_
            refine gj_goto (tgt := 123) X d_Mo_circle_179 (by decide) ?_
            exact gj_loc [1, 2, 0] rfl hC
          · have hC := hC.2 c0
            refine gj_aload_n X d_Mo_circle_154 rfl 0 rfl ?_
            refine gj_get X inX9 0 rfl rfl 15 (by decide) tw_563 rfl rfl d_Mo_circle_155 ?_
            refine gj_bipush (v := 8) X d_Mo_circle_158 (by decide) ?_
            refine gj_aload_n X d_Mo_circle_160 rfl 0 rfl ?_
            refine gj_get X inX9 0 rfl rfl 0 (by decide) tw_548 rfl rfl d_Mo_circle_161 ?_
            refine gj_iload_n X d_Mo_circle_164 rfl 1 rfl ?_
            refine gj_iald X 1 0 rfl rfl hC.1 d_Mo_circle_165 ?_
            have hC := hC.2
            refine gj_imul X d_Mo_circle_166 ?_
            refine gj_aload_n X d_Mo_circle_167 rfl 0 rfl ?_
            refine gj_iload_n X d_Mo_circle_168 rfl 1 rfl ?_
            refine gj_iload_n X d_Mo_circle_169 rfl 2 rfl ?_
            refine gj_callVI (As := [.int v_1, .int v_2]) (st := [.int ((8 : Int32) * (σ20.2.1 0 v_1.toNatClampNeg)), .ref (h 11)]) X (c_Mo_at l dC dI h cI cL cZ σ20 v_1 v_2 _ hC) ⟨gj_cwB X tw_664 tw_10 tw_661 hd_Mo_at rfl rfl ⟨Nat.le_of_ble_eq_true rfl, Nat.le_of_ble_eq_true rfl⟩, X.2.2.2.2.1 _ tw_663, X.2.2.2.2.1 _ ts_17⟩ 0 rfl rfl hA rfl (Nat.le_of_ble_eq_true rfl) ⟨Nat.zero_le _, Nat.zero_le _⟩ d_Mo_circle_170 rfl (fun r24 σ23 hC => ?_)
            refine gj_iadd X d_Mo_circle_173 ?_
            refine gj_iconst (v := 1) X d_Mo_circle_174 (by decide) ?_
            refine gj_zast (w' := (wM h cI cL cZ) (gs_A σ23 8 (upd (σ23.2.1 8) (((8 : Int32) * (σ20.2.1 0 v_1.toNatClampNeg)) + r24).toNatClampNeg (vp_nar .boolean (1 : Int32))))) X 11 2 rfl rfl hC.1 (set_wM_A8 h cI cL cZ σ23 _) d_Mo_circle_175 ?_
            refine gj_topw (wof := (wM h cI cL cZ)) (fun σ25 eσ25 => ?_)
            have hC := hC.2 σ25 eσ25
            obtain ⟨v26, ev26⟩ : ∃ y : Int32, y = v_2 + 1 := ⟨_, rfl⟩
            have hC := hC v26 ev26
            refine gj_iinc (v := v26) (L' := [(2, .int v26), (0, .ref (h 0)), (1, .int v_1)]) X d_Mo_circle_176 2 rfl (by rw [ev26]; rfl) (by decide) rfl ?_
            refine gj_goto (tgt := 123) X d_Mo_circle_179 (by decide) ?_
            exact gj_loc [1, 2, 0] rfl hC)
    (by
      intro v_1 σ hC
      refine gj_iload_n X d_Mo_circle_190 rfl 1 rfl ?_
      refine gj_bipush (v := 8) X d_Mo_circle_191 (by decide) ?_
      refine gj_icmp_ge (tgt := 270) X d_Mo_circle_193 (by decide) (fun c0 => ?_) (fun c0 => ?_)
      · have hC := hC.1 c0
        refine gj_iconst (v := 0) X d_Mo_circle_270 (by decide) ?_
        refine gj_istore_n (L' := [(1, .int (0 : Int32)), (0, .ref (h 0))]) X d_Mo_circle_271 rfl (by decide) rfl ?_
        refine gj_iconst (v := 0) X d_Mo_circle_272 (by decide) ?_
        refine gj_istore_n (L' := [(2, .int (0 : Int32)), (1, .int (0 : Int32)), (0, .ref (h 0))]) X d_Mo_circle_273 rfl (by decide) rfl ?_
        exact gj_loc [2, 1, 0] rfl hC
      · have hC := hC.2 c0
        refine gj_iconst (v := 0) X d_Mo_circle_196 (by decide) ?_
        refine gj_istore_n (L' := [(2, .int (0 : Int32)), (0, .ref (h 0)), (1, .int v_1)]) X d_Mo_circle_197 rfl (by decide) rfl ?_
        exact gj_loc [1, 2, 0] rfl hC)
    (by
      intro v_1 v_2 σ hC
      refine gj_iload_n X d_Mo_circle_198 rfl 2 rfl ?_
      refine gj_bipush (v := 64) X d_Mo_circle_199 (by decide) ?_
      refine gj_icmp_ge (tgt := 264) X d_Mo_circle_201 (by decide) (fun c0 => ?_) (fun c0 => ?_)
      · have hC := hC.1 c0
        obtain ⟨v27, ev27⟩ : ∃ y : Int32, y = v_1 + 1 := ⟨_, rfl⟩
        have hC := hC v27 ev27
        refine gj_iinc (v := v27) (L' := [(1, .int v27), (0, .ref (h 0)), (2, .int v_2)]) X d_Mo_circle_264 1 rfl (by rw [ev27]; rfl) (by decide) rfl ?_
        refine gj_goto (tgt := 190) X d_Mo_circle_267 (by decide) ?_
        exact gj_loc [1, 0] rfl hC
      · have hC := hC.2 c0
        refine gj_aload_n X d_Mo_circle_204 rfl 0 rfl ?_
        refine gj_get X inX9 0 rfl rfl 15 (by decide) tw_563 rfl rfl d_Mo_circle_205 ?_
        refine gj_iload_n X d_Mo_circle_208 rfl 2 rfl ?_
        refine gj_aload_n X d_Mo_circle_209 rfl 0 rfl ?_
        refine gj_get X inX9 0 rfl rfl 15 (by decide) tw_563 rfl rfl d_Mo_circle_210 ?_
        refine gj_iload_n X d_Mo_circle_213 rfl 2 rfl ?_
        refine gj_zald X 11 2 rfl rfl hC.1 d_Mo_circle_214 ?_
        have hC := hC.2
        refine gj_if_ne (tgt := 252) X d_Mo_circle_215 (by decide) (fun c0 => ?_) (fun c0 => ?_)
        · have hC := hC.1 c0
          refine gj_iconst (v := 1) X d_Mo_circle_252 (by decide) ?_
          refine gj_goto (tgt := 257) X d_Mo_circle_253 (by decide) ?_
          refine gj_zast (w' := (wM h cI cL cZ) (gs_A σ 8 (upd (σ.2.1 8) v_2.toNatClampNeg (vp_nar .boolean (1 : Int32))))) X 11 2 rfl rfl hC.1 (set_wM_A8 h cI cL cZ σ _) d_Mo_circle_257 ?_
          refine gj_topw (wof := (wM h cI cL cZ)) (fun σ28 eσ28 => ?_)
          have hC := hC.2 σ28 eσ28
          obtain ⟨v29, ev29⟩ : ∃ y : Int32, y = v_2 + 1 := ⟨_, rfl⟩
          have hC := hC v29 ev29
          refine gj_iinc (v := v29) (L' := [(2, .int v29), (0, .ref (h 0)), (1, .int v_1)]) X d_Mo_circle_258 2 rfl (by rw [ev29]; rfl) (by decide) rfl ?_
          refine gj_goto (tgt := 198) X d_Mo_circle_261 (by decide) ?_
          exact gj_loc [1, 2, 0] rfl hC
        · have hC := hC.2 c0
          refine gj_aload_n X d_Mo_circle_218 rfl 0 rfl ?_
          refine gj_get X inX9 0 rfl rfl 15 (by decide) tw_563 rfl rfl d_Mo_circle_219 ?_
          refine gj_iload_n X d_Mo_circle_222 rfl 2 rfl ?_
          refine gj_bipush (v := 8) X d_Mo_circle_223 (by decide) ?_
          refine gj_idiv X d_Mo_circle_225 hC.1 ?_
          have hC := hC.2
          refine gj_bipush (v := 8) X d_Mo_circle_226 (by decide) ?_
          refine gj_imul X d_Mo_circle_228 ?_
          refine gj_iload_n X d_Mo_circle_229 rfl 1 rfl ?_
          refine gj_iadd X d_Mo_circle_230 ?_
          refine gj_zald X 11 2 rfl rfl hC.1 d_Mo_circle_231 ?_
          have hC := hC.2
          refine gj_if_eq (tgt := 256) X d_Mo_circle_232 (by decide) (fun c0 => ?_) (fun c0 => ?_)
          · have hC := hC.1 c0
            refine gj_iconst (v := 0) X d_Mo_circle_256 (by decide) ?_
            refine gj_zast (w' := (wM h cI cL cZ) (gs_A σ 8 (upd (σ.2.1 8) v_2.toNatClampNeg (vp_nar .boolean (0 : Int32))))) X 11 2 rfl rfl hC.1 (set_wM_A8 h cI cL cZ σ _) d_Mo_circle_257 ?_
            refine gj_topw (wof := (wM h cI cL cZ)) (fun σ30 eσ30 => ?_)
            have hC := hC.2 σ30 eσ30
            obtain ⟨v31, ev31⟩ : ∃ y : Int32, y = v_2 + 1 := ⟨_, rfl⟩
            have hC := hC v31 ev31
            refine gj_iinc (v := v31) (L' := [(2, .int v31), (0, .ref (h 0)), (1, .int v_1)]) X d_Mo_circle_258 2 rfl (by rw [ev31]; rfl) (by decide) rfl ?_
            refine gj_goto (tgt := 198) X d_Mo_circle_261 (by decide) ?_
            exact gj_loc [1, 2, 0] rfl hC
          · have hC := hC.2 c0
            refine gj_aload_n X d_Mo_circle_235 rfl 0 rfl ?_
            refine gj_get X inX9 0 rfl rfl 15 (by decide) tw_563 rfl rfl d_Mo_circle_236 ?_
            refine gj_bipush (v := 8) X d_Mo_circle_239 (by decide) ?_
            refine gj_iload_n X d_Mo_circle_241 rfl 1 rfl ?_
            refine gj_imul X d_Mo_circle_242 ?_
            refine gj_iload_n X d_Mo_circle_243 rfl 2 rfl ?_
            refine gj_bipush (v := 8) X d_Mo_circle_244 (by decide) ?_
            refine gj_irem X d_Mo_circle_246 hC.1 ?_
            have hC := hC.2
            refine gj_iadd X d_Mo_circle_247 ?_
            refine gj_zald X 11 2 rfl rfl hC.1 d_Mo_circle_248 ?_
            have hC := hC.2
            refine gj_if_eq (tgt := 256) X d_Mo_circle_249 (by decide) (fun c0 => ?_) (fun c0 => ?_)
            · have hC := hC.1 c0
              refine gj_iconst (v := 0) X d_Mo_circle_256 (by decide) ?_
              refine gj_zast (w' := (wM h cI cL cZ) (gs_A σ 8 (upd (σ.2.1 8) v_2.toNatClampNeg (vp_nar .boolean (0 : Int32))))) X 11 2 rfl rfl hC.1 (set_wM_A8 h cI cL cZ σ _) d_Mo_circle_257 ?_
              refine gj_topw (wof := (wM h cI cL cZ)) (fun σ32 eσ32 => ?_)
              have hC := hC.2 σ32 eσ32
              obtain ⟨v33, ev33⟩ : ∃ y : Int32, y = v_2 + 1 := ⟨_, rfl⟩
              have hC := hC v33 ev33
              refine gj_iinc (v := v33) (L' := [(2, .int v33), (0, .ref (h 0)), (1, .int v_1)]) X d_Mo_circle_258 2 rfl (by rw [ev33]; rfl) (by decide) rfl ?_
              refine gj_goto (tgt := 198) X d_Mo_circle_261 (by decide) ?_
              exact gj_loc [1, 2, 0] rfl hC
            · have hC := hC.2 c0
              refine gj_iconst (v := 1) X d_Mo_circle_252 (by decide) ?_
              refine gj_goto (tgt := 257) X d_Mo_circle_253 (by decide) ?_
              refine gj_zast (w' := (wM h cI cL cZ) (gs_A σ 8 (upd (σ.2.1 8) v_2.toNatClampNeg (vp_nar .boolean (1 : Int32))))) X 11 2 rfl rfl hC.1 (set_wM_A8 h cI cL cZ σ _) d_Mo_circle_257 ?_
              refine gj_topw (wof := (wM h cI cL cZ)) (fun σ34 eσ34 => ?_)
              have hC := hC.2 σ34 eσ34
              obtain ⟨v35, ev35⟩ : ∃ y : Int32, y = v_2 + 1 := ⟨_, rfl⟩
              have hC := hC v35 ev35
              refine gj_iinc (v := v35) (L' := [(2, .int v35), (0, .ref (h 0)), (1, .int v_1)]) X d_Mo_circle_258 2 rfl (by rw [ev35]; rfl) (by decide) rfl ?_
              refine gj_goto (tgt := 198) X d_Mo_circle_261 (by decide) ?_
              exact gj_loc [1, 2, 0] rfl hC)
    (by
      intro v_1 v_2 σ hC
      refine gj_iload_n X d_Mo_circle_274 rfl 2 rfl ?_
      refine gj_bipush (v := 8) X d_Mo_circle_275 (by decide) ?_
      refine gj_icmp_ge (tgt := 308) X d_Mo_circle_277 (by decide) (fun c0 => ?_) (fun c0 => ?_)
      · have hC := hC.1 c0
        refine gj_iload_n X d_Mo_circle_308 rfl 1 rfl ?_
        exact gj_zret X hr hlk (gj_nz hC.1) ⟨hC.2, hC.1⟩ d_Mo_circle_309
      · have hC := hC.2 c0
        refine gj_iload_n X d_Mo_circle_280 rfl 1 rfl ?_
        refine gj_if_ne (tgt := 296) X d_Mo_circle_281 (by decide) (fun c0 => ?_) (fun c0 => ?_)
        · have hC := hC.1 c0
          refine gj_iconst (v := 1) X d_Mo_circle_296 (by decide) ?_
          refine gj_goto (tgt := 301) X d_Mo_circle_297 (by decide) ?_
          refine gj_istore_n (L' := [(1, .int (1 : Int32)), (0, .ref (h 0)), (2, .int v_2)]) X d_Mo_circle_301 rfl (by decide) rfl ?_
          obtain ⟨v36, ev36⟩ : ∃ y : Int32, y = v_2 + 1 := ⟨_, rfl⟩
          have hC := hC v36 ev36
          refine gj_iinc (v := v36) (L' := [(2, .int v36), (1, .int (1 : Int32)), (0, .ref (h 0))]) X d_Mo_circle_302 2 rfl (by rw [ev36]; rfl) (by decide) rfl ?_
          refine gj_goto (tgt := 274) X d_Mo_circle_305 (by decide) ?_
          exact gj_loc [2, 1, 0] rfl hC
        · have hC := hC.2 c0
          refine gj_aload_n X d_Mo_circle_284 rfl 0 rfl ?_
          refine gj_get X inX9 0 rfl rfl 15 (by decide) tw_563 rfl rfl d_Mo_circle_285 ?_
          refine gj_bipush (v := 9) X d_Mo_circle_288 (by decide) ?_
          refine gj_iload_n X d_Mo_circle_290 rfl 2 rfl ?_
          refine gj_imul X d_Mo_circle_291 ?_
          refine gj_zald X 11 2 rfl rfl hC.1 d_Mo_circle_292 ?_
          have hC := hC.2
          refine gj_if_eq (tgt := 300) X d_Mo_circle_293 (by decide) (fun c0 => ?_) (fun c0 => ?_)
          · have hC := hC.1 c0
            refine gj_iconst (v := 0) X d_Mo_circle_300 (by decide) ?_
            refine gj_istore_n (L' := [(1, .int (0 : Int32)), (0, .ref (h 0)), (2, .int v_2)]) X d_Mo_circle_301 rfl (by decide) rfl ?_
            obtain ⟨v37, ev37⟩ : ∃ y : Int32, y = v_2 + 1 := ⟨_, rfl⟩
            have hC := hC v37 ev37
            refine gj_iinc (v := v37) (L' := [(2, .int v37), (1, .int (0 : Int32)), (0, .ref (h 0))]) X d_Mo_circle_302 2 rfl (by rw [ev37]; rfl) (by decide) rfl ?_
            refine gj_goto (tgt := 274) X d_Mo_circle_305 (by decide) ?_
            exact gj_loc [2, 1, 0] rfl hC
          · have hC := hC.2 c0
            refine gj_iconst (v := 1) X d_Mo_circle_296 (by decide) ?_
            refine gj_goto (tgt := 301) X d_Mo_circle_297 (by decide) ?_
            refine gj_istore_n (L' := [(1, .int (1 : Int32)), (0, .ref (h 0)), (2, .int v_2)]) X d_Mo_circle_301 rfl (by decide) rfl ?_
            obtain ⟨v38, ev38⟩ : ∃ y : Int32, y = v_2 + 1 := ⟨_, rfl⟩
            have hC := hC v38 ev38
            refine gj_iinc (v := v38) (L' := [(2, .int v38), (1, .int (1 : Int32)), (0, .ref (h 0))]) X d_Mo_circle_302 2 rfl (by rw [ev38]; rfl) (by decide) rfl ?_
            refine gj_goto (tgt := 274) X d_Mo_circle_305 (by decide) ?_
            exact gj_loc [2, 1, 0] rfl hC)
  refine gj_iconst (v := 0) X d_Mo_circle_0 (by decide) ?_
  refine gj_istore_n (L' := [(1, .int (0 : Int32)), (0, .ref (h 0))]) X d_Mo_circle_1 rfl (by decide) rfl ?_
  exact gj_loc [1, 0] rfl hC
