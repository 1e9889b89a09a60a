abbrev rm_Mo_symbol : Room := { frames := 0, cells := 0, slots := 0, locals := 0 }
set_option maxHeartbeats 4000000 in
set_option maxRecDepth 100000 in
theorem c_Mo_symbol (l : Launch) (dC : Nat → ClassId) (dI : Nat → Nat → Nat) (h : Nat → Nat) (cI cL cZ : ClassId) (σ : gs_St) (a0 : Int32) (K : Int32 → gs_St → Prop) (hC : C_Mo_symbol a0 σ K) : gj_MI l y_Mo_symbol (gj_ws y_Mo_symbol b_Mo_symbol 2 (some .int)) rm_Mo_symbol (dC, dI) gs_C (gs_T cI cL cZ) ((wM h cI cL cZ) σ) (wM h cI cL cZ) [.ref (h 0), .int a0] K := by
  refine gj_enterI (by decide) (Nat.le_of_ble_eq_true rfl) (fun p e s m args below meth c A X hr hlk hA hnm => ?_)
  change gj_J p l e rm_Mo_symbol s m args below meth c 0 0 (MQ below (va_Qi K (gj_at (dC, dI) gs_C (gs_T cI cL cZ) (wM h cI cL cZ) A) A) args s 0 0 A) (dC, dI) gs_C A 2 0 [(0, .ref (h 0)), (1, .int a0)] [] ((wM h cI cL cZ) σ)
  refine gj_iload_n X d_Mo_symbol_0 rfl 1 rfl ?_
  refine gj_if_lt (tgt := 19) X d_Mo_symbol_1 (by decide) (fun c0 => ?_) (fun c0 => ?_)
  · have hC := hC.1 c0
    refine gj_iconst (v := -1) X d_Mo_symbol_19 (by decide) ?_
    exact gj_iret X hr hlk hC d_Mo_symbol_20
  · have hC := hC.2 c0
    refine gj_iload_n X d_Mo_symbol_4 rfl 1 rfl ?_
    refine gj_bipush (v := 24) X d_Mo_symbol_5 (by decide) ?_
    refine gj_icmp_ge (tgt := 19) X d_Mo_symbol_7 (by decide) (fun c0 => ?_) (fun c0 => ?_)
    · have hC := hC.1 c0
      refine gj_iconst (v := -1) X d_Mo_symbol_19 (by decide) ?_
      exact gj_iret X hr hlk hC d_Mo_symbol_20
    · have hC := hC.2 c0
      refine gj_aload_n X d_Mo_symbol_10 rfl 0 rfl ?_
      refine gj_get X inX9 0 rfl rfl 5 (by decide) tw_553 rfl rfl d_Mo_symbol_11 ?_
      refine gj_bipush (v := 6) X d_Mo_symbol_14 (by decide) ?_
      refine gj_icmp_ne (tgt := 21) X d_Mo_symbol_16 (by decide) (fun c0 => ?_) (fun c0 => ?_)
      · have hC := hC.1 c0
        refine gj_aload_n X d_Mo_symbol_21 rfl 0 rfl ?_
        refine gj_get X inX9 0 rfl rfl 4 (by decide) tw_552 rfl rfl d_Mo_symbol_22 ?_
        refine gj_aload_n X d_Mo_symbol_25 rfl 0 rfl ?_
        refine gj_get X inX9 0 rfl rfl 5 (by decide) tw_553 rfl rfl d_Mo_symbol_26 ?_
        refine gj_iload_n X d_Mo_symbol_29 rfl 1 rfl ?_
        refine gj_iast (w' := (wM h cI cL cZ) (gs_A σ 3 (upd (σ.2.1 3) (σ.1 1).toNatClampNeg a0))) X 4 0 rfl rfl hC.1 (set_wM_A3 h cI cL cZ σ _) d_Mo_symbol_30 ?_
        refine gj_topw (wof := (wM h cI cL cZ)) (fun σ1 eσ1 => ?_)
        have hC := hC.2 σ1 eσ1
        refine gj_aload_n X d_Mo_symbol_31 rfl 0 rfl ?_
        refine gj_dup X d_Mo_symbol_32 rfl ?_
        refine gj_get X inX9 0 rfl rfl 5 (by decide) tw_553 rfl rfl d_Mo_symbol_33 ?_
        refine gj_iconst (v := 1) X d_Mo_symbol_36 (by decide) ?_
        refine gj_iadd X d_Mo_symbol_37 ?_
        refine gj_put (w' := (wM h cI cL cZ) (gs_I σ1 1 ((σ1.1 1) + (1 : Int32)))) X inX9 tyX9 tyX9_ok nmX9 0 rfl rfl 5 (by decide) tw_553 rfl rfl (tyX9_ok 5 (by decide)) rfl rfl (Nat.le_of_ble_eq_true rfl) (set_wM_I1 h cI cL cZ σ1 _) d_Mo_symbol_38 ?_
        refine gj_topw (wof := (wM h cI cL cZ)) (fun σ2 eσ2 => ?_)
        have hC := hC σ2 eσ2
        refine gj_aload_n X d_Mo_symbol_41 rfl 0 rfl ?_
        refine gj_get X inX9 0 rfl rfl 5 (by decide) tw_553 rfl rfl d_Mo_symbol_42 ?_
        exact gj_iret X hr hlk hC d_Mo_symbol_45
      · have hC := hC.2 c0
        refine gj_iconst (v := -1) X d_Mo_symbol_19 (by decide) ?_
        exact gj_iret X hr hlk hC d_Mo_symbol_20
abbrev rm_Mo_isNonterminal : Room := { frames := 0, cells := 0, slots := 0, locals := 0 }
set_option maxHeartbeats 4000000 in
set_option maxRecDepth 100000 in
theorem c_Mo_isNonterminal (l : Launch) (dC : Nat → ClassId) (dI : Nat → Nat → Nat) (h : Nat → Nat) (cI cL cZ : ClassId) (σ : gs_St) (a0 : Int32) (K : Int32 → gs_St → Prop) (hC : C_Mo_isNonterminal a0 σ K) : gj_MI l y_Mo_isNonterminal (gj_ws y_Mo_isNonterminal b_Mo_isNonterminal 1 (some .boolean)) rm_Mo_isNonterminal (dC, dI) gs_C (gs_T cI cL cZ) ((wM h cI cL cZ) σ) (wM h cI cL cZ) [.int a0] (fun r u => K r u ∧ (r = 0 ∨ r = 1)) := by
  refine gj_enterZ (by decide) (Nat.le_of_ble_eq_true rfl) (fun p e s m args below meth c A X hr hlk hA hnm => ?_)
  change gj_J p l e rm_Mo_isNonterminal s m args below meth c 0 0 (MQ below (va_Qi (fun r u => K r u ∧ (r = 0 ∨ r = 1)) (gj_at (dC, dI) gs_C (gs_T cI cL cZ) (wM h cI cL cZ) A) A) args s 0 0 A) (dC, dI) gs_C A 1 0 [(0, .int a0)] [] ((wM h cI cL cZ) σ)
  refine gj_iload_n X d_Mo_isNonterminal_0 rfl 0 rfl ?_
  refine gj_if_lt (tgt := 14) X d_Mo_isNonterminal_1 (by decide) (fun c0 => ?_) (fun c0 => ?_)
  · have hC := hC.1 c0
    refine gj_iconst (v := 0) X d_Mo_isNonterminal_14 (by decide) ?_
    exact gj_zret X hr hlk (by decide) ⟨hC, Or.inl rfl⟩ d_Mo_isNonterminal_15
  · have hC := hC.2 c0
    refine gj_iload_n X d_Mo_isNonterminal_4 rfl 0 rfl ?_
    refine gj_bipush (v := 8) X d_Mo_isNonterminal_5 (by decide) ?_
    refine gj_icmp_ge (tgt := 14) X d_Mo_isNonterminal_7 (by decide) (fun c0 => ?_) (fun c0 => ?_)
    · have hC := hC.1 c0
      refine gj_iconst (v := 0) X d_Mo_isNonterminal_14 (by decide) ?_
      exact gj_zret X hr hlk (by decide) ⟨hC, Or.inl rfl⟩ d_Mo_isNonterminal_15
    · have hC := hC.2 c0
      refine gj_iconst (v := 1) X d_Mo_isNonterminal_10 (by decide) ?_
      refine gj_goto (tgt := 15) X d_Mo_isNonterminal_11 (by decide) ?_
      exact gj_zret X hr hlk (by decide) ⟨hC, Or.inr rfl⟩ d_Mo_isNonterminal_15
abbrev rm_Mo_rule : Room := { frames := 1, cells := 0, slots := 0, locals := 20 }
set_option maxHeartbeats 4000000 in
set_option maxRecDepth 100000 in
theorem c_Mo_rule (l : Launch) (dC : Nat → ClassId) (dI : Nat → Nat → Nat) (h : Nat → Nat) (cI cL cZ : ClassId) (σ : gs_St) (a0 : Int32) (K : Int32 → gs_St → Prop) (hC : C_Mo_rule a0 σ K) : gj_MI l y_Mo_rule (gj_ws y_Mo_rule b_Mo_rule 4 (some .int)) rm_Mo_rule (dC, dI) gs_C (gs_T cI cL cZ) ((wM h cI cL cZ) σ) (wM h cI cL cZ) [.ref (h 0), .int a0] K := by
  refine gj_enterI (by decide) (Nat.le_of_ble_eq_true rfl) (fun p e s m args below meth c A X hr hlk hA hnm => ?_)
  change gj_J p l e rm_Mo_rule s m args below meth c 0 0 (MQ below (va_Qi K (gj_at (dC, dI) gs_C (gs_T cI cL cZ) (wM h cI cL cZ) A) A) args s 0 0 A) (dC, dI) gs_C A 4 0 [(0, .ref (h 0)), (1, .int a0)] [] ((wM h cI cL cZ) σ)
  have hC := hC
    (fun (v_2 : Int32) (v_3 : Int32) (σ : gs_St) => gj_J p l e rm_Mo_rule s m args below meth c 0 0 (MQ below (va_Qi K (gj_at (dC, dI) gs_C (gs_T cI cL cZ) (wM h cI cL cZ) A) A) args s 0 0 A) (dC, dI) gs_C A 4 50 [(0, .ref (h 0)), (2, .int v_2), (3, .int v_3)] [] ((wM h cI cL cZ) σ))
    (by
      intro v_2 v_3 σ hC
      refine gj_iload_n X d_Mo_rule_50 rfl 2 rfl ?_
      refine gj_iload_n X d_Mo_rule_51 rfl 1 rfl ?_
      refine gj_icmp_ge (tgt := 81) X d_Mo_rule_52 (by decide) (fun c0 => ?_) (fun c0 => ?_)
      · have hC := hC.1 c0
        refine gj_aload_n X d_Mo_rule_81 rfl 0 rfl ?_
        refine gj_dup X d_Mo_rule_82 rfl ?_
        refine gj_get X inX9 0 rfl rfl 3 (by decide) tw_551 rfl rfl d_Mo_rule_83 ?_
        refine gj_iconst (v := 1) X d_Mo_rule_86 (by decide) ?_
        refine gj_iadd X d_Mo_rule_87 ?_
        refine gj_put (w' := (wM h cI cL cZ) (gs_I σ 0 ((σ.1 0) + (1 : Int32)))) X inX9 tyX9 tyX9_ok nmX9 0 rfl rfl 3 (by decide) tw_551 rfl rfl (tyX9_ok 3 (by decide)) rfl rfl (Nat.le_of_ble_eq_true rfl) (set_wM_I0 h cI cL cZ σ _) d_Mo_rule_88 ?_
        refine gj_topw (wof := (wM h cI cL cZ)) (fun σ7 eσ7 => ?_)
        have hC := hC σ7 eσ7
        refine gj_aload_n X d_Mo_rule_91 rfl 0 rfl ?_
        refine gj_iconst (v := 0) X d_Mo_rule_92 (by decide) ?_
        refine gj_put (w' := (wM h cI cL cZ) (gs_I σ7 5 (0 : Int32))) X inX9 tyX9 tyX9_ok nmX9 0 rfl rfl 17 (by decide) tw_565 rfl rfl (tyX9_ok 17 (by decide)) rfl rfl (Nat.le_of_ble_eq_true rfl) (set_wM_I5 h cI cL cZ σ7 _) d_Mo_rule_93 ?_
        refine gj_topw (wof := (wM h cI cL cZ)) (fun σ8 eσ8 => ?_)
        have hC := hC σ8 eσ8
        refine gj_aload_n X d_Mo_rule_96 rfl 0 rfl ?_
        refine gj_get X inX9 0 rfl rfl 3 (by decide) tw_551 rfl rfl d_Mo_rule_97 ?_
        refine gj_iconst (v := 1) X d_Mo_rule_100 (by decide) ?_
        refine gj_isub X d_Mo_rule_101 ?_
        exact gj_iret X hr hlk hC d_Mo_rule_102
      · have hC := hC.2 c0
        refine gj_aload_n X d_Mo_rule_55 rfl 0 rfl ?_
        refine gj_get X inX9 0 rfl rfl 2 (by decide) tw_550 rfl rfl d_Mo_rule_56 ?_
        refine gj_bipush (v := 6) X d_Mo_rule_59 (by decide) ?_
        refine gj_aload_n X d_Mo_rule_61 rfl 0 rfl ?_
        refine gj_get X inX9 0 rfl rfl 3 (by decide) tw_551 rfl rfl d_Mo_rule_62 ?_
        refine gj_imul X d_Mo_rule_65 ?_
        refine gj_iload_n X d_Mo_rule_66 rfl 2 rfl ?_
        refine gj_iadd X d_Mo_rule_67 ?_
        refine gj_aload_n X d_Mo_rule_68 rfl 0 rfl ?_
        refine gj_get X inX9 0 rfl rfl 4 (by decide) tw_552 rfl rfl d_Mo_rule_69 ?_
        refine gj_iload_n X d_Mo_rule_72 rfl 2 rfl ?_
        refine gj_iald X 4 0 rfl rfl hC.1 d_Mo_rule_73 ?_
        have hC := hC.2
        refine gj_iast (w' := (wM h cI cL cZ) (gs_A σ 2 (upd (σ.2.1 2) (((6 : Int32) * (σ.1 0)) + v_3).toNatClampNeg (σ.2.1 3 v_3.toNatClampNeg)))) X 3 0 rfl rfl hC.1 (set_wM_A2 h cI cL cZ σ _) d_Mo_rule_74 ?_
        refine gj_topw (wof := (wM h cI cL cZ)) (fun σ9 eσ9 => ?_)
        have hC := hC.2 σ9 eσ9
        obtain ⟨v10, ev10⟩ : ∃ y : Int32, y = v_3 + 1 := ⟨_, rfl⟩
        have hC := hC v10 ev10
        refine gj_iinc (v := v10) (L' := [(3, .int v10), (0, .ref (h 0)), (2, .int v_2)]) X d_Mo_rule_75 2 rfl (by rw [ev10]; rfl) (by decide) rfl ?_
        refine gj_goto (tgt := 50) X d_Mo_rule_78 (by decide) ?_
        exact gj_loc [1, 2, 0] rfl hC)
  refine gj_aload_n X d_Mo_rule_0 rfl 0 rfl ?_
  refine gj_get X inX9 0 rfl rfl 5 (by decide) tw_553 rfl rfl d_Mo_rule_1 ?_
  refine gj_topi (fun v1 ev1 => ?_)
  have hC := hC v1 ev1
  refine gj_istore_n (L' := [(2, .int v1), (0, .ref (h 0)), (1, .int a0)]) X d_Mo_rule_4 rfl (by decide) rfl ?_
  refine gj_aload_n X d_Mo_rule_5 rfl 1 rfl ?_
  refine gj_iconst (v := 0) X d_Mo_rule_6 (by decide) ?_
  refine gj_put (w' := (wM h cI cL cZ) (gs_I σ 1 (0 : Int32))) X inX9 tyX9 tyX9_ok nmX9 0 rfl rfl 5 (by decide) tw_553 rfl rfl (tyX9_ok 5 (by decide)) rfl rfl (Nat.le_of_ble_eq_true rfl) (set_wM_I1 h cI cL cZ σ _) d_Mo_rule_7 ?_
  refine gj_topw (wof := (wM h cI cL cZ)) (fun σ2 eσ2 => ?_)
  have hC := hC σ2 eσ2
  refine gj_aload_n X d_Mo_rule_10 rfl 1 rfl ?_
  refine gj_get X inX9 0 rfl rfl 3 (by decide) tw_551 rfl rfl d_Mo_rule_11 ?_
  refine gj_bipush (v := 24) X d_Mo_rule_14 (by decide) ?_
  refine gj_icmp_eq (tgt := 26) X d_Mo_rule_16 (by decide) (fun c0 => ?_) (fun c0 => ?_)
  · have hC := hC.1 c0
    refine gj_iconst (v := -1) X d_Mo_rule_26 (by decide) ?_
    exact gj_iret X hr hlk hC d_Mo_rule_27
  · have hC := hC.2 c0
    refine gj_iload_n X d_Mo_rule_19 rfl 2 rfl ?_
    refine gj_callSI (As := [.int a0]) (st := []) X (c_Mo_isNonterminal l dC dI h cI cL cZ σ2 a0 _ hC) ⟨gj_cwB X tw_644 tw_10 tw_642 hd_Mo_isNonterminal rfl rfl ⟨Nat.le_of_ble_eq_true rfl, Nat.le_of_ble_eq_true rfl⟩, X.2.2.2.2.1 _ tw_643⟩ hA rfl (Nat.le_of_ble_eq_true rfl) ⟨Nat.zero_le _, Nat.zero_le _⟩ d_Mo_rule_20 rfl (fun r4 σ3 hC => ?_)
    obtain ⟨hC, hb⟩ := hC
    refine gj_if_ne (tgt := 28) X d_Mo_rule_23 (by decide) (fun c0 => ?_) (fun c0 => ?_)
    · have hC := hC.1 c0
      refine gj_aload_n X d_Mo_rule_28 rfl 1 rfl ?_
      refine gj_get X inX9 0 rfl rfl 0 (by decide) tw_548 rfl rfl d_Mo_rule_29 ?_
      refine gj_aload_n X d_Mo_rule_32 rfl 1 rfl ?_
      refine gj_get X inX9 0 rfl rfl 3 (by decide) tw_551 rfl rfl d_Mo_rule_33 ?_
      refine gj_iload_n X d_Mo_rule_36 rfl 2 rfl ?_
      refine gj_iast (w' := (wM h cI cL cZ) (gs_A σ3 0 (upd (σ3.2.1 0) (σ3.1 0).toNatClampNeg a0))) X 1 0 rfl rfl hC.1 (set_wM_A0 h cI cL cZ σ3 _) d_Mo_rule_37 ?_
      refine gj_topw (wof := (wM h cI cL cZ)) (fun σ5 eσ5 => ?_)
      have hC := hC.2 σ5 eσ5
      refine gj_aload_n X d_Mo_rule_38 rfl 1 rfl ?_
      refine gj_get X inX9 0 rfl rfl 1 (by decide) tw_549 rfl rfl d_Mo_rule_39 ?_
      refine gj_aload_n X d_Mo_rule_42 rfl 1 rfl ?_
      refine gj_get X inX9 0 rfl rfl 3 (by decide) tw_551 rfl rfl d_Mo_rule_43 ?_
      refine gj_iload_n X d_Mo_rule_46 rfl 0 rfl ?_
      refine gj_iast (w' := (wM h cI cL cZ) (gs_A σ5 1 (upd (σ5.2.1 1) (σ5.1 0).toNatClampNeg v1))) X 2 0 rfl rfl hC.1 (set_wM_A1 h cI cL cZ σ5 _) d_Mo_rule_47 ?_
      refine gj_topw (wof := (wM h cI cL cZ)) (fun σ6 eσ6 => ?_)
      have hC := hC.2 σ6 eσ6
      refine gj_iconst (v := 0) X d_Mo_rule_48 (by decide) ?_
      refine gj_istore_n (L' := [(3, .int (0 : Int32)), (2, .int v1), (0, .ref (h 0)), (1, .int a0)]) X d_Mo_rule_49 rfl (by decide) rfl ?_
      exact gj_loc [2, 1, 0] rfl hC
    · have hC := hC.2 c0
      refine gj_iconst (v := -1) X d_Mo_rule_26 (by decide) ?_
      exact gj_iret X hr hlk hC d_Mo_rule_27
abbrev rm_Mo_isRule : Room := { frames := 0, cells := 0, slots := 0, locals := 0 }
set_option maxHeartbeats 4000000 in
set_option maxRecDepth 100000 in
theorem c_Mo_isRule (l : Launch) (dC : Nat → ClassId) (dI : Nat → Nat → Nat) (h : Nat → Nat) (cI cL cZ : ClassId) (σ : gs_St) (a0 : Int32) (K : Int32 → gs_St → Prop) (hC : C_Mo_isRule a0 σ K) : gj_MI l y_Mo_isRule (gj_ws y_Mo_isRule b_Mo_isRule 2 (some .boolean)) rm_Mo_isRule (dC, dI) gs_C (gs_T cI cL cZ) ((wM h cI cL cZ) σ) (wM h cI cL cZ) [.ref (h 0), .int a0] (fun r u => K r u ∧ (r = 0 ∨ r = 1)) := by
  refine gj_enterZ (by decide) (Nat.le_of_ble_eq_true rfl) (fun p e s m args below meth c A X hr hlk hA hnm => ?_)
  change gj_J p l e rm_Mo_isRule s m args below meth c 0 0 (MQ below (va_Qi (fun r u => K r u ∧ (r = 0 ∨ r = 1)) (gj_at (dC, dI) gs_C (gs_T cI cL cZ) (wM h cI cL cZ) A) A) args s 0 0 A) (dC, dI) gs_C A 2 0 [(0, .ref (h 0)), (1, .int a0)] [] ((wM h cI cL cZ) σ)
  refine gj_iload_n X d_Mo_isRule_0 rfl 1 rfl ?_
  refine gj_if_lt (tgt := 16) X d_Mo_isRule_1 (by decide) (fun c0 => ?_) (fun c0 => ?_)
  · have hC := hC.1 c0
    refine gj_iconst (v := 0) X d_Mo_isRule_16 (by decide) ?_
    exact gj_zret X hr hlk (by decide) ⟨hC, Or.inl rfl⟩ d_Mo_isRule_17
  · have hC := hC.2 c0
    refine gj_iload_n X d_Mo_isRule_4 rfl 1 rfl ?_
    refine gj_aload_n X d_Mo_isRule_5 rfl 0 rfl ?_
    refine gj_get X inX9 0 rfl rfl 3 (by decide) tw_551 rfl rfl d_Mo_isRule_6 ?_
    refine gj_icmp_ge (tgt := 16) X d_Mo_isRule_9 (by decide) (fun c0 => ?_) (fun c0 => ?_)
    · have hC := hC.1 c0
      refine gj_iconst (v := 0) X d_Mo_isRule_16 (by decide) ?_
      exact gj_zret X hr hlk (by decide) ⟨hC, Or.inl rfl⟩ d_Mo_isRule_17
    · have hC := hC.2 c0
      refine gj_iconst (v := 1) X d_Mo_isRule_12 (by decide) ?_
      refine gj_goto (tgt := 17) X d_Mo_isRule_13 (by decide) ?_
      exact gj_zret X hr hlk (by decide) ⟨hC, Or.inr rfl⟩ d_Mo_isRule_17
abbrev rm_Mo_drop : Room := { frames := 1, cells := 0, slots := 0, locals := 21 }
set_option maxHeartbeats 4000000 in
set_option maxRecDepth 100000 in
theorem c_Mo_drop (l : Launch) (dC : Nat → ClassId) (dI : Nat → Nat → Nat) (h : Nat → Nat) (cI cL cZ : ClassId) (σ : gs_St) (a0 : Int32) (K : Int32 → gs_St → Prop) (hC : C_Mo_drop a0 σ K) : gj_MI l y_Mo_drop (gj_ws y_Mo_drop b_Mo_drop 4 (some .boolean)) rm_Mo_drop (dC, dI) gs_C (gs_T cI cL cZ) ((wM h cI cL cZ) σ) (wM h cI cL cZ) [.ref (h 0), .int a0] (fun r u => K r u ∧ (r = 0 ∨ r = 1)) := by
  refine gj_enterZ (by decide) (Nat.le_of_ble_eq_true rfl) (fun p e s m args below meth c A X hr hlk hA hnm => ?_)
  change gj_J p l e rm_Mo_drop s m args below meth c 0 0 (MQ below (va_Qi (fun r u => K r u ∧ (r = 0 ∨ r = 1)) (gj_at (dC, dI) gs_C (gs_T cI cL cZ) (wM h cI cL cZ) A) A) args s 0 0 A) (dC, dI) gs_C A 4 0 [(0, .ref (h 0)), (1, .int a0)] [] ((wM h cI cL cZ) σ)
  have hC := hC
    (fun (v_2 : Int32) (σ : gs_St) => gj_J p l e rm_Mo_drop s m args below meth c 0 0 (MQ below (va_Qi (fun r u => K r u ∧ (r = 0 ∨ r = 1)) (gj_at (dC, dI) gs_C (gs_T cI cL cZ) (wM h cI cL cZ) A) A) args s 0 0 A) (dC, dI) gs_C A 4 22 [(0, .ref (h 0)), (2, .int v_2)] [] ((wM h cI cL cZ) σ))
    (fun (v_2 : Int32) (v_3 : Int32) (σ : gs_St) => gj_J p l e rm_Mo_drop s m args below meth c 0 0 (MQ below (va_Qi (fun r u => K r u ∧ (r = 0 ∨ r = 1)) (gj_at (dC, dI) gs_C (gs_T cI cL cZ) (wM h cI cL cZ) A) A) args s 0 0 A) (dC, dI) gs_C A 4 60 [(0, .ref (h 0)), (2, .int v_2), (3, .int v_3)] [] ((wM h cI cL cZ) σ))
    (by
      intro v_2 σ hC
      refine gj_iload_n X d_Mo_drop_22 rfl 1 rfl ?_
      refine gj_aload_n X d_Mo_drop_23 rfl 0 rfl ?_
      refine gj_get X inX9 0 rfl rfl 3 (by decide) tw_551 rfl rfl d_Mo_drop_24 ?_
      refine gj_icmp_ge (tgt := 103) X d_Mo_drop_27 (by decide) (fun c0 => ?_) (fun c0 => ?_)
      · have hC := hC.1 c0
        refine gj_aload_n X d_Mo_drop_103 rfl 0 rfl ?_
        refine gj_iconst (v := 0) X d_Mo_drop_104 (by decide) ?_
        refine gj_put (w' := (wM h cI cL cZ) (gs_I σ 5 (0 : Int32))) X inX9 tyX9 tyX9_ok nmX9 0 rfl rfl 17 (by decide) tw_565 rfl rfl (tyX9_ok 17 (by decide)) rfl rfl (Nat.le_of_ble_eq_true rfl) (set_wM_I5 h cI cL cZ σ _) d_Mo_drop_105 ?_
        refine gj_topw (wof := (wM h cI cL cZ)) (fun σ4 eσ4 => ?_)
        have hC := hC σ4 eσ4
        refine gj_iconst (v := 1) X d_Mo_drop_108 (by decide) ?_
        exact gj_zret X hr hlk (by decide) ⟨hC, Or.inr rfl⟩ d_Mo_drop_109
      · have hC := hC.2 c0
        refine gj_aload_n X d_Mo_drop_30 rfl 0 rfl ?_
        refine gj_get X inX9 0 rfl rfl 0 (by decide) tw_548 rfl rfl d_Mo_drop_31 ?_
        refine gj_iload_n X d_Mo_drop_34 rfl 1 rfl ?_
        refine gj_aload_n X d_Mo_drop_35 rfl 0 rfl ?_
        refine gj_get X inX9 0 rfl rfl 0 (by decide) tw_548 rfl rfl d_Mo_drop_36 ?_
        refine gj_iload_n X d_Mo_drop_39 rfl 1 rfl ?_
        refine gj_iconst (v := 1) X d_Mo_drop_40 (by decide) ?_
        refine gj_iadd X d_Mo_drop_41 ?_
        refine gj_iald X 1 0 rfl rfl hC.1 d_Mo_drop_42 ?_
        have hC := hC.2
        refine gj_iast (w' := (wM h cI cL cZ) (gs_A σ 0 (upd (σ.2.1 0) v_2.toNatClampNeg (σ.2.1 0 (v_2 + (1 : Int32)).toNatClampNeg)))) X 1 0 rfl rfl hC.1 (set_wM_A0 h cI cL cZ σ _) d_Mo_drop_43 ?_
        refine gj_topw (wof := (wM h cI cL cZ)) (fun σ5 eσ5 => ?_)
        have hC := hC.2 σ5 eσ5
        refine gj_aload_n X d_Mo_drop_44 rfl 0 rfl ?_
        refine gj_get X inX9 0 rfl rfl 1 (by decide) tw_549 rfl rfl d_Mo_drop_45 ?_
        refine gj_iload_n X d_Mo_drop_48 rfl 1 rfl ?_
        refine gj_aload_n X d_Mo_drop_49 rfl 0 rfl ?_
        refine gj_get X inX9 0 rfl rfl 1 (by decide) tw_549 rfl rfl d_Mo_drop_50 ?_
        refine gj_iload_n X d_Mo_drop_53 rfl 1 rfl ?_
        refine gj_iconst (v := 1) X d_Mo_drop_54 (by decide) ?_
        refine gj_iadd X d_Mo_drop_55 ?_
        refine gj_iald X 2 0 rfl rfl hC.1 d_Mo_drop_56 ?_
        have hC := hC.2
        refine gj_iast (w' := (wM h cI cL cZ) (gs_A σ5 1 (upd (σ5.2.1 1) v_2.toNatClampNeg (σ5.2.1 1 (v_2 + (1 : Int32)).toNatClampNeg)))) X 2 0 rfl rfl hC.1 (set_wM_A1 h cI cL cZ σ5 _) d_Mo_drop_57 ?_
        refine gj_topw (wof := (wM h cI cL cZ)) (fun σ6 eσ6 => ?_)
        have hC := hC.2 σ6 eσ6
        refine gj_iconst (v := 0) X d_Mo_drop_58 (by decide) ?_
        refine gj_istore_n (L' := [(3, .int (0 : Int32)), (0, .ref (h 0)), (2, .int v_2)]) X d_Mo_drop_59 rfl (by decide) rfl ?_
        exact gj_loc [1, 2, 0] rfl hC)
    (by
      intro v_2 v_3 σ hC
      refine gj_iload_n X d_Mo_drop_60 rfl 2 rfl ?_
      refine gj_bipush (v := 6) X d_Mo_drop_61 (by decide) ?_
      refine gj_icmp_ge (tgt := 97) X d_Mo_drop_63 (by decide) (fun c0 => ?_) (fun c0 => ?_)
      · have hC := hC.1 c0
        obtain ⟨v7, ev7⟩ : ∃ y : Int32, y = v_2 + 1 := ⟨_, rfl⟩
        have hC := hC v7 ev7
        refine gj_iinc (v := v7) (L' := [(2, .int v7), (0, .ref (h 0)), (3, .int v_3)]) X d_Mo_drop_97 1 rfl (by rw [ev7]; rfl) (by decide) rfl ?_
        refine gj_goto (tgt := 22) X d_Mo_drop_100 (by decide) ?_
        exact gj_loc [1, 0] rfl hC
      · have hC := hC.2 c0
        refine gj_aload_n X d_Mo_drop_66 rfl 0 rfl ?_
        refine gj_get X inX9 0 rfl rfl 2 (by decide) tw_550 rfl rfl d_Mo_drop_67 ?_
        refine gj_bipush (v := 6) X d_Mo_drop_70 (by decide) ?_
        refine gj_iload_n X d_Mo_drop_72 rfl 1 rfl ?_
        refine gj_imul X d_Mo_drop_73 ?_
        refine gj_iload_n X d_Mo_drop_74 rfl 2 rfl ?_
        refine gj_iadd X d_Mo_drop_75 ?_
        refine gj_aload_n X d_Mo_drop_76 rfl 0 rfl ?_
        refine gj_get X inX9 0 rfl rfl 2 (by decide) tw_550 rfl rfl d_Mo_drop_77 ?_
        refine gj_bipush (v := 6) X d_Mo_drop_80 (by decide) ?_
        refine gj_iload_n X d_Mo_drop_82 rfl 1 rfl ?_
        refine gj_imul X d_Mo_drop_83 ?_
        refine gj_bipush (v := 6) X d_Mo_drop_84 (by decide) ?_
        refine gj_iadd X d_Mo_drop_86 ?_
        refine gj_iload_n X d_Mo_drop_87 rfl 2 rfl ?_
        refine gj_iadd X d_Mo_drop_88 ?_
        refine gj_iald X 3 0 rfl rfl hC.1 d_Mo_drop_89 ?_
        have hC := hC.2
        refine gj_iast (w' := (wM h cI cL cZ) (gs_A σ 2 (upd (σ.2.1 2) (((6 : Int32) * v_2) + v_3).toNatClampNeg (σ.2.1 2 ((((6 : Int32) * v_2) + (6 : Int32)) + v_3).toNatClampNeg)))) X 3 0 rfl rfl hC.1 (set_wM_A2 h cI cL cZ σ _) d_Mo_drop_90 ?_
        refine gj_topw (wof := (wM h cI cL cZ)) (fun σ8 eσ8 => ?_)
        have hC := hC.2 σ8 eσ8
        obtain ⟨v9, ev9⟩ : ∃ y : Int32, y = v_3 + 1 := ⟨_, rfl⟩
        have hC := hC v9 ev9
        refine gj_iinc (v := v9) (L' := [(3, .int v9), (0, .ref (h 0)), (2, .int v_2)]) X d_Mo_drop_91 2 rfl (by rw [ev9]; rfl) (by decide) rfl ?_
        refine gj_goto (tgt := 60) X d_Mo_drop_94 (by decide) ?_
        exact gj_loc [1, 2, 0] rfl hC)
  refine gj_aload_n X d_Mo_drop_0 rfl 0 rfl ?_
  refine gj_iload_n X d_Mo_drop_1 rfl 1 rfl ?_
  refine gj_callVI (As := [.int a0]) (st := []) X (c_Mo_isRule l dC dI h cI cL cZ σ a0 _ hC) ⟨gj_cwB X tw_652 tw_10 tw_649 hd_Mo_isRule rfl rfl ⟨Nat.le_of_ble_eq_true rfl, Nat.le_of_ble_eq_true rfl⟩, X.2.2.2.2.1 _ tw_651, X.2.2.2.2.1 _ ts_16⟩ 0 rfl rfl hA rfl (Nat.le_of_ble_eq_true rfl) ⟨Nat.zero_le _, Nat.zero_le _⟩ d_Mo_drop_2 rfl (fun r2 σ1 hC => ?_)
  obtain ⟨hC, hb⟩ := hC
  refine gj_if_ne (tgt := 10) X d_Mo_drop_5 (by decide) (fun c0 => ?_) (fun c0 => ?_)
  · have hC := hC.1 c0
    refine gj_aload_n X d_Mo_drop_10 rfl 0 rfl ?_
    refine gj_dup X d_Mo_drop_11 rfl ?_
    refine gj_get X inX9 0 rfl rfl 3 (by decide) tw_551 rfl rfl d_Mo_drop_12 ?_
    refine gj_iconst (v := 1) X d_Mo_drop_15 (by decide) ?_
    refine gj_isub X d_Mo_drop_16 ?_
    refine gj_put (w' := (wM h cI cL cZ) (gs_I σ1 0 ((σ1.1 0) - (1 : Int32)))) X inX9 tyX9 tyX9_ok nmX9 0 rfl rfl 3 (by decide) tw_551 rfl rfl (tyX9_ok 3 (by decide)) rfl rfl (Nat.le_of_ble_eq_true rfl) (set_wM_I0 h cI cL cZ σ1 _) d_Mo_drop_17 ?_
    refine gj_topw (wof := (wM h cI cL cZ)) (fun σ3 eσ3 => ?_)
    have hC := hC σ3 eσ3
    refine gj_iload_n X d_Mo_drop_20 rfl 1 rfl ?_
    refine gj_istore_n (L' := [(2, .int a0), (0, .ref (h 0)), (1, .int a0)]) X d_Mo_drop_21 rfl (by decide) rfl ?_
    exact gj_loc [1, 0] rfl hC
  · have hC := hC.2 c0
    refine gj_iconst (v := 0) X d_Mo_drop_8 (by decide) ?_
    exact gj_zret X hr hlk (by decide) ⟨hC, Or.inl rfl⟩ d_Mo_drop_9
abbrev rm_Mo_count : Room := { frames := 0, cells := 0, slots := 0, locals := 0 }
set_option maxHeartbeats 4000000 in
set_option maxRecDepth 100000 in
theorem c_Mo_count (l : Launch) (dC : Nat → ClassId) (dI : Nat → Nat → Nat) (h : Nat → Nat) (cI cL cZ : ClassId) (σ : gs_St) (a0 : Int32) (K : Int32 → gs_St → Prop) (hC : C_Mo_count a0 σ K) : gj_MI l y_Mo_count (gj_ws y_Mo_count b_Mo_count 2 (some .int)) rm_Mo_count (dC, dI) gs_C (gs_T cI cL cZ) ((wM h cI cL cZ) σ) (wM h cI cL cZ) [.ref (h 0), .int a0] K := by
  refine gj_enterI (by decide) (Nat.le_of_ble_eq_true rfl) (fun p e s m args below meth c A X hr hlk hA hnm => ?_)
  change gj_J p l e rm_Mo_count s m args below meth c 0 0 (MQ below (va_Qi K (gj_at (dC, dI) gs_C (gs_T cI cL cZ) (wM h cI cL cZ) A) A) args s 0 0 A) (dC, dI) gs_C A 2 0 [(0, .ref (h 0)), (1, .int a0)] [] ((wM h cI cL cZ) σ)
  refine gj_iload_n X d_Mo_count_0 rfl 1 rfl ?_
  refine gj_if_ne (tgt := 11) X d_Mo_count_1 (by decide) (fun c0 => ?_) (fun c0 => ?_)
  · have hC := hC.1 c0
    refine gj_iload_n X d_Mo_count_11 rfl 1 rfl ?_
    refine gj_iconst (v := 1) X d_Mo_count_12 (by decide) ?_
    refine gj_icmp_ne (tgt := 23) X d_Mo_count_13 (by decide) (fun c0 => ?_) (fun c0 => ?_)
    · have hC := hC.1 c0
      refine gj_iload_n X d_Mo_count_23 rfl 1 rfl ?_
      refine gj_iconst (v := 2) X d_Mo_count_24 (by decide) ?_
      refine gj_icmp_ne (tgt := 35) X d_Mo_count_25 (by decide) (fun c0 => ?_) (fun c0 => ?_)
      · have hC := hC.1 c0
        refine gj_iconst (v := -1) X d_Mo_count_35 (by decide) ?_
        exact gj_iret X hr hlk hC d_Mo_count_36
      · have hC := hC.2 c0
        refine gj_aload_n X d_Mo_count_28 rfl 0 rfl ?_
        refine gj_get X inX9 0 rfl rfl 7 (by decide) tw_555 rfl rfl d_Mo_count_29 ?_
        refine gj_goto (tgt := 36) X d_Mo_count_32 (by decide) ?_
        exact gj_iret X hr hlk hC d_Mo_count_36
    · have hC := hC.2 c0
      refine gj_aload_n X d_Mo_count_16 rfl 0 rfl ?_
      refine gj_get X inX9 0 rfl rfl 5 (by decide) tw_553 rfl rfl d_Mo_count_17 ?_
      refine gj_goto (tgt := 36) X d_Mo_count_20 (by decide) ?_
      exact gj_iret X hr hlk hC d_Mo_count_36
  · have hC := hC.2 c0
    refine gj_aload_n X d_Mo_count_4 rfl 0 rfl ?_
    refine gj_get X inX9 0 rfl rfl 3 (by decide) tw_551 rfl rfl d_Mo_count_5 ?_
    refine gj_goto (tgt := 36) X d_Mo_count_8 (by decide) ?_
    exact gj_iret X hr hlk hC d_Mo_count_36
abbrev rm_Mo_at : Room := { frames := 0, cells := 0, slots := 0, locals := 0 }
set_option maxHeartbeats 4000000 in
set_option maxRecDepth 100000 in
theorem c_Mo_at (l : Launch) (dC : Nat → ClassId) (dI : Nat → Nat → Nat) (h : Nat → Nat) (cI cL cZ : ClassId) (σ : gs_St) (a0 : Int32) (a1 : Int32) (K : Int32 → gs_St → Prop) (hC : C_Mo_at a0 a1 σ K) : gj_MI l y_Mo_at (gj_ws y_Mo_at b_Mo_at 3 (some .int)) rm_Mo_at (dC, dI) gs_C (gs_T cI cL cZ) ((wM h cI cL cZ) σ) (wM h cI cL cZ) [.ref (h 0), .int a0, .int a1] K := by
  refine gj_enterI (by decide) (Nat.le_of_ble_eq_true rfl) (fun p e s m args below meth c A X hr hlk hA hnm => ?_)
  change gj_J p l e rm_Mo_at s m args below meth c 0 0 (MQ below (va_Qi K (gj_at (dC, dI) gs_C (gs_T cI cL cZ) (wM h cI cL cZ) A) A) args s 0 0 A) (dC, dI) gs_C A 3 0 [(0, .ref (h 0)), (1, .int a0), (2, .int a1)] [] ((wM h cI cL cZ) σ)
  refine gj_aload_n X d_Mo_at_0 rfl 0 rfl ?_
  refine gj_get X inX9 0 rfl rfl 2 (by decide) tw_550 rfl rfl d_Mo_at_1 ?_
  refine gj_bipush (v := 6) X d_Mo_at_4 (by decide) ?_
  refine gj_iload_n X d_Mo_at_6 rfl 1 rfl ?_
  refine gj_imul X d_Mo_at_7 ?_
  refine gj_iload_n X d_Mo_at_8 rfl 2 rfl ?_
  refine gj_iadd X d_Mo_at_9 ?_
  refine gj_iald X 3 0 rfl rfl hC.1 d_Mo_at_10 ?_
  have hC := hC.2
  exact gj_iret X hr hlk hC d_Mo_at_11
abbrev rm_Mo_about : Room := { frames := 1, cells := 0, slots := 0, locals := 22 }
set_option maxHeartbeats 4000000 in
set_option maxRecDepth 100000 in
theorem c_Mo_about (l : Launch) (dC : Nat → ClassId) (dI : Nat → Nat → Nat) (h : Nat → Nat) (cI cL cZ : ClassId) (σ : gs_St) (a0 : Int32) (a1 : Int32) (K : Int32 → gs_St → Prop) (hC : C_Mo_about a0 a1 σ K) : gj_MI l y_Mo_about (gj_ws y_Mo_about b_Mo_about 3 (some .int)) rm_Mo_about (dC, dI) gs_C (gs_T cI cL cZ) ((wM h cI cL cZ) σ) (wM h cI cL cZ) [.ref (h 0), .int a0, .int a1] K := by
  refine gj_enterI (by decide) (Nat.le_of_ble_eq_true rfl) (fun p e s m args below meth c A X hr hlk hA hnm => ?_)
  change gj_J p l e rm_Mo_about s m args below meth c 0 0 (MQ below (va_Qi K (gj_at (dC, dI) gs_C (gs_T cI cL cZ) (wM h cI cL cZ) A) A) args s 0 0 A) (dC, dI) gs_C A 3 0 [(0, .ref (h 0)), (1, .int a0), (2, .int a1)] [] ((wM h cI cL cZ) σ)
  refine gj_aload_n X d_Mo_about_0 rfl 0 rfl ?_
  refine gj_iload_n X d_Mo_about_1 rfl 1 rfl ?_
  refine gj_callVI (As := [.int a0]) (st := []) X (c_Mo_isRule l dC dI h cI cL cZ σ a0 _ hC) ⟨gj_cwB X tw_652 tw_10 tw_649 hd_Mo_isRule rfl rfl ⟨Nat.le_of_ble_eq_true rfl, Nat.le_of_ble_eq_true rfl⟩, X.2.2.2.2.1 _ tw_651, X.2.2.2.2.1 _ ts_16⟩ 0 rfl rfl hA rfl (Nat.le_of_ble_eq_true rfl) ⟨Nat.zero_le _, Nat.zero_le _⟩ d_Mo_about_2 rfl (fun r2 σ1 hC => ?_)
  obtain ⟨hC, hb⟩ := hC
  refine gj_if_eq (tgt := 23) X d_Mo_about_5 (by decide) (fun c0 => ?_) (fun c0 => ?_)
  · have hC := hC.1 c0
    refine gj_iconst (v := -1) X d_Mo_about_23 (by decide) ?_
    exact gj_iret X hr hlk hC d_Mo_about_24
  · have hC := hC.2 c0
    refine gj_iload_n X d_Mo_about_8 rfl 2 rfl ?_
    refine gj_iconst (v := -1) X d_Mo_about_9 (by decide) ?_
    refine gj_icmp_lt (tgt := 23) X d_Mo_about_10 (by decide) (fun c0 => ?_) (fun c0 => ?_)
    · have hC := hC.1 c0
      refine gj_iconst (v := -1) X d_Mo_about_23 (by decide) ?_
      exact gj_iret X hr hlk hC d_Mo_about_24
    · have hC := hC.2 c0
      refine gj_iload_n X d_Mo_about_13 rfl 2 rfl ?_
      refine gj_aload_n X d_Mo_about_14 rfl 0 rfl ?_
      refine gj_get X inX9 0 rfl rfl 1 (by decide) tw_549 rfl rfl d_Mo_about_15 ?_
      refine gj_iload_n X d_Mo_about_18 rfl 1 rfl ?_
      refine gj_iald X 2 0 rfl rfl hC.1 d_Mo_about_19 ?_
      have hC := hC.2
      refine gj_icmp_lt (tgt := 25) X d_Mo_about_20 (by decide) (fun c0 => ?_) (fun c0 => ?_)
      · have hC := hC.1 c0
        refine gj_iload_n X d_Mo_about_25 rfl 2 rfl ?_
        refine gj_iconst (v := -1) X d_Mo_about_26 (by decide) ?_
        refine gj_icmp_ne (tgt := 39) X d_Mo_about_27 (by decide) (fun c0 => ?_) (fun c0 => ?_)
        · have hC := hC.1 c0
          refine gj_aload_n X d_Mo_about_39 rfl 0 rfl ?_
          refine gj_iload_n X d_Mo_about_40 rfl 1 rfl ?_
          refine gj_iload_n X d_Mo_about_41 rfl 2 rfl ?_
          refine gj_callVI (As := [.int a0, .int a1]) (st := []) X (c_Mo_at l dC dI h cI cL cZ σ1 a0 a1 _ hC) ⟨gj_cwB X tw_664 tw_10 tw_661 hd_Mo_at rfl rfl ⟨Nat.le_of_ble_eq_true rfl, Nat.le_of_ble_eq_true rfl⟩, X.2.2.2.2.1 _ tw_663, X.2.2.2.2.1 _ ts_17⟩ 0 rfl rfl hA rfl (Nat.le_of_ble_eq_true rfl) ⟨Nat.zero_le _, Nat.zero_le _⟩ d_Mo_about_42 rfl (fun r4 σ3 hC => ?_)
          exact gj_iret X hr hlk hC d_Mo_about_45
        · have hC := hC.2 c0
          refine gj_aload_n X d_Mo_about_30 rfl 0 rfl ?_
          refine gj_get X inX9 0 rfl rfl 0 (by decide) tw_548 rfl rfl d_Mo_about_31 ?_
          refine gj_iload_n X d_Mo_about_34 rfl 1 rfl ?_
          refine gj_iald X 1 0 rfl rfl hC.1 d_Mo_about_35 ?_
          have hC := hC.2
          refine gj_goto (tgt := 45) X d_Mo_about_36 (by decide) ?_
          exact gj_iret X hr hlk hC d_Mo_about_45
      · have hC := hC.2 c0
        refine gj_iconst (v := -1) X d_Mo_about_23 (by decide) ?_
        exact gj_iret X hr hlk hC d_Mo_about_24
abbrev rm_Mo_leastOf : Room := { frames := 1, cells := 0, slots := 0, locals := 20 }
set_option maxHeartbeats 4000000 in
set_option maxRecDepth 100000 in
theorem c_Mo_leastOf (l : Launch) (dC : Nat → ClassId) (dI : Nat → Nat → Nat) (h : Nat → Nat) (cI cL cZ : ClassId) (σ : gs_St) (a0 : Int32) (K : Int64 → gs_St → Prop) (hC : C_Mo_leastOf a0 σ K) : gj_ML l y_Mo_leastOf (gj_ws y_Mo_leastOf b_Mo_leastOf 2 (some .long)) rm_Mo_leastOf (dC, dI) gs_C (gs_T cI cL cZ) ((wM h cI cL cZ) σ) (wM h cI cL cZ) [.ref (h 0), .int a0] K := by
  refine gj_enterL (by decide) (Nat.le_of_ble_eq_true rfl) (fun p e s m args below meth c A X hr hlk hA hnm => ?_)
  change gj_J p l e rm_Mo_leastOf s m args below meth c 0 0 (MQ below (va_Ql K (gj_at (dC, dI) gs_C (gs_T cI cL cZ) (wM h cI cL cZ) A) A) args s 0 0 A) (dC, dI) gs_C A 2 0 [(0, .ref (h 0)), (1, .int a0)] [] ((wM h cI cL cZ) σ)
  refine gj_iload_n X d_Mo_leastOf_0 rfl 1 rfl ?_
  refine gj_callSI (As := [.int a0]) (st := []) X (c_Mo_isNonterminal l dC dI h cI cL cZ σ a0 _ hC) ⟨gj_cwB X tw_644 tw_10 tw_642 hd_Mo_isNonterminal rfl rfl ⟨Nat.le_of_ble_eq_true rfl, Nat.le_of_ble_eq_true rfl⟩, X.2.2.2.2.1 _ tw_643⟩ hA rfl (Nat.le_of_ble_eq_true rfl) ⟨Nat.zero_le _, Nat.zero_le _⟩ d_Mo_leastOf_1 rfl (fun r2 σ1 hC => ?_)
  obtain ⟨hC, hb⟩ := hC
  refine gj_if_eq (tgt := 16) X d_Mo_leastOf_4 (by decide) (fun c0 => ?_) (fun c0 => ?_)
  · have hC := hC.1 c0
    refine gj_lconst (v := 1) X d_Mo_leastOf_16 (by decide) ?_
    exact gj_lret X hr hlk hC d_Mo_leastOf_17
  · have hC := hC.2 c0
    refine gj_aload_n X d_Mo_leastOf_7 rfl 0 rfl ?_
    refine gj_get X inX9 0 rfl rfl 12 (by decide) tw_560 rfl rfl d_Mo_leastOf_8 ?_
    refine gj_iload_n X d_Mo_leastOf_11 rfl 1 rfl ?_
    refine gj_lald X 8 1 rfl rfl hC.1 d_Mo_leastOf_12 ?_
    have hC := hC.2
    refine gj_goto (tgt := 17) X d_Mo_leastOf_13 (by decide) ?_
    exact gj_lret X hr hlk hC d_Mo_leastOf_17
abbrev rm_Mo_leastBut : Room := { frames := 2, cells := 0, slots := 0, locals := 41 }
set_option maxHeartbeats 4000000 in
set_option maxRecDepth 100000 in
theorem c_Mo_leastBut (l : Launch) (dC : Nat → ClassId) (dI : Nat → Nat → Nat) (h : Nat → Nat) (cI cL cZ : ClassId) (σ : gs_St) (a0 : Int32) (a1 : Int32) (K : Int64 → gs_St → Prop) (hC : C_Mo_leastBut a0 a1 σ K) : gj_ML l y_Mo_leastBut (gj_ws y_Mo_leastBut b_Mo_leastBut 6 (some .long)) rm_Mo_leastBut (dC, dI) gs_C (gs_T cI cL cZ) ((wM h cI cL cZ) σ) (wM h cI cL cZ) [.ref (h 0), .int a0, .int a1] K := by
  refine gj_enterL (by decide) (Nat.le_of_ble_eq_true rfl) (fun p e s m args below meth c A X hr hlk hA hnm => ?_)
  change gj_J p l e rm_Mo_leastBut s m args below meth c 0 0 (MQ below (va_Ql K (gj_at (dC, dI) gs_C (gs_T cI cL cZ) (wM h cI cL cZ) A) A) args s 0 0 A) (dC, dI) gs_C A 6 0 [(0, .ref (h 0)), (1, .int a0), (2, .int a1)] [] ((wM h cI cL cZ) σ)
  have hC := hC
    (fun (v_1 : Int32) (v_2 : Int32) (v_3 : Int64) (v_5 : Int32) (σ : gs_St) => gj_J p l e rm_Mo_leastBut s m args below meth c 0 0 (MQ below (va_Ql K (gj_at (dC, dI) gs_C (gs_T cI cL cZ) (wM h cI cL cZ) A) A) args s 0 0 A) (dC, dI) gs_C A 6 5 [(0, .ref (h 0)), (1, .int v_1), (2, .int v_2), (3, .long v_3), (5, .int v_5)] [] ((wM h cI cL cZ) σ))
    (by
      intro v_1 v_2 v_3 v_5 σ hC
      refine gj_iload X d_Mo_leastBut_5 4 rfl ?_
      refine gj_aload_n X d_Mo_leastBut_7 rfl 0 rfl ?_
      refine gj_get X inX9 0 rfl rfl 1 (by decide) tw_549 rfl rfl d_Mo_leastBut_8 ?_
      refine gj_iload_n X d_Mo_leastBut_11 rfl 1 rfl ?_
      refine gj_iald X 2 0 rfl rfl hC.1 d_Mo_leastBut_12 ?_
      have hC := hC.2
      refine gj_icmp_ge (tgt := 46) X d_Mo_leastBut_13 (by decide) (fun c0 => ?_) (fun c0 => ?_)
      · have hC := hC.1 c0
        refine gj_lload_n X d_Mo_leastBut_46 rfl 3 rfl ?_
        refine gj_ldc2 (v := 1152921504606846976) X tw_673 d_Mo_leastBut_47 ?_
        refine gj_lcmp_ge (tgt := 58) X d_Mo_leastBut_50 d_Mo_leastBut_51 (by decide) (fun c0 => ?_) (fun c0 => ?_)
        · have hC := hC.1 c0
          refine gj_ldc2 (v := 1152921504606846976) X tw_673 d_Mo_leastBut_58 ?_
          exact gj_lret X hr hlk hC d_Mo_leastBut_61
        · have hC := hC.2 c0
          refine gj_lload_n X d_Mo_leastBut_54 rfl 3 rfl ?_
          refine gj_goto (tgt := 61) X d_Mo_leastBut_55 (by decide) ?_
          exact gj_lret X hr hlk hC d_Mo_leastBut_61
      · have hC := hC.2 c0
        refine gj_lload_n X d_Mo_leastBut_16 rfl 3 rfl ?_
        refine gj_iload X d_Mo_leastBut_17 4 rfl ?_
        refine gj_iload_n X d_Mo_leastBut_19 rfl 2 rfl ?_
        refine gj_icmp_ne (tgt := 27) X d_Mo_leastBut_20 (by decide) (fun c0 => ?_) (fun c0 => ?_)
        · have hC := hC.1 c0
          refine gj_aload_n X d_Mo_leastBut_27 rfl 0 rfl ?_
          refine gj_aload_n X d_Mo_leastBut_28 rfl 0 rfl ?_
          refine gj_iload_n X d_Mo_leastBut_29 rfl 1 rfl ?_
          refine gj_iload X d_Mo_leastBut_30 4 rfl ?_
          refine gj_callVI (As := [.int v_1, .int v_5]) (st := [.ref (h 0), .long v_3]) X (c_Mo_at l dC dI h cI cL cZ σ v_1 v_5 _ hC) ⟨gj_cwB X tw_664 tw_10 tw_661 hd_Mo_at rfl rfl ⟨Nat.le_of_ble_eq_true rfl, Nat.le_of_ble_eq_true rfl⟩, X.2.2.2.2.1 _ tw_663, X.2.2.2.2.1 _ ts_17⟩ 0 rfl rfl hA rfl (Nat.le_of_ble_eq_true rfl) ⟨Nat.zero_le _, Nat.zero_le _⟩ d_Mo_leastBut_32 rfl (fun r2 σ1 hC => ?_)
          refine gj_callVL (As := [.int r2]) (st := [.long v_3]) X (c_Mo_leastOf l dC dI h cI cL cZ σ1 r2 _ hC) ⟨gj_cwB X tw_681 tw_10 tw_678 hd_Mo_leastOf rfl rfl ⟨Nat.le_of_ble_eq_true rfl, Nat.le_of_ble_eq_true rfl⟩, X.2.2.2.2.1 _ tw_680, X.2.2.2.2.1 _ ts_20⟩ 0 rfl rfl hA rfl (Nat.le_of_ble_eq_true rfl) ⟨Nat.zero_le _, Nat.zero_le _⟩ d_Mo_leastBut_35 rfl (fun r4 σ3 hC => ?_)
          refine gj_ladd X d_Mo_leastBut_38 ?_
          refine gj_topl (fun v5 ev5 => ?_)
          have hC := hC v5 ev5
          refine gj_lstore_n (L' := [(3, .long v5), (0, .ref (h 0)), (1, .int v_1), (2, .int v_2), (5, .int v_5)]) X d_Mo_leastBut_39 rfl (by decide) rfl ?_
          obtain ⟨v6, ev6⟩ : ∃ y : Int32, y = v_5 + 1 := ⟨_, rfl⟩
          have hC := hC v6 ev6
          refine gj_iinc (v := v6) (L' := [(5, .int v6), (3, .long v5), (0, .ref (h 0)), (1, .int v_1), (2, .int v_2)]) X d_Mo_leastBut_40 4 rfl (by rw [ev6]; rfl) (by decide) rfl ?_
          refine gj_goto (tgt := 5) X d_Mo_leastBut_43 (by decide) ?_
          exact gj_loc [2, 3, 4, 1, 0] rfl hC
        · have hC := hC.2 c0
          refine gj_lconst (v := 0) X d_Mo_leastBut_23 (by decide) ?_
          refine gj_goto (tgt := 38) X d_Mo_leastBut_24 (by decide) ?_
          refine gj_ladd X d_Mo_leastBut_38 ?_
          refine gj_topl (fun v7 ev7 => ?_)
          have hC := hC v7 ev7
          refine gj_lstore_n (L' := [(3, .long v7), (0, .ref (h 0)), (1, .int v_1), (2, .int v_2), (5, .int v_5)]) X d_Mo_leastBut_39 rfl (by decide) rfl ?_
          obtain ⟨v8, ev8⟩ : ∃ y : Int32, y = v_5 + 1 := ⟨_, rfl⟩
          have hC := hC v8 ev8
          refine gj_iinc (v := v8) (L' := [(5, .int v8), (3, .long v7), (0, .ref (h 0)), (1, .int v_1), (2, .int v_2)]) X d_Mo_leastBut_40 4 rfl (by rw [ev8]; rfl) (by decide) rfl ?_
          refine gj_goto (tgt := 5) X d_Mo_leastBut_43 (by decide) ?_
          exact gj_loc [2, 3, 4, 1, 0] rfl hC)
  refine gj_lconst (v := 0) X d_Mo_leastBut_0 (by decide) ?_
  refine gj_lstore_n (L' := [(3, .long (0 : Int64)), (0, .ref (h 0)), (1, .int a0), (2, .int a1)]) X d_Mo_leastBut_1 rfl (by decide) rfl ?_
  refine gj_iconst (v := 0) X d_Mo_leastBut_2 (by decide) ?_
  refine gj_istore (L' := [(5, .int (0 : Int32)), (3, .long (0 : Int64)), (0, .ref (h 0)), (1, .int a0), (2, .int a1)]) X d_Mo_leastBut_3 (by decide) rfl ?_
  exact gj_loc [2, 3, 4, 1, 0] rfl hC
abbrev rm_Mo_shorten : Room := { frames := 3, cells := 0, slots := 0, locals := 66 }
set_option maxHeartbeats 4000000 in
set_option maxRecDepth 100000 in
theorem c_Mo_shorten (l : Launch) (dC : Nat → ClassId) (dI : Nat → Nat → Nat) (h : Nat → Nat) (cI cL cZ : ClassId) (σ : gs_St) (K : gs_St → Prop) (hC : C_Mo_shorten σ K) : gj_MV 0 0 l y_Mo_shorten (gj_ws y_Mo_shorten b_Mo_shorten 5 (none)) rm_Mo_shorten (dC, dI) gs_C (gs_T cI cL cZ) ((wM h cI cL cZ) σ) (wM h cI cL cZ) [.ref (h 0)] K := by
  refine gj_enterV (by decide) (Nat.le_of_ble_eq_true rfl) (fun p e s m args below meth c A X hr hlk hA hnm => ?_)
  change gj_J p l e rm_Mo_shorten s m args below meth c 0 0 (MQ below (va_Qv K (gj_at (dC, dI) gs_C (gs_T cI cL cZ) (wM h cI cL cZ) A) A) args s 0 0 A) (dC, dI) gs_C A 5 0 [(0, .ref (h 0))] [] ((wM h cI cL cZ) σ)
  have hC := hC
    (fun (v_1 : Int32) (σ : gs_St) => gj_J p l e rm_Mo_shorten s m args below meth c 0 0 (MQ below (va_Qv K (gj_at (dC, dI) gs_C (gs_T cI cL cZ) (wM h cI cL cZ) A) A) args s 0 0 A) (dC, dI) gs_C A 5 2 [(0, .ref (h 0)), (1, .int v_1)] [] ((wM h cI cL cZ) σ))
    (fun (v_1 : Int32) (σ : gs_St) => gj_J p l e rm_Mo_shorten s m args below meth c 0 0 (MQ below (va_Qv K (gj_at (dC, dI) gs_C (gs_T cI cL cZ) (wM h cI cL cZ) A) A) args s 0 0 A) (dC, dI) gs_C A 5 25 [(0, .ref (h 0)), (1, .int v_1)] [] ((wM h cI cL cZ) σ))
    (fun (v_1 : Int32) (v_2 : Int32) (σ : gs_St) => gj_J p l e rm_Mo_shorten s m args below meth c 0 0 (MQ below (va_Qv K (gj_at (dC, dI) gs_C (gs_T cI cL cZ) (wM h cI cL cZ) A) A) args s 0 0 A) (dC, dI) gs_C A 5 33 [(0, .ref (h 0)), (1, .int v_1), (2, .int v_2)] [] ((wM h cI cL cZ) σ))
    (by
      intro v_1 σ hC
      refine gj_iload_n X d_Mo_shorten_2 rfl 1 rfl ?_
      refine gj_bipush (v := 8) X d_Mo_shorten_3 (by decide) ?_
      refine gj_icmp_ge (tgt := 23) X d_Mo_shorten_5 (by decide) (fun c0 => ?_) (fun c0 => ?_)
      · have hC := hC.1 c0
        refine gj_iconst (v := 0) X d_Mo_shorten_23 (by decide) ?_
        refine gj_istore_n (L' := [(1, .int (0 : Int32)), (0, .ref (h 0))]) X d_Mo_shorten_24 rfl (by decide) rfl ?_
        exact gj_loc [1, 0] rfl hC
      · have hC := hC.2 c0
        refine gj_aload_n X d_Mo_shorten_8 rfl 0 rfl ?_
        refine gj_get X inX9 0 rfl rfl 12 (by decide) tw_560 rfl rfl d_Mo_shorten_9 ?_
        refine gj_iload_n X d_Mo_shorten_12 rfl 1 rfl ?_
        refine gj_ldc2 (v := 1152921504606846976) X tw_673 d_Mo_shorten_13 ?_
        refine gj_last (w' := (wM h cI cL cZ) (gs_L σ 0 (vp_updL (σ.2.2 0) v_1.toNatClampNeg (1152921504606846976 : Int64)))) X 8 1 rfl rfl hC.1 (set_wM_L0 h cI cL cZ σ _) d_Mo_shorten_16 ?_
        refine gj_topw (wof := (wM h cI cL cZ)) (fun σ1 eσ1 => ?_)
        have hC := hC.2 σ1 eσ1
        obtain ⟨v2, ev2⟩ : ∃ y : Int32, y = v_1 + 1 := ⟨_, rfl⟩
        have hC := hC v2 ev2
        refine gj_iinc (v := v2) (L' := [(1, .int v2), (0, .ref (h 0))]) X d_Mo_shorten_17 1 rfl (by rw [ev2]; rfl) (by decide) rfl ?_
        refine gj_goto (tgt := 2) X d_Mo_shorten_20 (by decide) ?_
        exact gj_loc [1, 0] rfl hC)
    (by
      intro v_1 σ hC
      refine gj_iload_n X d_Mo_shorten_25 rfl 1 rfl ?_
      refine gj_bipush (v := 8) X d_Mo_shorten_26 (by decide) ?_
      refine gj_icmp_ge (tgt := 102) X d_Mo_shorten_28 (by decide) (fun c0 => ?_) (fun c0 => ?_)
      · have hC := hC.1 c0
        exact gj_vret X hr hlk hC d_Mo_shorten_102
      · have hC := hC.2 c0
        refine gj_iconst (v := 0) X d_Mo_shorten_31 (by decide) ?_
        refine gj_istore_n (L' := [(2, .int (0 : Int32)), (0, .ref (h 0)), (1, .int v_1)]) X d_Mo_shorten_32 rfl (by decide) rfl ?_
        exact gj_loc [1, 2, 0] rfl hC)
    (by
      intro v_1 v_2 σ hC
      refine gj_iload_n X d_Mo_shorten_33 rfl 2 rfl ?_
      refine gj_aload_n X d_Mo_shorten_34 rfl 0 rfl ?_
      refine gj_get X inX9 0 rfl rfl 3 (by decide) tw_551 rfl rfl d_Mo_shorten_35 ?_
      refine gj_icmp_ge (tgt := 96) X d_Mo_shorten_38 (by decide) (fun c0 => ?_) (fun c0 => ?_)
      · have hC := hC.1 c0
        obtain ⟨v3, ev3⟩ : ∃ y : Int32, y = v_1 + 1 := ⟨_, rfl⟩
        have hC := hC v3 ev3
        refine gj_iinc (v := v3) (L' := [(1, .int v3), (0, .ref (h 0)), (2, .int v_2)]) X d_Mo_shorten_96 1 rfl (by rw [ev3]; rfl) (by decide) rfl ?_
        refine gj_goto (tgt := 25) X d_Mo_shorten_99 (by decide) ?_
        exact gj_loc [1, 0] rfl hC
      · have hC := hC.2 c0
        refine gj_aload_n X d_Mo_shorten_41 rfl 0 rfl ?_
        refine gj_iload_n X d_Mo_shorten_42 rfl 2 rfl ?_
        refine gj_iconst (v := -1) X d_Mo_shorten_43 (by decide) ?_
        refine gj_callVL (As := [.int v_2, .int (-1 : Int32)]) (st := []) X (c_Mo_leastBut l dC dI h cI cL cZ σ v_2 (-1 : Int32) _ hC) ⟨gj_cwB X tw_677 tw_10 tw_674 hd_Mo_leastBut rfl rfl ⟨Nat.le_of_ble_eq_true rfl, Nat.le_of_ble_eq_true rfl⟩, X.2.2.2.2.1 _ tw_676, X.2.2.2.2.1 _ ts_19⟩ 0 rfl rfl hA rfl (Nat.le_of_ble_eq_true rfl) ⟨Nat.zero_le _, Nat.zero_le _⟩ d_Mo_shorten_44 rfl (fun r5 σ4 hC => ?_)
        refine gj_lstore_n (L' := [(3, .long r5), (0, .ref (h 0)), (1, .int v_1), (2, .int v_2)]) X d_Mo_shorten_47 rfl (by decide) rfl ?_
        refine gj_aload_n X d_Mo_shorten_48 rfl 1 rfl ?_
        refine gj_get X inX9 0 rfl rfl 12 (by decide) tw_560 rfl rfl d_Mo_shorten_49 ?_
        refine gj_aload_n X d_Mo_shorten_52 rfl 1 rfl ?_
        refine gj_get X inX9 0 rfl rfl 0 (by decide) tw_548 rfl rfl d_Mo_shorten_53 ?_
        refine gj_iload_n X d_Mo_shorten_56 rfl 3 rfl ?_
        refine gj_iald X 1 0 rfl rfl hC.1 d_Mo_shorten_57 ?_
        have hC := hC.2
        refine gj_lload_n X d_Mo_shorten_58 rfl 0 rfl ?_
        refine gj_aload_n X d_Mo_shorten_59 rfl 1 rfl ?_
        refine gj_get X inX9 0 rfl rfl 12 (by decide) tw_560 rfl rfl d_Mo_shorten_60 ?_
        refine gj_aload_n X d_Mo_shorten_63 rfl 1 rfl ?_
        refine gj_get X inX9 0 rfl rfl 0 (by decide) tw_548 rfl rfl d_Mo_shorten_64 ?_
        refine gj_iload_n X d_Mo_shorten_67 rfl 3 rfl ?_
        refine gj_iald X 1 0 rfl rfl hC.1 d_Mo_shorten_68 ?_
        have hC := hC.2
        refine gj_lald X 8 1 rfl rfl hC.1 d_Mo_shorten_69 ?_
        have hC := hC.2
        refine gj_lcmp_ge (tgt := 78) X d_Mo_shorten_70 d_Mo_shorten_71 (by decide) (fun c0 => ?_) (fun c0 => ?_)
        · have hC := hC.1 c0
          refine gj_aload_n X d_Mo_shorten_78 rfl 1 rfl ?_
          refine gj_get X inX9 0 rfl rfl 12 (by decide) tw_560 rfl rfl d_Mo_shorten_79 ?_
          refine gj_aload_n X d_Mo_shorten_82 rfl 1 rfl ?_
          refine gj_get X inX9 0 rfl rfl 0 (by decide) tw_548 rfl rfl d_Mo_shorten_83 ?_
          refine gj_iload_n X d_Mo_shorten_86 rfl 3 rfl ?_
          refine gj_iald X 1 0 rfl rfl hC.1 d_Mo_shorten_87 ?_
          have hC := hC.2
          refine gj_lald X 8 1 rfl rfl hC.1 d_Mo_shorten_88 ?_
          have hC := hC.2
          refine gj_last (w' := (wM h cI cL cZ) (gs_L σ4 0 (vp_updL (σ4.2.2 0) (σ4.2.1 0 v_2.toNatClampNeg).toNatClampNeg (σ4.2.2 0 (σ4.2.1 0 v_2.toNatClampNeg).toNatClampNeg)))) X 8 1 rfl rfl hC.1 (set_wM_L0 h cI cL cZ σ4 _) d_Mo_shorten_89 ?_
          refine gj_topw (wof := (wM h cI cL cZ)) (fun σ6 eσ6 => ?_)
          have hC := hC.2 σ6 eσ6
          obtain ⟨v7, ev7⟩ : ∃ y : Int32, y = v_2 + 1 := ⟨_, rfl⟩
          have hC := hC v7 ev7
          refine gj_iinc (v := v7) (L' := [(2, .int v7), (3, .long r5), (0, .ref (h 0)), (1, .int v_1)]) X d_Mo_shorten_90 3 rfl (by rw [ev7]; rfl) (by decide) rfl ?_
          refine gj_goto (tgt := 33) X d_Mo_shorten_93 (by decide) ?_
          exact gj_loc [2, 3, 0] rfl hC
        · have hC := hC.2 c0
          refine gj_lload_n X d_Mo_shorten_74 rfl 0 rfl ?_
          refine gj_goto (tgt := 89) X d_Mo_shorten_75 (by decide) ?_
          refine gj_last (w' := (wM h cI cL cZ) (gs_L σ4 0 (vp_updL (σ4.2.2 0) (σ4.2.1 0 v_2.toNatClampNeg).toNatClampNeg r5))) X 8 1 rfl rfl hC.1 (set_wM_L0 h cI cL cZ σ4 _) d_Mo_shorten_89 ?_
          refine gj_topw (wof := (wM h cI cL cZ)) (fun σ8 eσ8 => ?_)
          have hC := hC.2 σ8 eσ8
          obtain ⟨v9, ev9⟩ : ∃ y : Int32, y = v_2 + 1 := ⟨_, rfl⟩
          have hC := hC v9 ev9
          refine gj_iinc (v := v9) (L' := [(2, .int v9), (3, .long r5), (0, .ref (h 0)), (1, .int v_1)]) X d_Mo_shorten_90 3 rfl (by rw [ev9]; rfl) (by decide) rfl ?_
          refine gj_goto (tgt := 33) X d_Mo_shorten_93 (by decide) ?_
          exact gj_loc [2, 3, 0] rfl hC)
  refine gj_iconst (v := 0) X d_Mo_shorten_0 (by decide) ?_
  refine gj_istore_n (L' := [(1, .int (0 : Int32)), (0, .ref (h 0))]) X d_Mo_shorten_1 rfl (by decide) rfl ?_
  exact gj_loc [1, 0] rfl hC
