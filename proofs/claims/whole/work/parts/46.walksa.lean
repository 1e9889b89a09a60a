abbrev rm_Gl_symbol : Room := { frames := 0, cells := 0, slots := 0, locals := 0 }
set_option maxHeartbeats 4000000 in
set_option maxRecDepth 100000 in
theorem c_Gl_symbol (l : Launch) (dC : Nat → ClassId) (dI : Nat → Nat → Nat) (h : Nat → Nat) (cI cL cZ : ClassId) (σ : gs_St) (a0 : Int32) (K : Int32 → gs_St → Prop) (hC : C_Gl_symbol a0 σ K) : gj_MI l y_Gl_symbol (gj_ws y_Gl_symbol b_Gl_symbol 2 (some .int)) rm_Gl_symbol (dC, dI) gs_C (gs_T cI cL cZ) ((wG h cI cL) σ) (wG h cI cL) [.ref (h 0), .int a0] K := by
  refine gj_enterI (by decide) (Nat.le_of_ble_eq_true rfl) (fun p e s m args below meth c A X hr hlk hA hnm => ?_)
  change gj_J p l e rm_Gl_symbol s m args below meth c 0 0 (MQ below (va_Qi K (gj_at (dC, dI) gs_C (gs_T cI cL cZ) (wG h cI cL) A) A) args s 0 0 A) (dC, dI) gs_C A 2 0 [(0, .ref (h 0)), (1, .int a0)] [] ((wG h cI cL) σ)
  refine gj_iload_n X d_Gl_symbol_0 rfl 1 rfl ?_
  refine gj_if_lt (tgt := 19) X d_Gl_symbol_1 (by decide) (fun c0 => ?_) (fun c0 => ?_)
  · have hC := hC.1 c0
    refine gj_iconst (v := -1) X d_Gl_symbol_19 (by decide) ?_
    exact gj_iret X hr hlk hC d_Gl_symbol_20
  · have hC := hC.2 c0
    refine gj_iload_n X d_Gl_symbol_4 rfl 1 rfl ?_
    refine gj_bipush (v := 24) X d_Gl_symbol_5 (by decide) ?_
    refine gj_icmp_ge (tgt := 19) X d_Gl_symbol_7 (by decide) (fun c0 => ?_) (fun c0 => ?_)
    · have hC := hC.1 c0
      refine gj_iconst (v := -1) X d_Gl_symbol_19 (by decide) ?_
      exact gj_iret X hr hlk hC d_Gl_symbol_20
    · have hC := hC.2 c0
      refine gj_aload_n X d_Gl_symbol_10 rfl 0 rfl ?_
      refine gj_get X inX8 0 rfl rfl 1 (by decide) tw_209 rfl rfl d_Gl_symbol_11 ?_
      refine gj_bipush (v := 6) X d_Gl_symbol_14 (by decide) ?_
      refine gj_icmp_lt (tgt := 21) X d_Gl_symbol_16 (by decide) (fun c0 => ?_) (fun c0 => ?_)
      · have hC := hC.1 c0
        refine gj_aload_n X d_Gl_symbol_21 rfl 0 rfl ?_
        refine gj_get X inX8 0 rfl rfl 0 (by decide) tw_208 rfl rfl d_Gl_symbol_22 ?_
        refine gj_aload_n X d_Gl_symbol_25 rfl 0 rfl ?_
        refine gj_get X inX8 0 rfl rfl 1 (by decide) tw_209 rfl rfl d_Gl_symbol_26 ?_
        refine gj_iload_n X d_Gl_symbol_29 rfl 1 rfl ?_
        refine gj_iast (w' := (wG h cI cL) (gs_A σ 0 (upd (σ.2.1 0) (σ.1 0).toNatClampNeg a0))) X 1 0 rfl rfl hC.1 (set_wG_A0 h cI cL σ _) d_Gl_symbol_30 ?_
        refine gj_topw (wof := (wG h cI cL)) (fun σ1 eσ1 => ?_)
        have hC := hC.2 σ1 eσ1
        refine gj_aload_n X d_Gl_symbol_31 rfl 0 rfl ?_
        refine gj_dup X d_Gl_symbol_32 rfl ?_
        refine gj_get X inX8 0 rfl rfl 1 (by decide) tw_209 rfl rfl d_Gl_symbol_33 ?_
        refine gj_iconst (v := 1) X d_Gl_symbol_36 (by decide) ?_
        refine gj_iadd X d_Gl_symbol_37 ?_
        refine gj_put (w' := (wG h cI cL) (gs_I σ1 0 ((σ1.1 0) + (1 : Int32)))) X inX8 tyX8 tyX8_ok nmX8 0 rfl rfl 1 (by decide) tw_209 rfl rfl (tyX8_ok 1 (by decide)) rfl rfl (Nat.le_of_ble_eq_true rfl) (set_wG_I0 h cI cL σ1 _) d_Gl_symbol_38 ?_
        refine gj_topw (wof := (wG h cI cL)) (fun σ2 eσ2 => ?_)
        have hC := hC σ2 eσ2
        refine gj_aload_n X d_Gl_symbol_41 rfl 0 rfl ?_
        refine gj_get X inX8 0 rfl rfl 1 (by decide) tw_209 rfl rfl d_Gl_symbol_42 ?_
        exact gj_iret X hr hlk hC d_Gl_symbol_45
      · have hC := hC.2 c0
        refine gj_iconst (v := -1) X d_Gl_symbol_19 (by decide) ?_
        exact gj_iret X hr hlk hC d_Gl_symbol_20
abbrev rm_Gl_isNonterminal : Room := { frames := 0, cells := 0, slots := 0, locals := 0 }
set_option maxHeartbeats 4000000 in
set_option maxRecDepth 100000 in
theorem c_Gl_isNonterminal (l : Launch) (dC : Nat → ClassId) (dI : Nat → Nat → Nat) (h : Nat → Nat) (cI cL cZ : ClassId) (σ : gs_St) (a0 : Int32) (K : Int32 → gs_St → Prop) (hC : C_Gl_isNonterminal a0 σ K) : gj_MI l y_Gl_isNonterminal (gj_ws y_Gl_isNonterminal b_Gl_isNonterminal 1 (some .boolean)) rm_Gl_isNonterminal (dC, dI) gs_C (gs_T cI cL cZ) ((wG h cI cL) σ) (wG h cI cL) [.int a0] (fun r u => K r u ∧ (r = 0 ∨ r = 1)) := by
  refine gj_enterZ (by decide) (Nat.le_of_ble_eq_true rfl) (fun p e s m args below meth c A X hr hlk hA hnm => ?_)
  change gj_J p l e rm_Gl_isNonterminal s m args below meth c 0 0 (MQ below (va_Qi (fun r u => K r u ∧ (r = 0 ∨ r = 1)) (gj_at (dC, dI) gs_C (gs_T cI cL cZ) (wG h cI cL) A) A) args s 0 0 A) (dC, dI) gs_C A 1 0 [(0, .int a0)] [] ((wG h cI cL) σ)
  refine gj_iload_n X d_Gl_isNonterminal_0 rfl 0 rfl ?_
  refine gj_if_lt (tgt := 14) X d_Gl_isNonterminal_1 (by decide) (fun c0 => ?_) (fun c0 => ?_)
  · have hC := hC.1 c0
    refine gj_iconst (v := 0) X d_Gl_isNonterminal_14 (by decide) ?_
    exact gj_zret X hr hlk (by decide) ⟨hC, Or.inl rfl⟩ d_Gl_isNonterminal_15
  · have hC := hC.2 c0
    refine gj_iload_n X d_Gl_isNonterminal_4 rfl 0 rfl ?_
    refine gj_bipush (v := 8) X d_Gl_isNonterminal_5 (by decide) ?_
    refine gj_icmp_ge (tgt := 14) X d_Gl_isNonterminal_7 (by decide) (fun c0 => ?_) (fun c0 => ?_)
    · have hC := hC.1 c0
      refine gj_iconst (v := 0) X d_Gl_isNonterminal_14 (by decide) ?_
      exact gj_zret X hr hlk (by decide) ⟨hC, Or.inl rfl⟩ d_Gl_isNonterminal_15
    · have hC := hC.2 c0
      refine gj_iconst (v := 1) X d_Gl_isNonterminal_10 (by decide) ?_
      refine gj_goto (tgt := 15) X d_Gl_isNonterminal_11 (by decide) ?_
      exact gj_zret X hr hlk (by decide) ⟨hC, Or.inr rfl⟩ d_Gl_isNonterminal_15
abbrev rm_Gr_add_1 : Room := { frames := 1, cells := 0, slots := 0, locals := 18 }
set_option maxHeartbeats 4000000 in
set_option maxRecDepth 100000 in
theorem c_Gr_add_1 (l : Launch) (dC : Nat → ClassId) (dI : Nat → Nat → Nat) (h : Nat → Nat) (cI cL cZ : ClassId) (σ : gs_St) (a0 : Int32) (a2 : Int32) (K : Int32 → gs_St → Prop) (hC : C_Gr_add_1 a0 a2 σ K) : gj_MI l y_Gr_add (gj_ws y_Gr_add b_Gr_add 4 (some .int)) rm_Gr_add_1 (dC, dI) gs_C (gs_T cI cL cZ) ((wG h cI cL) σ) (wG h cI cL) [.ref (h 2), .int a0, .ref (h 1), .int a2] K := by
  refine gj_enterI (by decide) (Nat.le_of_ble_eq_true rfl) (fun p e s m args below meth c A X hr hlk hA hnm => ?_)
  change gj_J p l e rm_Gr_add_1 s m args below meth c 0 0 (MQ below (va_Qi K (gj_at (dC, dI) gs_C (gs_T cI cL cZ) (wG h cI cL) A) A) args s 0 0 A) (dC, dI) gs_C A 4 0 [(0, .ref (h 2)), (1, .int a0), (2, .ref (h 1)), (3, .int a2)] [] ((wG h cI cL) σ)
  refine gj_aload_n X d_Gr_add_0 rfl 0 rfl ?_
  refine gj_get X inX2 2 rfl rfl 0 (by decide) tw_28 rfl rfl d_Gr_add_1 ?_
  refine gj_aload_n X d_Gr_add_4 rfl 0 rfl ?_
  refine gj_get X inX2 2 rfl rfl 3 (by decide) tw_31 rfl rfl d_Gr_add_5 ?_
  refine gj_iload_n X d_Gr_add_8 rfl 1 rfl ?_
  refine gj_iast (w' := (wG h cI cL) (gs_A σ 1 (upd (σ.2.1 1) (σ.1 2).toNatClampNeg a0))) X 3 0 rfl rfl hC.1 (set_wG_A1 h cI cL σ _) d_Gr_add_9 ?_
  refine gj_topw (wof := (wG h cI cL)) (fun σ1 eσ1 => ?_)
  have hC := hC.2 σ1 eσ1
  refine gj_aload_n X d_Gr_add_10 rfl 0 rfl ?_
  refine gj_get X inX2 2 rfl rfl 1 (by decide) tw_29 rfl rfl d_Gr_add_11 ?_
  refine gj_aload_n X d_Gr_add_14 rfl 0 rfl ?_
  refine gj_get X inX2 2 rfl rfl 3 (by decide) tw_31 rfl rfl d_Gr_add_15 ?_
  refine gj_iload_n X d_Gr_add_18 rfl 3 rfl ?_
  refine gj_iast (w' := (wG h cI cL) (gs_A σ1 2 (upd (σ1.2.1 2) (σ1.1 2).toNatClampNeg a2))) X 4 0 rfl rfl hC.1 (set_wG_A2 h cI cL σ1 _) d_Gr_add_19 ?_
  refine gj_topw (wof := (wG h cI cL)) (fun σ2 eσ2 => ?_)
  have hC := hC.2 σ2 eσ2
  refine gj_aload_n X d_Gr_add_20 rfl 2 rfl ?_
  refine gj_iconst (v := 0) X d_Gr_add_21 (by decide) ?_
  refine gj_aload_n X d_Gr_add_22 rfl 0 rfl ?_
  refine gj_get X inX2 2 rfl rfl 2 (by decide) tw_30 rfl rfl d_Gr_add_23 ?_
  refine gj_aload_n X d_Gr_add_26 rfl 0 rfl ?_
  refine gj_get X inX2 2 rfl rfl 3 (by decide) tw_31 rfl rfl d_Gr_add_27 ?_
  refine gj_bipush (v := 6) X d_Gr_add_30 (by decide) ?_
  refine gj_imul X d_Gr_add_32 ?_
  refine gj_iload_n X d_Gr_add_33 rfl 3 rfl ?_
  refine gj_copyi (w' := (wG h cI cL) (gs_A σ2 3 (va_cpy (σ2.2.1 0) (σ2.2.1 3) (0 : Int32).toNatClampNeg ((σ2.1 2) * (6 : Int32)).toNatClampNeg a2.toNatClampNeg))) X tw_254 tw_256 tw_255 tw_11 1 5 0 0 rfl rfl rfl rfl hC.1 hC.2.1 hC.2.2.1 hC.2.2.2.1 hC.2.2.2.2.1 (Nat.le_of_ble_eq_true rfl) (Nat.le_of_ble_eq_true rfl) (set_wG_A3 h cI cL σ2 _) d_Gr_add_34 ?_
  refine gj_topw (wof := (wG h cI cL)) (fun σ3 eσ3 => ?_)
  have hC := hC.2.2.2.2.2 σ3 eσ3
  refine gj_aload_n X d_Gr_add_37 rfl 0 rfl ?_
  refine gj_dup X d_Gr_add_38 rfl ?_
  refine gj_get X inX2 2 rfl rfl 3 (by decide) tw_31 rfl rfl d_Gr_add_39 ?_
  refine gj_iconst (v := 1) X d_Gr_add_42 (by decide) ?_
  refine gj_iadd X d_Gr_add_43 ?_
  refine gj_put (w' := (wG h cI cL) (gs_I σ3 2 ((σ3.1 2) + (1 : Int32)))) X inX2 tyX2 tyX2_ok nmX2 2 rfl rfl 3 (by decide) tw_31 rfl rfl (tyX2_ok 3 (by decide)) rfl rfl (Nat.le_of_ble_eq_true rfl) (set_wG_I2 h cI cL σ3 _) d_Gr_add_44 ?_
  refine gj_topw (wof := (wG h cI cL)) (fun σ4 eσ4 => ?_)
  have hC := hC σ4 eσ4
  refine gj_aload_n X d_Gr_add_47 rfl 0 rfl ?_
  refine gj_get X inX2 2 rfl rfl 3 (by decide) tw_31 rfl rfl d_Gr_add_48 ?_
  refine gj_iconst (v := 1) X d_Gr_add_51 (by decide) ?_
  refine gj_isub X d_Gr_add_52 ?_
  exact gj_iret X hr hlk hC d_Gr_add_53
abbrev rm_Gl_rule : Room := { frames := 2, cells := 0, slots := 0, locals := 41 }
set_option maxHeartbeats 4000000 in
set_option maxRecDepth 100000 in
theorem c_Gl_rule (l : Launch) (dC : Nat → ClassId) (dI : Nat → Nat → Nat) (h : Nat → Nat) (cI cL cZ : ClassId) (σ : gs_St) (a0 : Int32) (K : Int32 → gs_St → Prop) (hC : C_Gl_rule a0 σ K) : gj_MI l y_Gl_rule (gj_ws y_Gl_rule b_Gl_rule 3 (some .int)) rm_Gl_rule (dC, dI) gs_C (gs_T cI cL cZ) ((wG h cI cL) σ) (wG h cI cL) [.ref (h 0), .int a0] K := by
  refine gj_enterI (by decide) (Nat.le_of_ble_eq_true rfl) (fun p e s m args below meth c A X hr hlk hA hnm => ?_)
  change gj_J p l e rm_Gl_rule s m args below meth c 0 0 (MQ below (va_Qi K (gj_at (dC, dI) gs_C (gs_T cI cL cZ) (wG h cI cL) A) A) args s 0 0 A) (dC, dI) gs_C A 3 0 [(0, .ref (h 0)), (1, .int a0)] [] ((wG h cI cL) σ)
  refine gj_aload_n X d_Gl_rule_0 rfl 0 rfl ?_
  refine gj_get X inX8 0 rfl rfl 1 (by decide) tw_209 rfl rfl d_Gl_rule_1 ?_
  refine gj_topi (fun v1 ev1 => ?_)
  have hC := hC v1 ev1
  refine gj_istore_n (L' := [(2, .int v1), (0, .ref (h 0)), (1, .int a0)]) X d_Gl_rule_4 rfl (by decide) rfl ?_
  refine gj_aload_n X d_Gl_rule_5 rfl 1 rfl ?_
  refine gj_iconst (v := 0) X d_Gl_rule_6 (by decide) ?_
  refine gj_put (w' := (wG h cI cL) (gs_I σ 0 (0 : Int32))) X inX8 tyX8 tyX8_ok nmX8 0 rfl rfl 1 (by decide) tw_209 rfl rfl (tyX8_ok 1 (by decide)) rfl rfl (Nat.le_of_ble_eq_true rfl) (set_wG_I0 h cI cL σ _) d_Gl_rule_7 ?_
  refine gj_topw (wof := (wG h cI cL)) (fun σ2 eσ2 => ?_)
  have hC := hC σ2 eσ2
  refine gj_iload_n X d_Gl_rule_10 rfl 2 rfl ?_
  refine gj_callSI (As := [.int a0]) (st := []) X (c_Gl_isNonterminal l dC dI h cI cL cZ σ2 a0 _ hC) ⟨gj_cwB X tw_249 tw_1 tw_247 hd_Gl_isNonterminal rfl rfl ⟨Nat.le_of_ble_eq_true rfl, Nat.le_of_ble_eq_true rfl⟩, X.2.2.2.2.1 _ tw_248⟩ hA rfl (Nat.le_of_ble_eq_true rfl) ⟨Nat.zero_le _, Nat.zero_le _⟩ d_Gl_rule_11 rfl (fun r4 σ3 hC => ?_)
  obtain ⟨hC, hb⟩ := hC
  refine gj_if_eq (tgt := 29) X d_Gl_rule_14 (by decide) (fun c0 => ?_) (fun c0 => ?_)
  · have hC := hC.1 c0
    refine gj_iconst (v := -1) X d_Gl_rule_29 (by decide) ?_
    exact gj_iret X hr hlk hC d_Gl_rule_30
  · have hC := hC.2 c0
    refine gj_aload_n X d_Gl_rule_17 rfl 1 rfl ?_
    refine gj_get X inX8 0 rfl rfl 2 (by decide) tw_210 rfl rfl d_Gl_rule_18 ?_
    refine gj_getN X inX2 2 rfl rfl 3 (by decide) tn_32 rfl rfl d_Gl_rule_21 ?_
    refine gj_bipush (v := 24) X d_Gl_rule_24 (by decide) ?_
    refine gj_icmp_lt (tgt := 31) X d_Gl_rule_26 (by decide) (fun c0 => ?_) (fun c0 => ?_)
    · have hC := hC.1 c0
      refine gj_aload_n X d_Gl_rule_31 rfl 1 rfl ?_
      refine gj_iconst (v := 0) X d_Gl_rule_32 (by decide) ?_
      refine gj_put (w' := (wG h cI cL) (gs_I σ3 1 (0 : Int32))) X inX8 tyX8 tyX8_ok nmX8 0 rfl rfl 9 (by decide) tw_217 rfl rfl (tyX8_ok 9 (by decide)) rfl rfl (Nat.le_of_ble_eq_true rfl) (set_wG_I1 h cI cL σ3 _) d_Gl_rule_33 ?_
      refine gj_topw (wof := (wG h cI cL)) (fun σ5 eσ5 => ?_)
      have hC := hC σ5 eσ5
      refine gj_aload_n X d_Gl_rule_36 rfl 1 rfl ?_
      refine gj_get X inX8 0 rfl rfl 2 (by decide) tw_210 rfl rfl d_Gl_rule_37 ?_
      refine gj_iload_n X d_Gl_rule_40 rfl 2 rfl ?_
      refine gj_aload_n X d_Gl_rule_41 rfl 1 rfl ?_
      refine gj_get X inX8 0 rfl rfl 0 (by decide) tw_208 rfl rfl d_Gl_rule_42 ?_
      refine gj_iload_n X d_Gl_rule_45 rfl 0 rfl ?_
      refine gj_callVI (As := [.int a0, .ref (h 1), .int v1]) (st := []) X (c_Gr_add_1 l dC dI h cI cL cZ σ5 a0 v1 _ hC) ⟨gj_cwB X tw_253 tw_2 tw_250 hd_Gr_add rfl rfl ⟨Nat.le_of_ble_eq_true rfl, Nat.le_of_ble_eq_true rfl⟩, X.2.2.2.2.1 _ tw_251, X.2.2.2.2.1 _ tw_252⟩ 2 rfl rfl hA rfl (Nat.le_of_ble_eq_true rfl) ⟨Nat.zero_le _, Nat.zero_le _⟩ d_Gl_rule_46 rfl (fun r7 σ6 hC => ?_)
      exact gj_iret X hr hlk hC d_Gl_rule_49
    · have hC := hC.2 c0
      refine gj_iconst (v := -1) X d_Gl_rule_29 (by decide) ?_
      exact gj_iret X hr hlk hC d_Gl_rule_30
abbrev rm_Gr_has : Room := { frames := 0, cells := 0, slots := 0, locals := 0 }
set_option maxHeartbeats 4000000 in
set_option maxRecDepth 100000 in
theorem c_Gr_has (l : Launch) (dC : Nat → ClassId) (dI : Nat → Nat → Nat) (h : Nat → Nat) (cI cL cZ : ClassId) (σ : gs_St) (a0 : Int32) (K : Int32 → gs_St → Prop) (hC : C_Gr_has a0 σ K) : gj_MI l y_Gr_has (gj_ws y_Gr_has b_Gr_has 2 (some .boolean)) rm_Gr_has (dC, dI) gs_C (gs_T cI cL cZ) ((wG h cI cL) σ) (wG h cI cL) [.ref (h 2), .int a0] (fun r u => K r u ∧ (r = 0 ∨ r = 1)) := by
  refine gj_enterZ (by decide) (Nat.le_of_ble_eq_true rfl) (fun p e s m args below meth c A X hr hlk hA hnm => ?_)
  change gj_J p l e rm_Gr_has s m args below meth c 0 0 (MQ below (va_Qi (fun r u => K r u ∧ (r = 0 ∨ r = 1)) (gj_at (dC, dI) gs_C (gs_T cI cL cZ) (wG h cI cL) A) A) args s 0 0 A) (dC, dI) gs_C A 2 0 [(0, .ref (h 2)), (1, .int a0)] [] ((wG h cI cL) σ)
  refine gj_iload_n X d_Gr_has_0 rfl 1 rfl ?_
  refine gj_if_lt (tgt := 16) X d_Gr_has_1 (by decide) (fun c0 => ?_) (fun c0 => ?_)
  · have hC := hC.1 c0
    refine gj_iconst (v := 0) X d_Gr_has_16 (by decide) ?_
    exact gj_zret X hr hlk (by decide) ⟨hC, Or.inl rfl⟩ d_Gr_has_17
  · have hC := hC.2 c0
    refine gj_iload_n X d_Gr_has_4 rfl 1 rfl ?_
    refine gj_aload_n X d_Gr_has_5 rfl 0 rfl ?_
    refine gj_get X inX2 2 rfl rfl 3 (by decide) tw_31 rfl rfl d_Gr_has_6 ?_
    refine gj_icmp_ge (tgt := 16) X d_Gr_has_9 (by decide) (fun c0 => ?_) (fun c0 => ?_)
    · have hC := hC.1 c0
      refine gj_iconst (v := 0) X d_Gr_has_16 (by decide) ?_
      exact gj_zret X hr hlk (by decide) ⟨hC, Or.inl rfl⟩ d_Gr_has_17
    · have hC := hC.2 c0
      refine gj_iconst (v := 1) X d_Gr_has_12 (by decide) ?_
      refine gj_goto (tgt := 17) X d_Gr_has_13 (by decide) ?_
      exact gj_zret X hr hlk (by decide) ⟨hC, Or.inr rfl⟩ d_Gr_has_17
abbrev rm_Gr_remove : Room := { frames := 1, cells := 0, slots := 0, locals := 18 }
set_option maxHeartbeats 4000000 in
set_option maxRecDepth 100000 in
theorem c_Gr_remove (l : Launch) (dC : Nat → ClassId) (dI : Nat → Nat → Nat) (h : Nat → Nat) (cI cL cZ : ClassId) (σ : gs_St) (a0 : Int32) (K : gs_St → Prop) (hC : C_Gr_remove a0 σ K) : gj_MV 0 0 l y_Gr_remove (gj_ws y_Gr_remove b_Gr_remove 4 (none)) rm_Gr_remove (dC, dI) gs_C (gs_T cI cL cZ) ((wG h cI cL) σ) (wG h cI cL) [.ref (h 2), .int a0] K := by
  refine gj_enterV (by decide) (Nat.le_of_ble_eq_true rfl) (fun p e s m args below meth c A X hr hlk hA hnm => ?_)
  change gj_J p l e rm_Gr_remove s m args below meth c 0 0 (MQ below (va_Qv K (gj_at (dC, dI) gs_C (gs_T cI cL cZ) (wG h cI cL) A) A) args s 0 0 A) (dC, dI) gs_C A 4 0 [(0, .ref (h 2)), (1, .int a0)] [] ((wG h cI cL) σ)
  refine gj_iload_n X d_Gr_remove_0 rfl 1 rfl ?_
  refine gj_iconst (v := 1) X d_Gr_remove_1 (by decide) ?_
  refine gj_iadd X d_Gr_remove_2 ?_
  refine gj_topi (fun v1 ev1 => ?_)
  have hC := hC v1 ev1
  refine gj_istore_n (L' := [(2, .int v1), (0, .ref (h 2)), (1, .int a0)]) X d_Gr_remove_3 rfl (by decide) rfl ?_
  refine gj_aload_n X d_Gr_remove_4 rfl 1 rfl ?_
  refine gj_get X inX2 2 rfl rfl 3 (by decide) tw_31 rfl rfl d_Gr_remove_5 ?_
  refine gj_iload_n X d_Gr_remove_8 rfl 0 rfl ?_
  refine gj_isub X d_Gr_remove_9 ?_
  refine gj_topi (fun v2 ev2 => ?_)
  have hC := hC v2 ev2
  refine gj_istore_n (L' := [(3, .int v2), (2, .int v1), (0, .ref (h 2)), (1, .int a0)]) X d_Gr_remove_10 rfl (by decide) rfl ?_
  refine gj_aload_n X d_Gr_remove_11 rfl 2 rfl ?_
  refine gj_get X inX2 2 rfl rfl 0 (by decide) tw_28 rfl rfl d_Gr_remove_12 ?_
  refine gj_iload_n X d_Gr_remove_15 rfl 1 rfl ?_
  refine gj_aload_n X d_Gr_remove_16 rfl 2 rfl ?_
  refine gj_get X inX2 2 rfl rfl 0 (by decide) tw_28 rfl rfl d_Gr_remove_17 ?_
  refine gj_iload_n X d_Gr_remove_20 rfl 3 rfl ?_
  refine gj_iload_n X d_Gr_remove_21 rfl 0 rfl ?_
  refine gj_copyi (w' := (wG h cI cL) (gs_A σ 1 (va_cpy (σ.2.1 1) (σ.2.1 1) v1.toNatClampNeg a0.toNatClampNeg v2.toNatClampNeg))) X tw_254 tw_256 tw_255 tw_11 3 3 0 0 rfl rfl rfl rfl hC.1 hC.2.1 hC.2.2.1 hC.2.2.2.1 hC.2.2.2.2.1 (Nat.le_of_ble_eq_true rfl) (Nat.le_of_ble_eq_true rfl) (set_wG_A1 h cI cL σ _) d_Gr_remove_22 ?_
  refine gj_topw (wof := (wG h cI cL)) (fun σ3 eσ3 => ?_)
  have hC := hC.2.2.2.2.2 σ3 eσ3
  refine gj_aload_n X d_Gr_remove_25 rfl 2 rfl ?_
  refine gj_get X inX2 2 rfl rfl 1 (by decide) tw_29 rfl rfl d_Gr_remove_26 ?_
  refine gj_iload_n X d_Gr_remove_29 rfl 1 rfl ?_
  refine gj_aload_n X d_Gr_remove_30 rfl 2 rfl ?_
  refine gj_get X inX2 2 rfl rfl 1 (by decide) tw_29 rfl rfl d_Gr_remove_31 ?_
  refine gj_iload_n X d_Gr_remove_34 rfl 3 rfl ?_
  refine gj_iload_n X d_Gr_remove_35 rfl 0 rfl ?_
  refine gj_copyi (w' := (wG h cI cL) (gs_A σ3 2 (va_cpy (σ3.2.1 2) (σ3.2.1 2) v1.toNatClampNeg a0.toNatClampNeg v2.toNatClampNeg))) X tw_254 tw_256 tw_255 tw_11 4 4 0 0 rfl rfl rfl rfl hC.1 hC.2.1 hC.2.2.1 hC.2.2.2.1 hC.2.2.2.2.1 (Nat.le_of_ble_eq_true rfl) (Nat.le_of_ble_eq_true rfl) (set_wG_A2 h cI cL σ3 _) d_Gr_remove_36 ?_
  refine gj_topw (wof := (wG h cI cL)) (fun σ4 eσ4 => ?_)
  have hC := hC.2.2.2.2.2 σ4 eσ4
  refine gj_aload_n X d_Gr_remove_39 rfl 2 rfl ?_
  refine gj_get X inX2 2 rfl rfl 2 (by decide) tw_30 rfl rfl d_Gr_remove_40 ?_
  refine gj_iload_n X d_Gr_remove_43 rfl 1 rfl ?_
  refine gj_bipush (v := 6) X d_Gr_remove_44 (by decide) ?_
  refine gj_imul X d_Gr_remove_46 ?_
  refine gj_aload_n X d_Gr_remove_47 rfl 2 rfl ?_
  refine gj_get X inX2 2 rfl rfl 2 (by decide) tw_30 rfl rfl d_Gr_remove_48 ?_
  refine gj_iload_n X d_Gr_remove_51 rfl 3 rfl ?_
  refine gj_bipush (v := 6) X d_Gr_remove_52 (by decide) ?_
  refine gj_imul X d_Gr_remove_54 ?_
  refine gj_iload_n X d_Gr_remove_55 rfl 0 rfl ?_
  refine gj_bipush (v := 6) X d_Gr_remove_56 (by decide) ?_
  refine gj_imul X d_Gr_remove_58 ?_
  refine gj_copyi (w' := (wG h cI cL) (gs_A σ4 3 (va_cpy (σ4.2.1 3) (σ4.2.1 3) (v1 * (6 : Int32)).toNatClampNeg (a0 * (6 : Int32)).toNatClampNeg (v2 * (6 : Int32)).toNatClampNeg))) X tw_254 tw_256 tw_255 tw_11 5 5 0 0 rfl rfl rfl rfl hC.1 hC.2.1 hC.2.2.1 hC.2.2.2.1 hC.2.2.2.2.1 (Nat.le_of_ble_eq_true rfl) (Nat.le_of_ble_eq_true rfl) (set_wG_A3 h cI cL σ4 _) d_Gr_remove_59 ?_
  refine gj_topw (wof := (wG h cI cL)) (fun σ5 eσ5 => ?_)
  have hC := hC.2.2.2.2.2 σ5 eσ5
  refine gj_aload_n X d_Gr_remove_62 rfl 2 rfl ?_
  refine gj_dup X d_Gr_remove_63 rfl ?_
  refine gj_get X inX2 2 rfl rfl 3 (by decide) tw_31 rfl rfl d_Gr_remove_64 ?_
  refine gj_iconst (v := 1) X d_Gr_remove_67 (by decide) ?_
  refine gj_isub X d_Gr_remove_68 ?_
  refine gj_put (w' := (wG h cI cL) (gs_I σ5 2 ((σ5.1 2) - (1 : Int32)))) X inX2 tyX2 tyX2_ok nmX2 2 rfl rfl 3 (by decide) tw_31 rfl rfl (tyX2_ok 3 (by decide)) rfl rfl (Nat.le_of_ble_eq_true rfl) (set_wG_I2 h cI cL σ5 _) d_Gr_remove_69 ?_
  refine gj_topw (wof := (wG h cI cL)) (fun σ6 eσ6 => ?_)
  have hC := hC σ6 eσ6
  exact gj_vret X hr hlk hC d_Gr_remove_72
abbrev rm_Gl_drop : Room := { frames := 2, cells := 0, slots := 0, locals := 41 }
set_option maxHeartbeats 4000000 in
set_option maxRecDepth 100000 in
theorem c_Gl_drop (l : Launch) (dC : Nat → ClassId) (dI : Nat → Nat → Nat) (h : Nat → Nat) (cI cL cZ : ClassId) (σ : gs_St) (a0 : Int32) (K : Int32 → gs_St → Prop) (hC : C_Gl_drop a0 σ K) : gj_MI l y_Gl_drop (gj_ws y_Gl_drop b_Gl_drop 2 (some .boolean)) rm_Gl_drop (dC, dI) gs_C (gs_T cI cL cZ) ((wG h cI cL) σ) (wG h cI cL) [.ref (h 0), .int a0] (fun r u => K r u ∧ (r = 0 ∨ r = 1)) := by
  refine gj_enterZ (by decide) (Nat.le_of_ble_eq_true rfl) (fun p e s m args below meth c A X hr hlk hA hnm => ?_)
  change gj_J p l e rm_Gl_drop s m args below meth c 0 0 (MQ below (va_Qi (fun r u => K r u ∧ (r = 0 ∨ r = 1)) (gj_at (dC, dI) gs_C (gs_T cI cL cZ) (wG h cI cL) A) A) args s 0 0 A) (dC, dI) gs_C A 2 0 [(0, .ref (h 0)), (1, .int a0)] [] ((wG h cI cL) σ)
  refine gj_aload_n X d_Gl_drop_0 rfl 0 rfl ?_
  refine gj_get X inX8 0 rfl rfl 2 (by decide) tw_210 rfl rfl d_Gl_drop_1 ?_
  refine gj_iload_n X d_Gl_drop_4 rfl 1 rfl ?_
  refine gj_callVI (As := [.int a0]) (st := []) X (c_Gr_has l dC dI h cI cL cZ σ a0 _ hC) ⟨gj_cwB X tw_264 tw_2 tw_261 hd_Gr_has rfl rfl ⟨Nat.le_of_ble_eq_true rfl, Nat.le_of_ble_eq_true rfl⟩, X.2.2.2.2.1 _ tw_262, X.2.2.2.2.1 _ tw_263⟩ 2 rfl rfl hA rfl (Nat.le_of_ble_eq_true rfl) ⟨Nat.zero_le _, Nat.zero_le _⟩ d_Gl_drop_5 rfl (fun r2 σ1 hC => ?_)
  obtain ⟨hC, hb⟩ := hC
  refine gj_if_ne (tgt := 13) X d_Gl_drop_8 (by decide) (fun c0 => ?_) (fun c0 => ?_)
  · have hC := hC.1 c0
    refine gj_aload_n X d_Gl_drop_13 rfl 0 rfl ?_
    refine gj_iconst (v := 0) X d_Gl_drop_14 (by decide) ?_
    refine gj_put (w' := (wG h cI cL) (gs_I σ1 1 (0 : Int32))) X inX8 tyX8 tyX8_ok nmX8 0 rfl rfl 9 (by decide) tw_217 rfl rfl (tyX8_ok 9 (by decide)) rfl rfl (Nat.le_of_ble_eq_true rfl) (set_wG_I1 h cI cL σ1 _) d_Gl_drop_15 ?_
    refine gj_topw (wof := (wG h cI cL)) (fun σ3 eσ3 => ?_)
    have hC := hC σ3 eσ3
    refine gj_aload_n X d_Gl_drop_18 rfl 0 rfl ?_
    refine gj_get X inX8 0 rfl rfl 2 (by decide) tw_210 rfl rfl d_Gl_drop_19 ?_
    refine gj_iload_n X d_Gl_drop_22 rfl 1 rfl ?_
    refine gj_callVV (As := [.int a0]) (st := []) X (c_Gr_remove l dC dI h cI cL cZ σ3 a0 _ hC) ⟨gj_cwB X tw_268 tw_2 tw_265 hd_Gr_remove rfl rfl ⟨Nat.le_of_ble_eq_true rfl, Nat.le_of_ble_eq_true rfl⟩, X.2.2.2.2.1 _ tw_266, X.2.2.2.2.1 _ tw_267⟩ 2 rfl rfl hA rfl (Nat.le_of_ble_eq_true rfl) ⟨Nat.zero_le _, Nat.zero_le _⟩ d_Gl_drop_23 rfl (fun σ4 hC => ?_)
    refine gj_iconst (v := 1) X d_Gl_drop_26 (by decide) ?_
    exact gj_zret X hr hlk (by decide) ⟨hC, Or.inr rfl⟩ d_Gl_drop_27
  · have hC := hC.2 c0
    refine gj_iconst (v := 0) X d_Gl_drop_11 (by decide) ?_
    exact gj_zret X hr hlk (by decide) ⟨hC, Or.inl rfl⟩ d_Gl_drop_12
abbrev rm_Gl_count : Room := { frames := 0, cells := 0, slots := 0, locals := 0 }
set_option maxHeartbeats 4000000 in
set_option maxRecDepth 100000 in
theorem c_Gl_count (l : Launch) (dC : Nat → ClassId) (dI : Nat → Nat → Nat) (h : Nat → Nat) (cI cL cZ : ClassId) (σ : gs_St) (a0 : Int32) (K : Int32 → gs_St → Prop) (hC : C_Gl_count a0 σ K) : gj_MI l y_Gl_count (gj_ws y_Gl_count b_Gl_count 2 (some .int)) rm_Gl_count (dC, dI) gs_C (gs_T cI cL cZ) ((wG h cI cL) σ) (wG h cI cL) [.ref (h 0), .int a0] K := by
  refine gj_enterI (by decide) (Nat.le_of_ble_eq_true rfl) (fun p e s m args below meth c A X hr hlk hA hnm => ?_)
  change gj_J p l e rm_Gl_count s m args below meth c 0 0 (MQ below (va_Qi K (gj_at (dC, dI) gs_C (gs_T cI cL cZ) (wG h cI cL) A) A) args s 0 0 A) (dC, dI) gs_C A 2 0 [(0, .ref (h 0)), (1, .int a0)] [] ((wG h cI cL) σ)
  refine gj_iload_n X d_Gl_count_0 rfl 1 rfl ?_
  rcases sw_3_0 a0 with c0 | c0 | c0 | c0
  · refine gj_tableIn (tgt := 28) X d_Gl_count_1 (by rw [c0]; decide) (by rw [c0]; decide) (by rw [c0]; rfl) (by decide) ?_
    have hC := hC.1 c0
    refine gj_aload_n X d_Gl_count_28 rfl 0 rfl ?_
    refine gj_get X inX8 0 rfl rfl 2 (by decide) tw_210 rfl rfl d_Gl_count_29 ?_
    refine gj_getN X inX2 2 rfl rfl 3 (by decide) tn_32 rfl rfl d_Gl_count_32 ?_
    exact gj_iret X hr hlk hC d_Gl_count_35
  · refine gj_tableIn (tgt := 36) X d_Gl_count_1 (by rw [c0]; decide) (by rw [c0]; decide) (by rw [c0]; rfl) (by decide) ?_
    have hC := hC.2.1 c0
    refine gj_aload_n X d_Gl_count_36 rfl 0 rfl ?_
    refine gj_get X inX8 0 rfl rfl 1 (by decide) tw_209 rfl rfl d_Gl_count_37 ?_
    exact gj_iret X hr hlk hC d_Gl_count_40
  · refine gj_tableIn (tgt := 41) X d_Gl_count_1 (by rw [c0]; decide) (by rw [c0]; decide) (by rw [c0]; rfl) (by decide) ?_
    have hC := hC.2.2.1 c0
    refine gj_aload_n X d_Gl_count_41 rfl 0 rfl ?_
    refine gj_get X inX8 0 rfl rfl 8 (by decide) tw_216 rfl rfl d_Gl_count_42 ?_
    refine gj_getN X inX5 29 rfl rfl 4 (by decide) tn_196 rfl rfl d_Gl_count_45 ?_
    exact gj_iret X hr hlk hC d_Gl_count_48
  · refine gj_tableOut (tgt := 49) X d_Gl_count_1 c0 (by decide) ?_
    have hC := hC.2.2.2 c0
    refine gj_iconst (v := -1) X d_Gl_count_49 (by decide) ?_
    exact gj_iret X hr hlk hC d_Gl_count_50
abbrev rm_Gr_sizeOf : Room := { frames := 0, cells := 0, slots := 0, locals := 0 }
set_option maxHeartbeats 4000000 in
set_option maxRecDepth 100000 in
theorem c_Gr_sizeOf (l : Launch) (dC : Nat → ClassId) (dI : Nat → Nat → Nat) (h : Nat → Nat) (cI cL cZ : ClassId) (σ : gs_St) (a0 : Int32) (K : Int32 → gs_St → Prop) (hC : C_Gr_sizeOf a0 σ K) : gj_MI l y_Gr_sizeOf (gj_ws y_Gr_sizeOf b_Gr_sizeOf 2 (some .int)) rm_Gr_sizeOf (dC, dI) gs_C (gs_T cI cL cZ) ((wG h cI cL) σ) (wG h cI cL) [.ref (h 2), .int a0] K := by
  refine gj_enterI (by decide) (Nat.le_of_ble_eq_true rfl) (fun p e s m args below meth c A X hr hlk hA hnm => ?_)
  change gj_J p l e rm_Gr_sizeOf s m args below meth c 0 0 (MQ below (va_Qi K (gj_at (dC, dI) gs_C (gs_T cI cL cZ) (wG h cI cL) A) A) args s 0 0 A) (dC, dI) gs_C A 2 0 [(0, .ref (h 2)), (1, .int a0)] [] ((wG h cI cL) σ)
  refine gj_aload_n X d_Gr_sizeOf_0 rfl 0 rfl ?_
  refine gj_get X inX2 2 rfl rfl 1 (by decide) tw_29 rfl rfl d_Gr_sizeOf_1 ?_
  refine gj_iload_n X d_Gr_sizeOf_4 rfl 1 rfl ?_
  refine gj_iald X 4 0 rfl rfl hC.1 d_Gr_sizeOf_5 ?_
  have hC := hC.2
  exact gj_iret X hr hlk hC d_Gr_sizeOf_6
abbrev rm_Gr_symbolAt : Room := { frames := 0, cells := 0, slots := 0, locals := 0 }
set_option maxHeartbeats 4000000 in
set_option maxRecDepth 100000 in
theorem c_Gr_symbolAt (l : Launch) (dC : Nat → ClassId) (dI : Nat → Nat → Nat) (h : Nat → Nat) (cI cL cZ : ClassId) (σ : gs_St) (a0 : Int32) (a1 : Int32) (K : Int32 → gs_St → Prop) (hC : C_Gr_symbolAt a0 a1 σ K) : gj_MI l y_Gr_symbolAt (gj_ws y_Gr_symbolAt b_Gr_symbolAt 3 (some .int)) rm_Gr_symbolAt (dC, dI) gs_C (gs_T cI cL cZ) ((wG h cI cL) σ) (wG h cI cL) [.ref (h 2), .int a0, .int a1] K := by
  refine gj_enterI (by decide) (Nat.le_of_ble_eq_true rfl) (fun p e s m args below meth c A X hr hlk hA hnm => ?_)
  change gj_J p l e rm_Gr_symbolAt s m args below meth c 0 0 (MQ below (va_Qi K (gj_at (dC, dI) gs_C (gs_T cI cL cZ) (wG h cI cL) A) A) args s 0 0 A) (dC, dI) gs_C A 3 0 [(0, .ref (h 2)), (1, .int a0), (2, .int a1)] [] ((wG h cI cL) σ)
  refine gj_aload_n X d_Gr_symbolAt_0 rfl 0 rfl ?_
  refine gj_get X inX2 2 rfl rfl 2 (by decide) tw_30 rfl rfl d_Gr_symbolAt_1 ?_
  refine gj_iload_n X d_Gr_symbolAt_4 rfl 1 rfl ?_
  refine gj_bipush (v := 6) X d_Gr_symbolAt_5 (by decide) ?_
  refine gj_imul X d_Gr_symbolAt_7 ?_
  refine gj_iload_n X d_Gr_symbolAt_8 rfl 2 rfl ?_
  refine gj_iadd X d_Gr_symbolAt_9 ?_
  refine gj_iald X 5 0 rfl rfl hC.1 d_Gr_symbolAt_10 ?_
  have hC := hC.2
  exact gj_iret X hr hlk hC d_Gr_symbolAt_11
abbrev rm_Gr_leftOf : Room := { frames := 0, cells := 0, slots := 0, locals := 0 }
set_option maxHeartbeats 4000000 in
set_option maxRecDepth 100000 in
theorem c_Gr_leftOf (l : Launch) (dC : Nat → ClassId) (dI : Nat → Nat → Nat) (h : Nat → Nat) (cI cL cZ : ClassId) (σ : gs_St) (a0 : Int32) (K : Int32 → gs_St → Prop) (hC : C_Gr_leftOf a0 σ K) : gj_MI l y_Gr_leftOf (gj_ws y_Gr_leftOf b_Gr_leftOf 2 (some .int)) rm_Gr_leftOf (dC, dI) gs_C (gs_T cI cL cZ) ((wG h cI cL) σ) (wG h cI cL) [.ref (h 2), .int a0] K := by
  refine gj_enterI (by decide) (Nat.le_of_ble_eq_true rfl) (fun p e s m args below meth c A X hr hlk hA hnm => ?_)
  change gj_J p l e rm_Gr_leftOf s m args below meth c 0 0 (MQ below (va_Qi K (gj_at (dC, dI) gs_C (gs_T cI cL cZ) (wG h cI cL) A) A) args s 0 0 A) (dC, dI) gs_C A 2 0 [(0, .ref (h 2)), (1, .int a0)] [] ((wG h cI cL) σ)
  refine gj_aload_n X d_Gr_leftOf_0 rfl 0 rfl ?_
  refine gj_get X inX2 2 rfl rfl 0 (by decide) tw_28 rfl rfl d_Gr_leftOf_1 ?_
  refine gj_iload_n X d_Gr_leftOf_4 rfl 1 rfl ?_
  refine gj_iald X 3 0 rfl rfl hC.1 d_Gr_leftOf_5 ?_
  have hC := hC.2
  exact gj_iret X hr hlk hC d_Gr_leftOf_6
abbrev rm_Gl_about : Room := { frames := 1, cells := 0, slots := 0, locals := 22 }
set_option maxHeartbeats 4000000 in
set_option maxRecDepth 100000 in
theorem c_Gl_about (l : Launch) (dC : Nat → ClassId) (dI : Nat → Nat → Nat) (h : Nat → Nat) (cI cL cZ : ClassId) (σ : gs_St) (a0 : Int32) (a1 : Int32) (K : Int32 → gs_St → Prop) (hC : C_Gl_about a0 a1 σ K) : gj_MI l y_Gl_about (gj_ws y_Gl_about b_Gl_about 3 (some .int)) rm_Gl_about (dC, dI) gs_C (gs_T cI cL cZ) ((wG h cI cL) σ) (wG h cI cL) [.ref (h 0), .int a0, .int a1] K := by
  refine gj_enterI (by decide) (Nat.le_of_ble_eq_true rfl) (fun p e s m args below meth c A X hr hlk hA hnm => ?_)
  change gj_J p l e rm_Gl_about s m args below meth c 0 0 (MQ below (va_Qi K (gj_at (dC, dI) gs_C (gs_T cI cL cZ) (wG h cI cL) A) A) args s 0 0 A) (dC, dI) gs_C A 3 0 [(0, .ref (h 0)), (1, .int a0), (2, .int a1)] [] ((wG h cI cL) σ)
  refine gj_aload_n X d_Gl_about_0 rfl 0 rfl ?_
  refine gj_get X inX8 0 rfl rfl 2 (by decide) tw_210 rfl rfl d_Gl_about_1 ?_
  refine gj_iload_n X d_Gl_about_4 rfl 1 rfl ?_
  refine gj_callVI (As := [.int a0]) (st := []) X (c_Gr_has l dC dI h cI cL cZ σ a0 _ hC) ⟨gj_cwB X tw_264 tw_2 tw_261 hd_Gr_has rfl rfl ⟨Nat.le_of_ble_eq_true rfl, Nat.le_of_ble_eq_true rfl⟩, X.2.2.2.2.1 _ tw_262, X.2.2.2.2.1 _ tw_263⟩ 2 rfl rfl hA rfl (Nat.le_of_ble_eq_true rfl) ⟨Nat.zero_le _, Nat.zero_le _⟩ d_Gl_about_5 rfl (fun r2 σ1 hC => ?_)
  obtain ⟨hC, hb⟩ := hC
  refine gj_if_eq (tgt := 28) X d_Gl_about_8 (by decide) (fun c0 => ?_) (fun c0 => ?_)
  · have hC := hC.1 c0
    refine gj_iconst (v := -1) X d_Gl_about_28 (by decide) ?_
    exact gj_iret X hr hlk hC d_Gl_about_29
  · have hC := hC.2 c0
    refine gj_iload_n X d_Gl_about_11 rfl 2 rfl ?_
    refine gj_iconst (v := -1) X d_Gl_about_12 (by decide) ?_
    refine gj_icmp_lt (tgt := 28) X d_Gl_about_13 (by decide) (fun c0 => ?_) (fun c0 => ?_)
    · have hC := hC.1 c0
      refine gj_iconst (v := -1) X d_Gl_about_28 (by decide) ?_
      exact gj_iret X hr hlk hC d_Gl_about_29
    · have hC := hC.2 c0
      refine gj_iload_n X d_Gl_about_16 rfl 2 rfl ?_
      refine gj_aload_n X d_Gl_about_17 rfl 0 rfl ?_
      refine gj_get X inX8 0 rfl rfl 2 (by decide) tw_210 rfl rfl d_Gl_about_18 ?_
      refine gj_iload_n X d_Gl_about_21 rfl 1 rfl ?_
      refine gj_callVI (As := [.int a0]) (st := [.int a1]) X (c_Gr_sizeOf l dC dI h cI cL cZ σ1 a0 _ hC) ⟨gj_cwB X tw_280 tw_2 tw_277 hd_Gr_sizeOf rfl rfl ⟨Nat.le_of_ble_eq_true rfl, Nat.le_of_ble_eq_true rfl⟩, X.2.2.2.2.1 _ tw_278, X.2.2.2.2.1 _ tw_279⟩ 2 rfl rfl hA rfl (Nat.le_of_ble_eq_true rfl) ⟨Nat.zero_le _, Nat.zero_le _⟩ d_Gl_about_22 rfl (fun r4 σ3 hC => ?_)
      refine gj_icmp_lt (tgt := 30) X d_Gl_about_25 (by decide) (fun c0 => ?_) (fun c0 => ?_)
      · have hC := hC.1 c0
        refine gj_iload_n X d_Gl_about_30 rfl 2 rfl ?_
        refine gj_iconst (v := -1) X d_Gl_about_31 (by decide) ?_
        refine gj_icmp_ne (tgt := 46) X d_Gl_about_32 (by decide) (fun c0 => ?_) (fun c0 => ?_)
        · have hC := hC.1 c0
          refine gj_aload_n X d_Gl_about_46 rfl 0 rfl ?_
          refine gj_get X inX8 0 rfl rfl 2 (by decide) tw_210 rfl rfl d_Gl_about_47 ?_
          refine gj_iload_n X d_Gl_about_50 rfl 1 rfl ?_
          refine gj_iload_n X d_Gl_about_51 rfl 2 rfl ?_
          refine gj_callVI (As := [.int a0, .int a1]) (st := []) X (c_Gr_symbolAt l dC dI h cI cL cZ σ3 a0 a1 _ hC) ⟨gj_cwB X tw_288 tw_2 tw_285 hd_Gr_symbolAt rfl rfl ⟨Nat.le_of_ble_eq_true rfl, Nat.le_of_ble_eq_true rfl⟩, X.2.2.2.2.1 _ tw_286, X.2.2.2.2.1 _ tw_287⟩ 2 rfl rfl hA rfl (Nat.le_of_ble_eq_true rfl) ⟨Nat.zero_le _, Nat.zero_le _⟩ d_Gl_about_52 rfl (fun r6 σ5 hC => ?_)
          exact gj_iret X hr hlk hC d_Gl_about_55
        · have hC := hC.2 c0
          refine gj_aload_n X d_Gl_about_35 rfl 0 rfl ?_
          refine gj_get X inX8 0 rfl rfl 2 (by decide) tw_210 rfl rfl d_Gl_about_36 ?_
          refine gj_iload_n X d_Gl_about_39 rfl 1 rfl ?_
          refine gj_callVI (As := [.int a0]) (st := []) X (c_Gr_leftOf l dC dI h cI cL cZ σ3 a0 _ hC) ⟨gj_cwB X tw_284 tw_2 tw_281 hd_Gr_leftOf rfl rfl ⟨Nat.le_of_ble_eq_true rfl, Nat.le_of_ble_eq_true rfl⟩, X.2.2.2.2.1 _ tw_282, X.2.2.2.2.1 _ tw_283⟩ 2 rfl rfl hA rfl (Nat.le_of_ble_eq_true rfl) ⟨Nat.zero_le _, Nat.zero_le _⟩ d_Gl_about_40 rfl (fun r8 σ7 hC => ?_)
          refine gj_goto (tgt := 55) X d_Gl_about_43 (by decide) ?_
          exact gj_iret X hr hlk hC d_Gl_about_55
      · have hC := hC.2 c0
        refine gj_iconst (v := -1) X d_Gl_about_28 (by decide) ?_
        exact gj_iret X hr hlk hC d_Gl_about_29
abbrev rm_Ar_fill_7 : Room := { frames := 0, cells := 0, slots := 0, locals := 0 }
set_option maxHeartbeats 4000000 in
set_option maxRecDepth 100000 in
theorem c_Ar_fill_7 (l : Launch) (dC : Nat → ClassId) (dI : Nat → Nat → Nat) (h : Nat → Nat) (cI cL cZ : ClassId) (σ : gs_St) (a1 : Int32) (K : gs_St → Prop) (hC : C_Ar_fill_7 a1 σ K) : gj_MV 0 0 l y_Ar_fill (gj_ws y_Ar_fill b_Ar_fill 4 (none)) rm_Ar_fill_7 (dC, dI) gs_C (gs_T cI cL cZ) ((wG h cI cL) σ) (wG h cI cL) [.ref (h 7), .int a1] K := by
  refine gj_enterV (by decide) (Nat.le_of_ble_eq_true rfl) (fun p e s m args below meth c A X hr hlk hA hnm => ?_)
  change gj_J p l e rm_Ar_fill_7 s m args below meth c 0 0 (MQ below (va_Qv K (gj_at (dC, dI) gs_C (gs_T cI cL cZ) (wG h cI cL) A) A) args s 0 0 A) (dC, dI) gs_C A 4 0 [(0, .ref (h 7)), (1, .int a1)] [] ((wG h cI cL) σ)
  have hC := hC
    (fun (v_1 : Int32) (v_2 : Int32) (v_3 : Int32) (σ : gs_St) => gj_J p l e rm_Ar_fill_7 s m args below meth c 0 0 (MQ below (va_Qv K (gj_at (dC, dI) gs_C (gs_T cI cL cZ) (wG h cI cL) A) A) args s 0 0 A) (dC, dI) gs_C A 4 5 [(0, .ref (h 7)), (1, .int v_1), (2, .int v_2), (3, .int v_3)] [] ((wG h cI cL) σ))
    (by
      intro v_1 v_2 v_3 σ hC
      refine gj_iload_n X d_Ar_fill_5 rfl 2 rfl ?_
      refine gj_iload_n X d_Ar_fill_6 rfl 3 rfl ?_
      refine gj_icmp_ge (tgt := 20) X d_Ar_fill_7 (by decide) (fun c0 => ?_) (fun c0 => ?_)
      · have hC := hC.1 c0
        exact gj_vret X hr hlk hC d_Ar_fill_20
      · have hC := hC.2 c0
        refine gj_aload_n X d_Ar_fill_10 rfl 0 rfl ?_
        refine gj_iload_n X d_Ar_fill_11 rfl 2 rfl ?_
        refine gj_iload_n X d_Ar_fill_12 rfl 1 rfl ?_
        refine gj_iast (w' := (wG h cI cL) (gs_A σ 4 (upd (σ.2.1 4) v_2.toNatClampNeg v_1))) X 7 0 rfl rfl hC.1 (set_wG_A4 h cI cL σ _) d_Ar_fill_13 ?_
        refine gj_topw (wof := (wG h cI cL)) (fun σ1 eσ1 => ?_)
        have hC := hC.2 σ1 eσ1
        obtain ⟨v2, ev2⟩ : ∃ y : Int32, y = v_2 + 1 := ⟨_, rfl⟩
        have hC := hC v2 ev2
        refine gj_iinc (v := v2) (L' := [(2, .int v2), (0, .ref (h 7)), (1, .int v_1), (3, .int v_3)]) X d_Ar_fill_14 2 rfl (by rw [ev2]; rfl) (by decide) rfl ?_
        refine gj_goto (tgt := 5) X d_Ar_fill_17 (by decide) ?_
        exact gj_loc [1, 2, 0, 3] rfl hC)
  refine gj_iconst (v := 0) X d_Ar_fill_0 (by decide) ?_
  refine gj_istore_n (L' := [(2, .int (0 : Int32)), (0, .ref (h 7)), (1, .int a1)]) X d_Ar_fill_1 rfl (by decide) rfl ?_
  refine gj_aload_n X d_Ar_fill_2 rfl 1 rfl ?_
  refine gj_alen (v := 8) X 7 0 rfl rfl rfl d_Ar_fill_3 ?_
  refine gj_istore_n (L' := [(3, .int (8 : Int32)), (2, .int (0 : Int32)), (0, .ref (h 7)), (1, .int a1)]) X d_Ar_fill_4 rfl (by decide) rfl ?_
  exact gj_loc [2, 3, 1, 0] rfl hC
abbrev rm_Ar_fill_8 : Room := { frames := 0, cells := 0, slots := 0, locals := 0 }
set_option maxHeartbeats 4000000 in
set_option maxRecDepth 100000 in
theorem c_Ar_fill_8 (l : Launch) (dC : Nat → ClassId) (dI : Nat → Nat → Nat) (h : Nat → Nat) (cI cL cZ : ClassId) (σ : gs_St) (a1 : Int32) (K : gs_St → Prop) (hC : C_Ar_fill_8 a1 σ K) : gj_MV 0 0 l y_Ar_fill (gj_ws y_Ar_fill b_Ar_fill 4 (none)) rm_Ar_fill_8 (dC, dI) gs_C (gs_T cI cL cZ) ((wG h cI cL) σ) (wG h cI cL) [.ref (h 8), .int a1] K := by
  refine gj_enterV (by decide) (Nat.le_of_ble_eq_true rfl) (fun p e s m args below meth c A X hr hlk hA hnm => ?_)
  change gj_J p l e rm_Ar_fill_8 s m args below meth c 0 0 (MQ below (va_Qv K (gj_at (dC, dI) gs_C (gs_T cI cL cZ) (wG h cI cL) A) A) args s 0 0 A) (dC, dI) gs_C A 4 0 [(0, .ref (h 8)), (1, .int a1)] [] ((wG h cI cL) σ)
  have hC := hC
    (fun (v_1 : Int32) (v_2 : Int32) (v_3 : Int32) (σ : gs_St) => gj_J p l e rm_Ar_fill_8 s m args below meth c 0 0 (MQ below (va_Qv K (gj_at (dC, dI) gs_C (gs_T cI cL cZ) (wG h cI cL) A) A) args s 0 0 A) (dC, dI) gs_C A 4 5 [(0, .ref (h 8)), (1, .int v_1), (2, .int v_2), (3, .int v_3)] [] ((wG h cI cL) σ))
    (by
      intro v_1 v_2 v_3 σ hC
      refine gj_iload_n X d_Ar_fill_5 rfl 2 rfl ?_
      refine gj_iload_n X d_Ar_fill_6 rfl 3 rfl ?_
      refine gj_icmp_ge (tgt := 20) X d_Ar_fill_7 (by decide) (fun c0 => ?_) (fun c0 => ?_)
      · have hC := hC.1 c0
        exact gj_vret X hr hlk hC d_Ar_fill_20
      · have hC := hC.2 c0
        refine gj_aload_n X d_Ar_fill_10 rfl 0 rfl ?_
        refine gj_iload_n X d_Ar_fill_11 rfl 2 rfl ?_
        refine gj_iload_n X d_Ar_fill_12 rfl 1 rfl ?_
        refine gj_iast (w' := (wG h cI cL) (gs_A σ 5 (upd (σ.2.1 5) v_2.toNatClampNeg v_1))) X 8 0 rfl rfl hC.1 (set_wG_A5 h cI cL σ _) d_Ar_fill_13 ?_
        refine gj_topw (wof := (wG h cI cL)) (fun σ1 eσ1 => ?_)
        have hC := hC.2 σ1 eσ1
        obtain ⟨v2, ev2⟩ : ∃ y : Int32, y = v_2 + 1 := ⟨_, rfl⟩
        have hC := hC v2 ev2
        refine gj_iinc (v := v2) (L' := [(2, .int v2), (0, .ref (h 8)), (1, .int v_1), (3, .int v_3)]) X d_Ar_fill_14 2 rfl (by rw [ev2]; rfl) (by decide) rfl ?_
        refine gj_goto (tgt := 5) X d_Ar_fill_17 (by decide) ?_
        exact gj_loc [1, 2, 0, 3] rfl hC)
  refine gj_iconst (v := 0) X d_Ar_fill_0 (by decide) ?_
  refine gj_istore_n (L' := [(2, .int (0 : Int32)), (0, .ref (h 8)), (1, .int a1)]) X d_Ar_fill_1 rfl (by decide) rfl ?_
  refine gj_aload_n X d_Ar_fill_2 rfl 1 rfl ?_
  refine gj_alen (v := 8) X 8 0 rfl rfl rfl d_Ar_fill_3 ?_
  refine gj_istore_n (L' := [(3, .int (8 : Int32)), (2, .int (0 : Int32)), (0, .ref (h 8)), (1, .int a1)]) X d_Ar_fill_4 rfl (by decide) rfl ?_
  exact gj_loc [2, 3, 1, 0] rfl hC
abbrev rm_Le_leastBut : Room := { frames := 1, cells := 0, slots := 0, locals := 22 }
set_option maxHeartbeats 4000000 in
set_option maxRecDepth 100000 in
theorem c_Le_leastBut (l : Launch) (dC : Nat → ClassId) (dI : Nat → Nat → Nat) (h : Nat → Nat) (cI cL cZ : ClassId) (σ : gs_St) (a0 : Int32) (a1 : Int32) (K : Int32 → gs_St → Prop) (hC : C_Le_leastBut a0 a1 σ K) : gj_MI l y_Le_leastBut (gj_ws y_Le_leastBut b_Le_leastBut 7 (some .int)) rm_Le_leastBut (dC, dI) gs_C (gs_T cI cL cZ) ((wG h cI cL) σ) (wG h cI cL) [.ref (h 6), .int a0, .int a1] K := by
  refine gj_enterI (by decide) (Nat.le_of_ble_eq_true rfl) (fun p e s m args below meth c A X hr hlk hA hnm => ?_)
  change gj_J p l e rm_Le_leastBut s m args below meth c 0 0 (MQ below (va_Qi K (gj_at (dC, dI) gs_C (gs_T cI cL cZ) (wG h cI cL) A) A) args s 0 0 A) (dC, dI) gs_C A 7 0 [(0, .ref (h 6)), (1, .int a0), (2, .int a1)] [] ((wG h cI cL) σ)
  have hC := hC
    (fun (v_1 : Int32) (v_2 : Int32) (v_3 : Int32) (v_4 : Int32) (σ : gs_St) => gj_J p l e rm_Le_leastBut s m args below meth c 0 0 (MQ below (va_Qi K (gj_at (dC, dI) gs_C (gs_T cI cL cZ) (wG h cI cL) A) A) args s 0 0 A) (dC, dI) gs_C A 7 5 [(0, .ref (h 6)), (1, .int v_1), (2, .int v_2), (3, .int v_3), (4, .int v_4)] [] ((wG h cI cL) σ))
    (by
      intro v_1 v_2 v_3 v_4 σ hC
      refine gj_iload X d_Le_leastBut_5 4 rfl ?_
      refine gj_aload_n X d_Le_leastBut_7 rfl 0 rfl ?_
      refine gj_get X inX4 6 rfl rfl 0 (by decide) tw_53 rfl rfl d_Le_leastBut_8 ?_
      refine gj_iload_n X d_Le_leastBut_11 rfl 1 rfl ?_
      refine gj_callVI (As := [.int v_1]) (st := [.int v_4]) X (c_Gr_sizeOf l dC dI h cI cL cZ σ v_1 _ hC) ⟨gj_cwB X tw_280 tw_2 tw_309 hd_Gr_sizeOf rfl rfl ⟨Nat.le_of_ble_eq_true rfl, Nat.le_of_ble_eq_true rfl⟩, X.2.2.2.2.1 _ tw_278, X.2.2.2.2.1 _ tw_279⟩ 2 rfl rfl hA rfl (Nat.le_of_ble_eq_true rfl) ⟨Nat.zero_le _, Nat.zero_le _⟩ d_Le_leastBut_12 rfl (fun r2 σ1 hC => ?_)
      refine gj_icmp_ge (tgt := 79) X d_Le_leastBut_15 (by decide) (fun c0 => ?_) (fun c0 => ?_)
      · have hC := hC.1 c0
        refine gj_iload_n X d_Le_leastBut_79 rfl 3 rfl ?_
        exact gj_iret X hr hlk hC d_Le_leastBut_80
      · have hC := hC.2 c0
        refine gj_iload X d_Le_leastBut_18 4 rfl ?_
        refine gj_iload_n X d_Le_leastBut_20 rfl 2 rfl ?_
        refine gj_icmp_ne (tgt := 27) X d_Le_leastBut_21 (by decide) (fun c0 => ?_) (fun c0 => ?_)
        · have hC := hC.1 c0
          refine gj_aload_n X d_Le_leastBut_27 rfl 0 rfl ?_
          refine gj_get X inX4 6 rfl rfl 0 (by decide) tw_53 rfl rfl d_Le_leastBut_28 ?_
          refine gj_iload_n X d_Le_leastBut_31 rfl 1 rfl ?_
          refine gj_iload X d_Le_leastBut_32 4 rfl ?_
          refine gj_callVI (As := [.int v_1, .int v_4]) (st := []) X (c_Gr_symbolAt l dC dI h cI cL cZ σ1 v_1 v_4 _ hC) ⟨gj_cwB X tw_288 tw_2 tw_310 hd_Gr_symbolAt rfl rfl ⟨Nat.le_of_ble_eq_true rfl, Nat.le_of_ble_eq_true rfl⟩, X.2.2.2.2.1 _ tw_286, X.2.2.2.2.1 _ tw_287⟩ 2 rfl rfl hA rfl (Nat.le_of_ble_eq_true rfl) ⟨Nat.zero_le _, Nat.zero_le _⟩ d_Le_leastBut_34 rfl (fun r4 σ3 hC => ?_)
          refine gj_istore (L' := [(5, .int r4), (0, .ref (h 6)), (1, .int v_1), (2, .int v_2), (3, .int v_3), (4, .int v_4)]) X d_Le_leastBut_37 (by decide) rfl ?_
          refine gj_iload X d_Le_leastBut_39 0 rfl ?_
          refine gj_callSNI (As := [.int r4]) (st := []) X (c_Gl_isNonterminal l dC dI h cI cL cZ σ3 r4 _ hC) ⟨gj_cwN X tw_249 tw_1 tn_311 hd_Gl_isNonterminal rfl rfl ⟨Nat.le_of_ble_eq_true rfl, Nat.le_of_ble_eq_true rfl⟩, X.2.2.2.2.1 _ tw_248, trivial⟩ hA rfl (Nat.le_of_ble_eq_true rfl) ⟨Nat.zero_le _, Nat.zero_le _⟩ d_Le_leastBut_41 rfl (fun r6 σ5 hC => ?_)
          obtain ⟨hC, hb⟩ := hC
          refine gj_if_eq (tgt := 57) X d_Le_leastBut_44 (by decide) (fun c0 => ?_) (fun c0 => ?_)
          · have hC := hC.1 c0
            refine gj_iconst (v := 1) X d_Le_leastBut_57 (by decide) ?_
            refine gj_istore (L' := [(6, .int (1 : Int32)), (5, .int r4), (0, .ref (h 6)), (1, .int v_1), (2, .int v_2), (3, .int v_3), (4, .int v_4)]) X d_Le_leastBut_58 (by decide) rfl ?_
            refine gj_iload X d_Le_leastBut_60 0 rfl ?_
            refine gj_iconst (v := -1) X d_Le_leastBut_62 (by decide) ?_
            refine gj_icmp_ne (tgt := 68) X d_Le_leastBut_63 (by decide) (fun c0 => ?_) (fun c0 => ?_)
            · have hC := hC.1 c0
              refine gj_iload_n X d_Le_leastBut_68 rfl 5 rfl ?_
              refine gj_iload X d_Le_leastBut_69 0 rfl ?_
              refine gj_iadd X d_Le_leastBut_71 ?_
              refine gj_topi (fun v7 ev7 => ?_)
              have hC := hC v7 ev7
              refine gj_istore_n (L' := [(3, .int v7), (6, .int (1 : Int32)), (5, .int r4), (0, .ref (h 6)), (1, .int v_1), (2, .int v_2), (4, .int v_4)]) X d_Le_leastBut_72 rfl (by decide) rfl ?_
              obtain ⟨v8, ev8⟩ : ∃ y : Int32, y = v_4 + 1 := ⟨_, rfl⟩
              have hC := hC v8 ev8
              refine gj_iinc (v := v8) (L' := [(4, .int v8), (3, .int v7), (6, .int (1 : Int32)), (5, .int r4), (0, .ref (h 6)), (1, .int v_1), (2, .int v_2)]) X d_Le_leastBut_73 6 rfl (by rw [ev8]; rfl) (by decide) rfl ?_
              refine gj_goto (tgt := 5) X d_Le_leastBut_76 (by decide) ?_
              exact gj_loc [4, 5, 6, 1, 0] rfl hC
            · have hC := hC.2 c0
              refine gj_iconst (v := -1) X d_Le_leastBut_66 (by decide) ?_
              exact gj_iret X hr hlk hC d_Le_leastBut_67
          · have hC := hC.2 c0
            refine gj_aload_n X d_Le_leastBut_47 rfl 1 rfl ?_
            refine gj_get X inX4 6 rfl rfl 1 (by decide) tw_54 rfl rfl d_Le_leastBut_48 ?_
            refine gj_iload X d_Le_leastBut_51 0 rfl ?_
            refine gj_iald X 7 0 rfl rfl hC.1 d_Le_leastBut_53 ?_
            have hC := hC.2
            refine gj_goto (tgt := 58) X d_Le_leastBut_54 (by decide) ?_
            refine gj_topi (fun v9 ev9 => ?_)
            have hC := hC v9 ev9
            refine gj_istore (L' := [(6, .int v9), (5, .int r4), (0, .ref (h 6)), (1, .int v_1), (2, .int v_2), (3, .int v_3), (4, .int v_4)]) X d_Le_leastBut_58 (by decide) rfl ?_
            refine gj_iload X d_Le_leastBut_60 0 rfl ?_
            refine gj_iconst (v := -1) X d_Le_leastBut_62 (by decide) ?_
            refine gj_icmp_ne (tgt := 68) X d_Le_leastBut_63 (by decide) (fun c0 => ?_) (fun c0 => ?_)
            · have hC := hC.1 c0
              refine gj_iload_n X d_Le_leastBut_68 rfl 5 rfl ?_
              refine gj_iload X d_Le_leastBut_69 0 rfl ?_
              refine gj_iadd X d_Le_leastBut_71 ?_
              refine gj_topi (fun v10 ev10 => ?_)
              have hC := hC v10 ev10
              refine gj_istore_n (L' := [(3, .int v10), (6, .int v9), (5, .int r4), (0, .ref (h 6)), (1, .int v_1), (2, .int v_2), (4, .int v_4)]) X d_Le_leastBut_72 rfl (by decide) rfl ?_
              obtain ⟨v11, ev11⟩ : ∃ y : Int32, y = v_4 + 1 := ⟨_, rfl⟩
              have hC := hC v11 ev11
              refine gj_iinc (v := v11) (L' := [(4, .int v11), (3, .int v10), (6, .int v9), (5, .int r4), (0, .ref (h 6)), (1, .int v_1), (2, .int v_2)]) X d_Le_leastBut_73 6 rfl (by rw [ev11]; rfl) (by decide) rfl ?_
              refine gj_goto (tgt := 5) X d_Le_leastBut_76 (by decide) ?_
              exact gj_loc [4, 5, 6, 1, 0] rfl hC
            · have hC := hC.2 c0
              refine gj_iconst (v := -1) X d_Le_leastBut_66 (by decide) ?_
              exact gj_iret X hr hlk hC d_Le_leastBut_67
        · have hC := hC.2 c0
          refine gj_goto (tgt := 73) X d_Le_leastBut_24 (by decide) ?_
          obtain ⟨v12, ev12⟩ : ∃ y : Int32, y = v_4 + 1 := ⟨_, rfl⟩
          have hC := hC v12 ev12
          refine gj_iinc (v := v12) (L' := [(4, .int v12), (0, .ref (h 6)), (1, .int v_1), (2, .int v_2), (3, .int v_3)]) X d_Le_leastBut_73 4 rfl (by rw [ev12]; rfl) (by decide) rfl ?_
          refine gj_goto (tgt := 5) X d_Le_leastBut_76 (by decide) ?_
          exact gj_loc [1, 2, 3, 4, 0] rfl hC)
  refine gj_iconst (v := 0) X d_Le_leastBut_0 (by decide) ?_
  refine gj_istore_n (L' := [(3, .int (0 : Int32)), (0, .ref (h 6)), (1, .int a0), (2, .int a1)]) X d_Le_leastBut_1 rfl (by decide) rfl ?_
  refine gj_iconst (v := 0) X d_Le_leastBut_2 (by decide) ?_
  refine gj_istore (L' := [(4, .int (0 : Int32)), (3, .int (0 : Int32)), (0, .ref (h 6)), (1, .int a0), (2, .int a1)]) X d_Le_leastBut_3 (by decide) rfl ?_
  exact gj_loc [2, 3, 4, 1, 0] rfl hC
