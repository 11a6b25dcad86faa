set_option maxHeartbeats 4000000 in
set_option maxRecDepth 100000 in
theorem mX11_about_4 (l : Launch) (D : va_G) (cyI cyJ : ClassId) (Z : xZ) (h0 : Nat) (h1 : Nat) (h2 : Nat) (v0_0 : Value) (v0_1 : Value) (v0_2 : Value) (v0_3 : Value) (v0_4 : Value) (v0_5 : Value) (v0_6 : Value) (v0_7 : Value) (v0_8 : Value) (v0_10 : Value) (v0_11 : Value) (v0_12 : Value) (v0_13 : Value) (v0_14 : Value) (v0_15 : Value) (v1_0 : Value) (v1_1 : Value) (v1_2 : Value) (v1_4 : Value) (v1_5 : Value) (v1_6 : Value) (v1_7 : Value) : MetI l yX11_about (Cond.code yX11_about cX11_about 2 (some .int)) { frames := 1, cells := 0, slots := 0, locals := 22 } D cyI cyJ Z [.ref h0, .int 4] [(h0, .inr (11, [v0_0, v0_1, v0_2, v0_3, v0_4, v0_5, v0_6, v0_7, v0_8, .ref h1, v0_10, v0_11, v0_12, v0_13, v0_14, v0_15])), (h1, .inr (3, [v1_0, v1_1, v1_2, .ref h2, v1_4, v1_5, v1_6, v1_7])), (h2, .inl (cyI, 10, .inl (fun _ => 0)))] (fun _ : Unit => 0) (fun _ : Unit => ([] : va_W)) 0 0 := by
  refine met_i (by decide) rfl ?_
  intro p e s m below meth c A ls E hr hlk hP hD hA hl
  have hS : va_S A s.heap s.heap [] := va_S.rf
  have hx := E.1.1
  have hb := E.1.2.1
  have hl : lv_has ls 2 [(0, .ref h0), (1, .int 4)] := hl
  refine lv_iload_n hx hb dX11_about_0 rfl (lv_at hl 1 rfl) ?_
  refine lv_tableIn (tgt := 88) (off := 87) hx hb dX11_about_1 (by decide) (by decide) (by decide) (by decide) ?_
  refine lv_aload_n hx hb dX11_about_88 rfl (lv_at hl 0 rfl) ?_
  refine lv_aload_n hx hb dX11_about_89 rfl (lv_at hl 0 rfl) ?_
  refine x_get E iX11 hP 0 rfl rfl 9 (by decide) wq83 rfl dX11_about_90 ?_
  refine x_Vi (rest := [.ref h0]) (ws' := fun _ => [(h0, .inr (11, [v0_0, v0_1, v0_2, v0_3, v0_4, v0_5, v0_6, v0_7, v0_8, .ref h1, v0_10, v0_11, v0_12, v0_13, v0_14, v0_15])), (h1, .inr (3, [v1_0, v1_1, v1_2, .ref h2, v1_4, v1_5, v1_6, v1_7])), (h2, .inl (cyI, 10, .inl (fun _ => 0)))]) (wr := [(h0, .inr (11, [v0_0, v0_1, v0_2, v0_3, v0_4, v0_5, v0_6, v0_7, v0_8, .ref h1, v0_10, v0_11, v0_12, v0_13, v0_14, v0_15]))]) E (mX3_countOfAll l D cyI cyJ Z h1 h2 v1_0 v1_1 v1_2 v1_4 v1_5 v1_6 v1_7) kX3_countOfAll wq445 wq446 wq447 ⟨rfl, rfl, Nat.le_of_ble_eq_true rfl, Nat.le_of_ble_eq_true rfl⟩ hP hD hS hA [1, 2] [0] rfl rfl (by decide) (fun _ => rfl) 1 rfl rfl rfl hl.1 rfl (Nat.le_of_ble_eq_true rfl) dX11_about_93 ⟨rfl, rfl⟩ ⟨Nat.le_of_ble_eq_true rfl, Nat.le_of_ble_eq_true rfl⟩ (fun _ H locs hP hD hS => ?_)
  refine x_Vi (rest := []) (ws' := fun _ => [(h1, .inr (3, [v1_0, v1_1, v1_2, .ref h2, v1_4, v1_5, v1_6, v1_7])), (h2, .inl (cyI, 10, .inl (fun _ => 0))), (h0, .inr (11, [v0_0, v0_1, v0_2, v0_3, .int 0, v0_5, v0_6, v0_7, v0_8, .ref h1, v0_10, v0_11, v0_12, v0_13, v0_14, v0_15]))]) (wr := [(h1, .inr (3, [v1_0, v1_1, v1_2, .ref h2, v1_4, v1_5, v1_6, v1_7])), (h2, .inl (cyI, 10, .inl (fun _ => 0)))]) E (mX11_answered l D cyI cyJ Z h0 v0_0 v0_1 v0_2 v0_3 v0_4 v0_5 v0_6 v0_7 v0_8 (.ref h1) v0_10 v0_11 v0_12 v0_13 v0_14 v0_15) kX11_answered wq436 wq437 wq438 ⟨rfl, rfl, Nat.le_of_ble_eq_true rfl, Nat.le_of_ble_eq_true rfl⟩ hP hD hS hA [0] [1, 2] rfl rfl (by decide) (fun _ => rfl) 0 rfl rfl rfl hl.1 rfl (Nat.le_of_ble_eq_true rfl) dX11_about_96 ⟨rfl, rfl⟩ ⟨Nat.le_of_ble_eq_true rfl, Nat.le_of_ble_eq_true rfl⟩ (fun _ H locs hP hD hS => ?_)
  exact x_iret E hr hlk hP hD hS () rfl [] (by decide) rfl rfl dX11_about_99

set_option maxHeartbeats 4000000 in
set_option maxRecDepth 100000 in
theorem mX12_about_4 (l : Launch) (D : va_G) (cyI cyJ : ClassId) (Z : xZ) (h0 : Nat) (h1 : Nat) (v0_0 : Value) (v0_1 : Value) (v0_2 : Value) (v0_3 : Value) (v0_4 : Value) (v0_5 : Value) (v0_6 : Value) (v0_7 : Value) (v0_8 : Value) (v0_9 : Value) (v0_10 : Value) (v0_11 : Value) (v0_12 : Value) (v0_13 : Value) (v0_14 : Value) (v0_15 : Value) (v0_16 : Value) (v0_17 : Value) (v0_18 : Value) (v0_19 : Value) (v0_20 : Value) (v0_21 : Value) (v0_22 : Value) (v0_23 : Value) (v0_24 : Value) (v0_25 : Value) (v0_26 : Value) (v0_27 : Value) (v0_28 : Value) (v0_29 : Value) (v0_30 : Value) (v0_31 : Value) (v0_32 : Value) (v0_33 : Value) (v0_34 : Value) (v0_35 : Value) (v0_36 : Value) (v0_37 : Value) (v0_38 : Value) (v0_39 : Value) (v0_40 : Value) (v0_41 : Value) (v0_42 : Value) (v0_43 : Value) (v0_44 : Value) (v0_45 : Value) (v0_46 : Value) (v0_47 : Value) (v0_48 : Value) (v0_49 : Value) (v0_51 : Value) (v0_52 : Value) (v0_53 : Value) (v0_54 : Value) (v0_55 : Value) (v0_56 : Value) (v0_57 : Value) (v0_58 : Value) (v0_59 : Value) (v0_60 : Value) (v0_61 : Value) (v0_62 : Value) (v0_63 : Value) (v0_64 : Value) : MetI l yX12_about (Cond.code yX12_about cX12_about 4 (some .int)) { frames := 1, cells := 0, slots := 0, locals := 21 } D cyI cyJ Z [.ref h0, .int 4] [(h0, .inr (12, [v0_0, v0_1, v0_2, v0_3, v0_4, v0_5, v0_6, v0_7, v0_8, v0_9, v0_10, v0_11, v0_12, v0_13, v0_14, v0_15, v0_16, v0_17, v0_18, v0_19, v0_20, v0_21, v0_22, v0_23, v0_24, v0_25, v0_26, v0_27, v0_28, v0_29, v0_30, v0_31, v0_32, v0_33, v0_34, v0_35, v0_36, v0_37, v0_38, v0_39, v0_40, v0_41, v0_42, v0_43, v0_44, v0_45, v0_46, v0_47, v0_48, v0_49, .ref h1, v0_51, v0_52, v0_53, v0_54, v0_55, v0_56, v0_57, v0_58, v0_59, v0_60, v0_61, v0_62, v0_63, v0_64])), (h1, .inl (cyI, 10, .inl (fun _ => 0)))] (fun _ : Unit => 0) (fun _ : Unit => ([] : va_W)) 0 0 := by
  refine met_i (by decide) rfl ?_
  intro p e s m below meth c A ls E hr hlk hP hD hA hl
  have hS : va_S A s.heap s.heap [] := va_S.rf
  have hx := E.1.1
  have hb := E.1.2.1
  have hl : lv_has ls 4 [(0, .ref h0), (1, .int 4)] := hl
  refine lv_aload_n hx hb dX12_about_0 rfl (lv_at hl 0 rfl) ?_
  refine lv_iconst (v := 0) hx hb dX12_about_1 (by decide) ?_
  refine x_put (ws' := [(h0, .inr (12, [.int 0, v0_1, v0_2, v0_3, v0_4, v0_5, v0_6, v0_7, v0_8, v0_9, v0_10, v0_11, v0_12, v0_13, v0_14, v0_15, v0_16, v0_17, v0_18, v0_19, v0_20, v0_21, v0_22, v0_23, v0_24, v0_25, v0_26, v0_27, v0_28, v0_29, v0_30, v0_31, v0_32, v0_33, v0_34, v0_35, v0_36, v0_37, v0_38, v0_39, v0_40, v0_41, v0_42, v0_43, v0_44, v0_45, v0_46, v0_47, v0_48, v0_49, .ref h1, v0_51, v0_52, v0_53, v0_54, v0_55, v0_56, v0_57, v0_58, v0_59, v0_60, v0_61, v0_62, v0_63, v0_64])), (h1, .inl (cyI, 10, .inl (fun _ => 0)))]) E iX12 tyX12 tyX12_ok nmX12 hP hD hS 0 rfl rfl 0 (by decide) wq202 rfl rfl rfl rfl rfl dX12_about_2 (fun H locs hP hD hS => ?_)
  refine lv_iconst (v := 0) hx hb dX12_about_5 (by decide) ?_
  refine lv_istore_n (lv' := [(2, .int 0), (0, .ref h0), (1, .int 4)]) hx hb dX12_about_6 rfl hl (by decide) rfl (fun ls hl => ?_)
  refine lv_iload_n hx hb dX12_about_7 rfl (lv_at hl 2 rfl) ?_
  refine lv_tableIn (tgt := 115) (off := 107) hx hb dX12_about_8 (by decide) (by decide) (by decide) (by decide) ?_
  refine lv_iconst (v := 0) hx hb dX12_about_115 (by decide) ?_
  refine lv_istore_n (lv' := [(3, .int 0), (2, .int 0), (0, .ref h0), (1, .int 4)]) hx hb dX12_about_116 rfl hl (by decide) rfl (fun ls hl => ?_)
  refine lv_iload_n hx hb dX12_about_117 rfl (lv_at hl 0 rfl) ?_
  refine lv_bipush (v := 10) hx hb dX12_about_118 (by decide) ?_
  refine lv_icmp_ge (tgt := 138) hx hb dX12_about_120 (by decide) (fun c9 => absurd c9 (by decide)) (fun c9 => ?_)
  refine lv_iload_n hx hb dX12_about_123 rfl (lv_at hl 1 rfl) ?_
  refine lv_aload_n hx hb dX12_about_124 rfl (lv_at hl 2 rfl) ?_
  refine x_get E iX12 hP 0 rfl rfl 50 (by decide) wq193 rfl dX12_about_125 ?_
  refine lv_iload_n hx hb dX12_about_128 rfl (lv_at hl 0 rfl) ?_
  refine x_iald (v := 0) E hP 1 rfl (by decide) rfl dX12_about_129 ?_
  refine lv_iadd hx hb dX12_about_130 ?_
  refine x_topi (z := 0) (by decide) ?_
  refine lv_istore_n (lv' := [(2, .int 0), (3, .int 0), (0, .ref h0), (1, .int 4)]) hx hb dX12_about_131 rfl hl (by decide) rfl (fun ls hl => ?_)
  refine lv_iinc (v := 1) (lv' := [(3, .int 1), (2, .int 0), (0, .ref h0), (1, .int 4)]) hx hb dX12_about_132 hl (k := 1) rfl (by decide) (by decide) rfl (fun ls hl => ?_)
  refine lv_goto (tgt := 117) hx hb dX12_about_135 (by decide) ?_
  refine lv_iload_n hx hb dX12_about_117 rfl (lv_at hl 0 rfl) ?_
  refine lv_bipush (v := 10) hx hb dX12_about_118 (by decide) ?_
  refine lv_icmp_ge (tgt := 138) hx hb dX12_about_120 (by decide) (fun c9 => absurd c9 (by decide)) (fun c9 => ?_)
  refine lv_iload_n hx hb dX12_about_123 rfl (lv_at hl 1 rfl) ?_
  refine lv_aload_n hx hb dX12_about_124 rfl (lv_at hl 2 rfl) ?_
  refine x_get E iX12 hP 0 rfl rfl 50 (by decide) wq193 rfl dX12_about_125 ?_
  refine lv_iload_n hx hb dX12_about_128 rfl (lv_at hl 0 rfl) ?_
  refine x_iald (v := 0) E hP 1 rfl (by decide) rfl dX12_about_129 ?_
  refine lv_iadd hx hb dX12_about_130 ?_
  refine x_topi (z := 0) (by decide) ?_
  refine lv_istore_n (lv' := [(2, .int 0), (3, .int 1), (0, .ref h0), (1, .int 4)]) hx hb dX12_about_131 rfl hl (by decide) rfl (fun ls hl => ?_)
  refine lv_iinc (v := 2) (lv' := [(3, .int 2), (2, .int 0), (0, .ref h0), (1, .int 4)]) hx hb dX12_about_132 hl (k := 1) rfl (by decide) (by decide) rfl (fun ls hl => ?_)
  refine lv_goto (tgt := 117) hx hb dX12_about_135 (by decide) ?_
  refine lv_iload_n hx hb dX12_about_117 rfl (lv_at hl 0 rfl) ?_
  refine lv_bipush (v := 10) hx hb dX12_about_118 (by decide) ?_
  refine lv_icmp_ge (tgt := 138) hx hb dX12_about_120 (by decide) (fun c9 => absurd c9 (by decide)) (fun c9 => ?_)
  refine lv_iload_n hx hb dX12_about_123 rfl (lv_at hl 1 rfl) ?_
  refine lv_aload_n hx hb dX12_about_124 rfl (lv_at hl 2 rfl) ?_
  refine x_get E iX12 hP 0 rfl rfl 50 (by decide) wq193 rfl dX12_about_125 ?_
  refine lv_iload_n hx hb dX12_about_128 rfl (lv_at hl 0 rfl) ?_
  refine x_iald (v := 0) E hP 1 rfl (by decide) rfl dX12_about_129 ?_
  refine lv_iadd hx hb dX12_about_130 ?_
  refine x_topi (z := 0) (by decide) ?_
  refine lv_istore_n (lv' := [(2, .int 0), (3, .int 2), (0, .ref h0), (1, .int 4)]) hx hb dX12_about_131 rfl hl (by decide) rfl (fun ls hl => ?_)
  refine lv_iinc (v := 3) (lv' := [(3, .int 3), (2, .int 0), (0, .ref h0), (1, .int 4)]) hx hb dX12_about_132 hl (k := 1) rfl (by decide) (by decide) rfl (fun ls hl => ?_)
  refine lv_goto (tgt := 117) hx hb dX12_about_135 (by decide) ?_
  refine lv_iload_n hx hb dX12_about_117 rfl (lv_at hl 0 rfl) ?_
  refine lv_bipush (v := 10) hx hb dX12_about_118 (by decide) ?_
  refine lv_icmp_ge (tgt := 138) hx hb dX12_about_120 (by decide) (fun c9 => absurd c9 (by decide)) (fun c9 => ?_)
  refine lv_iload_n hx hb dX12_about_123 rfl (lv_at hl 1 rfl) ?_
  refine lv_aload_n hx hb dX12_about_124 rfl (lv_at hl 2 rfl) ?_
  refine x_get E iX12 hP 0 rfl rfl 50 (by decide) wq193 rfl dX12_about_125 ?_
  refine lv_iload_n hx hb dX12_about_128 rfl (lv_at hl 0 rfl) ?_
  refine x_iald (v := 0) E hP 1 rfl (by decide) rfl dX12_about_129 ?_
  refine lv_iadd hx hb dX12_about_130 ?_
  refine x_topi (z := 0) (by decide) ?_
  refine lv_istore_n (lv' := [(2, .int 0), (3, .int 3), (0, .ref h0), (1, .int 4)]) hx hb dX12_about_131 rfl hl (by decide) rfl (fun ls hl => ?_)
  refine lv_iinc (v := 4) (lv' := [(3, .int 4), (2, .int 0), (0, .ref h0), (1, .int 4)]) hx hb dX12_about_132 hl (k := 1) rfl (by decide) (by decide) rfl (fun ls hl => ?_)
  refine lv_goto (tgt := 117) hx hb dX12_about_135 (by decide) ?_
  refine lv_iload_n hx hb dX12_about_117 rfl (lv_at hl 0 rfl) ?_
  refine lv_bipush (v := 10) hx hb dX12_about_118 (by decide) ?_
  refine lv_icmp_ge (tgt := 138) hx hb dX12_about_120 (by decide) (fun c9 => absurd c9 (by decide)) (fun c9 => ?_)
  refine lv_iload_n hx hb dX12_about_123 rfl (lv_at hl 1 rfl) ?_
  refine lv_aload_n hx hb dX12_about_124 rfl (lv_at hl 2 rfl) ?_
  refine x_get E iX12 hP 0 rfl rfl 50 (by decide) wq193 rfl dX12_about_125 ?_
  refine lv_iload_n hx hb dX12_about_128 rfl (lv_at hl 0 rfl) ?_
  refine x_iald (v := 0) E hP 1 rfl (by decide) rfl dX12_about_129 ?_
  refine lv_iadd hx hb dX12_about_130 ?_
  refine x_topi (z := 0) (by decide) ?_
  refine lv_istore_n (lv' := [(2, .int 0), (3, .int 4), (0, .ref h0), (1, .int 4)]) hx hb dX12_about_131 rfl hl (by decide) rfl (fun ls hl => ?_)
  refine lv_iinc (v := 5) (lv' := [(3, .int 5), (2, .int 0), (0, .ref h0), (1, .int 4)]) hx hb dX12_about_132 hl (k := 1) rfl (by decide) (by decide) rfl (fun ls hl => ?_)
  refine lv_goto (tgt := 117) hx hb dX12_about_135 (by decide) ?_
  refine lv_iload_n hx hb dX12_about_117 rfl (lv_at hl 0 rfl) ?_
  refine lv_bipush (v := 10) hx hb dX12_about_118 (by decide) ?_
  refine lv_icmp_ge (tgt := 138) hx hb dX12_about_120 (by decide) (fun c9 => absurd c9 (by decide)) (fun c9 => ?_)
  refine lv_iload_n hx hb dX12_about_123 rfl (lv_at hl 1 rfl) ?_
  refine lv_aload_n hx hb dX12_about_124 rfl (lv_at hl 2 rfl) ?_
  refine x_get E iX12 hP 0 rfl rfl 50 (by decide) wq193 rfl dX12_about_125 ?_
  refine lv_iload_n hx hb dX12_about_128 rfl (lv_at hl 0 rfl) ?_
  refine x_iald (v := 0) E hP 1 rfl (by decide) rfl dX12_about_129 ?_
  refine lv_iadd hx hb dX12_about_130 ?_
  refine x_topi (z := 0) (by decide) ?_
  refine lv_istore_n (lv' := [(2, .int 0), (3, .int 5), (0, .ref h0), (1, .int 4)]) hx hb dX12_about_131 rfl hl (by decide) rfl (fun ls hl => ?_)
  refine lv_iinc (v := 6) (lv' := [(3, .int 6), (2, .int 0), (0, .ref h0), (1, .int 4)]) hx hb dX12_about_132 hl (k := 1) rfl (by decide) (by decide) rfl (fun ls hl => ?_)
  refine lv_goto (tgt := 117) hx hb dX12_about_135 (by decide) ?_
  refine lv_iload_n hx hb dX12_about_117 rfl (lv_at hl 0 rfl) ?_
  refine lv_bipush (v := 10) hx hb dX12_about_118 (by decide) ?_
  refine lv_icmp_ge (tgt := 138) hx hb dX12_about_120 (by decide) (fun c9 => absurd c9 (by decide)) (fun c9 => ?_)
  refine lv_iload_n hx hb dX12_about_123 rfl (lv_at hl 1 rfl) ?_
  refine lv_aload_n hx hb dX12_about_124 rfl (lv_at hl 2 rfl) ?_
  refine x_get E iX12 hP 0 rfl rfl 50 (by decide) wq193 rfl dX12_about_125 ?_
  refine lv_iload_n hx hb dX12_about_128 rfl (lv_at hl 0 rfl) ?_
  refine x_iald (v := 0) E hP 1 rfl (by decide) rfl dX12_about_129 ?_
  refine lv_iadd hx hb dX12_about_130 ?_
  refine x_topi (z := 0) (by decide) ?_
  refine lv_istore_n (lv' := [(2, .int 0), (3, .int 6), (0, .ref h0), (1, .int 4)]) hx hb dX12_about_131 rfl hl (by decide) rfl (fun ls hl => ?_)
  refine lv_iinc (v := 7) (lv' := [(3, .int 7), (2, .int 0), (0, .ref h0), (1, .int 4)]) hx hb dX12_about_132 hl (k := 1) rfl (by decide) (by decide) rfl (fun ls hl => ?_)
  refine lv_goto (tgt := 117) hx hb dX12_about_135 (by decide) ?_
  refine lv_iload_n hx hb dX12_about_117 rfl (lv_at hl 0 rfl) ?_
  refine lv_bipush (v := 10) hx hb dX12_about_118 (by decide) ?_
  refine lv_icmp_ge (tgt := 138) hx hb dX12_about_120 (by decide) (fun c9 => absurd c9 (by decide)) (fun c9 => ?_)
  refine lv_iload_n hx hb dX12_about_123 rfl (lv_at hl 1 rfl) ?_
  refine lv_aload_n hx hb dX12_about_124 rfl (lv_at hl 2 rfl) ?_
  refine x_get E iX12 hP 0 rfl rfl 50 (by decide) wq193 rfl dX12_about_125 ?_
  refine lv_iload_n hx hb dX12_about_128 rfl (lv_at hl 0 rfl) ?_
  refine x_iald (v := 0) E hP 1 rfl (by decide) rfl dX12_about_129 ?_
  refine lv_iadd hx hb dX12_about_130 ?_
  refine x_topi (z := 0) (by decide) ?_
  refine lv_istore_n (lv' := [(2, .int 0), (3, .int 7), (0, .ref h0), (1, .int 4)]) hx hb dX12_about_131 rfl hl (by decide) rfl (fun ls hl => ?_)
  refine lv_iinc (v := 8) (lv' := [(3, .int 8), (2, .int 0), (0, .ref h0), (1, .int 4)]) hx hb dX12_about_132 hl (k := 1) rfl (by decide) (by decide) rfl (fun ls hl => ?_)
  refine lv_goto (tgt := 117) hx hb dX12_about_135 (by decide) ?_
  refine lv_iload_n hx hb dX12_about_117 rfl (lv_at hl 0 rfl) ?_
  refine lv_bipush (v := 10) hx hb dX12_about_118 (by decide) ?_
  refine lv_icmp_ge (tgt := 138) hx hb dX12_about_120 (by decide) (fun c9 => absurd c9 (by decide)) (fun c9 => ?_)
  refine lv_iload_n hx hb dX12_about_123 rfl (lv_at hl 1 rfl) ?_
  refine lv_aload_n hx hb dX12_about_124 rfl (lv_at hl 2 rfl) ?_
  refine x_get E iX12 hP 0 rfl rfl 50 (by decide) wq193 rfl dX12_about_125 ?_
  refine lv_iload_n hx hb dX12_about_128 rfl (lv_at hl 0 rfl) ?_
  refine x_iald (v := 0) E hP 1 rfl (by decide) rfl dX12_about_129 ?_
  refine lv_iadd hx hb dX12_about_130 ?_
  refine x_topi (z := 0) (by decide) ?_
  refine lv_istore_n (lv' := [(2, .int 0), (3, .int 8), (0, .ref h0), (1, .int 4)]) hx hb dX12_about_131 rfl hl (by decide) rfl (fun ls hl => ?_)
  refine lv_iinc (v := 9) (lv' := [(3, .int 9), (2, .int 0), (0, .ref h0), (1, .int 4)]) hx hb dX12_about_132 hl (k := 1) rfl (by decide) (by decide) rfl (fun ls hl => ?_)
  refine lv_goto (tgt := 117) hx hb dX12_about_135 (by decide) ?_
  refine lv_iload_n hx hb dX12_about_117 rfl (lv_at hl 0 rfl) ?_
  refine lv_bipush (v := 10) hx hb dX12_about_118 (by decide) ?_
  refine lv_icmp_ge (tgt := 138) hx hb dX12_about_120 (by decide) (fun c9 => absurd c9 (by decide)) (fun c9 => ?_)
  refine lv_iload_n hx hb dX12_about_123 rfl (lv_at hl 1 rfl) ?_
  refine lv_aload_n hx hb dX12_about_124 rfl (lv_at hl 2 rfl) ?_
  refine x_get E iX12 hP 0 rfl rfl 50 (by decide) wq193 rfl dX12_about_125 ?_
  refine lv_iload_n hx hb dX12_about_128 rfl (lv_at hl 0 rfl) ?_
  refine x_iald (v := 0) E hP 1 rfl (by decide) rfl dX12_about_129 ?_
  refine lv_iadd hx hb dX12_about_130 ?_
  refine x_topi (z := 0) (by decide) ?_
  refine lv_istore_n (lv' := [(2, .int 0), (3, .int 9), (0, .ref h0), (1, .int 4)]) hx hb dX12_about_131 rfl hl (by decide) rfl (fun ls hl => ?_)
  refine lv_iinc (v := 10) (lv' := [(3, .int 10), (2, .int 0), (0, .ref h0), (1, .int 4)]) hx hb dX12_about_132 hl (k := 1) rfl (by decide) (by decide) rfl (fun ls hl => ?_)
  refine lv_goto (tgt := 117) hx hb dX12_about_135 (by decide) ?_
  refine lv_iload_n hx hb dX12_about_117 rfl (lv_at hl 0 rfl) ?_
  refine lv_bipush (v := 10) hx hb dX12_about_118 (by decide) ?_
  refine lv_icmp_ge (tgt := 138) hx hb dX12_about_120 (by decide) (fun c9 => ?_) (fun c9 => absurd (by decide) c9)
  refine lv_aload_n hx hb dX12_about_138 rfl (lv_at hl 2 rfl) ?_
  refine lv_iload_n hx hb dX12_about_139 rfl (lv_at hl 1 rfl) ?_
  refine x_Vi (rest := []) (ws' := fun _ => [(h1, .inl (cyI, 10, .inl (fun _ => 0))), (h0, .inr (12, [.int 0, .int 0, .int (-1), v0_3, v0_4, v0_5, v0_6, v0_7, v0_8, v0_9, v0_10, v0_11, v0_12, v0_13, v0_14, v0_15, v0_16, v0_17, v0_18, v0_19, v0_20, v0_21, v0_22, v0_23, v0_24, v0_25, v0_26, v0_27, v0_28, v0_29, v0_30, v0_31, v0_32, v0_33, v0_34, v0_35, v0_36, v0_37, v0_38, v0_39, v0_40, v0_41, v0_42, v0_43, v0_44, v0_45, v0_46, v0_47, v0_48, v0_49, .ref h1, v0_51, v0_52, v0_53, v0_54, v0_55, v0_56, v0_57, v0_58, v0_59, v0_60, v0_61, v0_62, v0_63, v0_64]))]) (wr := [(h1, .inl (cyI, 10, .inl (fun _ => 0)))]) E (mX12_good l D cyI cyJ Z h0 (.int 0) v0_1 v0_2 v0_3 v0_4 v0_5 v0_6 v0_7 v0_8 v0_9 v0_10 v0_11 v0_12 v0_13 v0_14 v0_15 v0_16 v0_17 v0_18 v0_19 v0_20 v0_21 v0_22 v0_23 v0_24 v0_25 v0_26 v0_27 v0_28 v0_29 v0_30 v0_31 v0_32 v0_33 v0_34 v0_35 v0_36 v0_37 v0_38 v0_39 v0_40 v0_41 v0_42 v0_43 v0_44 v0_45 v0_46 v0_47 v0_48 v0_49 (.ref h1) v0_51 v0_52 v0_53 v0_54 v0_55 v0_56 v0_57 v0_58 v0_59 v0_60 v0_61 v0_62 v0_63 v0_64) kX12_good wq439 wq440 wq441 ⟨rfl, rfl, Nat.le_of_ble_eq_true rfl, Nat.le_of_ble_eq_true rfl⟩ hP hD hS hA [0] [1] rfl rfl (by decide) (fun _ => rfl) 0 rfl rfl rfl hl.1 rfl (Nat.le_of_ble_eq_true rfl) dX12_about_140 ⟨rfl, rfl⟩ ⟨Nat.le_of_ble_eq_true rfl, Nat.le_of_ble_eq_true rfl⟩ (fun _ H locs hP hD hS => ?_)
  exact x_iret E hr hlk hP hD hS () rfl [] (by decide) rfl rfl dX12_about_143

set_option maxHeartbeats 4000000 in
set_option maxRecDepth 100000 in
theorem mX11_about_5 (l : Launch) (D : va_G) (cyI cyJ : ClassId) (Z : xZ) (h0 : Nat) (h1 : Nat) (v0_0 : Value) (v0_1 : Value) (v0_2 : Value) (v0_3 : Value) (v0_4 : Value) (v0_5 : Value) (v0_6 : Value) (v0_7 : Value) (v0_8 : Value) (v0_9 : Value) (v0_10 : Value) (v0_11 : Value) (v0_12 : Value) (v0_13 : Value) (v0_14 : Value) (v1_0 : Value) (v1_1 : Value) (v1_2 : Value) : MetI l yX11_about (Cond.code yX11_about cX11_about 2 (some .int)) { frames := 1, cells := 0, slots := 0, locals := 21 } D cyI cyJ Z [.ref h0, .int 5] [(h0, .inr (11, [v0_0, v0_1, v0_2, v0_3, v0_4, v0_5, v0_6, v0_7, v0_8, v0_9, v0_10, v0_11, v0_12, v0_13, v0_14, .ref h1])), (h1, .inr (10, [v1_0, v1_1, v1_2, .int 0]))] (fun _ : Unit => 0) (fun _ : Unit => ([] : va_W)) 0 0 := by
  refine met_i (by decide) rfl ?_
  intro p e s m below meth c A ls E hr hlk hP hD hA hl
  have hS : va_S A s.heap s.heap [] := va_S.rf
  have hx := E.1.1
  have hb := E.1.2.1
  have hl : lv_has ls 2 [(0, .ref h0), (1, .int 5)] := hl
  refine lv_iload_n hx hb dX11_about_0 rfl (lv_at hl 1 rfl) ?_
  refine lv_tableIn (tgt := 100) (off := 99) hx hb dX11_about_1 (by decide) (by decide) (by decide) (by decide) ?_
  refine lv_aload_n hx hb dX11_about_100 rfl (lv_at hl 0 rfl) ?_
  refine lv_aload_n hx hb dX11_about_101 rfl (lv_at hl 0 rfl) ?_
  refine x_get E iX11 hP 0 rfl rfl 15 (by decide) wq161 rfl dX11_about_102 ?_
  refine x_getN E iX10 hP 1 rfl rfl 3 (by decide) qn11 rfl dX11_about_105 ?_
  refine x_Vi (rest := []) (ws' := fun _ => [(h1, .inr (10, [v1_0, v1_1, v1_2, .int 0])), (h0, .inr (11, [v0_0, v0_1, v0_2, v0_3, .int 0, v0_5, v0_6, v0_7, v0_8, v0_9, v0_10, v0_11, v0_12, v0_13, v0_14, .ref h1]))]) (wr := [(h1, .inr (10, [v1_0, v1_1, v1_2, .int 0]))]) E (mX11_answered l D cyI cyJ Z h0 v0_0 v0_1 v0_2 v0_3 v0_4 v0_5 v0_6 v0_7 v0_8 v0_9 v0_10 v0_11 v0_12 v0_13 v0_14 (.ref h1)) kX11_answered wq436 wq437 wq438 ⟨rfl, rfl, Nat.le_of_ble_eq_true rfl, Nat.le_of_ble_eq_true rfl⟩ hP hD hS hA [0] [1] rfl rfl (by decide) (fun _ => rfl) 0 rfl rfl rfl hl.1 rfl (Nat.le_of_ble_eq_true rfl) dX11_about_108 ⟨rfl, rfl⟩ ⟨Nat.le_of_ble_eq_true rfl, Nat.le_of_ble_eq_true rfl⟩ (fun _ H locs hP hD hS => ?_)
  exact x_iret E hr hlk hP hD hS () rfl [] (by decide) rfl rfl dX11_about_111

set_option maxHeartbeats 4000000 in
set_option maxRecDepth 100000 in
theorem mX12_about_5 (l : Launch) (D : va_G) (cyI cyJ : ClassId) (Z : xZ) (h0 : Nat) (h1 : Nat) (v0_0 : Value) (v0_1 : Value) (v0_2 : Value) (v0_3 : Value) (v0_4 : Value) (v0_5 : Value) (v0_6 : Value) (v0_7 : Value) (v0_8 : Value) (v0_9 : Value) (v0_10 : Value) (v0_11 : Value) (v0_12 : Value) (v0_13 : Value) (v0_14 : Value) (v0_15 : Value) (v0_16 : Value) (v0_17 : Value) (v0_18 : Value) (v0_19 : Value) (v0_20 : Value) (v0_21 : Value) (v0_22 : Value) (v0_23 : Value) (v0_24 : Value) (v0_25 : Value) (v0_26 : Value) (v0_27 : Value) (v0_28 : Value) (v0_29 : Value) (v0_30 : Value) (v0_31 : Value) (v0_32 : Value) (v0_33 : Value) (v0_34 : Value) (v0_35 : Value) (v0_36 : Value) (v0_37 : Value) (v0_38 : Value) (v0_39 : Value) (v0_40 : Value) (v0_41 : Value) (v0_42 : Value) (v0_43 : Value) (v0_44 : Value) (v0_45 : Value) (v0_46 : Value) (v0_48 : Value) (v0_49 : Value) (v0_50 : Value) (v0_51 : Value) (v0_52 : Value) (v0_53 : Value) (v0_54 : Value) (v0_55 : Value) (v0_56 : Value) (v0_57 : Value) (v0_58 : Value) (v0_59 : Value) (v0_60 : Value) (v0_61 : Value) (v0_62 : Value) (v0_63 : Value) (v0_64 : Value) : MetI l yX12_about (Cond.code yX12_about cX12_about 4 (some .int)) { frames := 1, cells := 0, slots := 0, locals := 21 } D cyI cyJ Z [.ref h0, .int 5] [(h0, .inr (12, [v0_0, v0_1, v0_2, v0_3, v0_4, v0_5, v0_6, v0_7, v0_8, v0_9, v0_10, v0_11, v0_12, v0_13, v0_14, v0_15, v0_16, v0_17, v0_18, v0_19, v0_20, v0_21, v0_22, v0_23, v0_24, v0_25, v0_26, v0_27, v0_28, v0_29, v0_30, v0_31, v0_32, v0_33, v0_34, v0_35, v0_36, v0_37, v0_38, v0_39, v0_40, v0_41, v0_42, v0_43, v0_44, v0_45, v0_46, .ref h1, v0_48, v0_49, v0_50, v0_51, v0_52, v0_53, v0_54, v0_55, v0_56, v0_57, v0_58, v0_59, v0_60, v0_61, v0_62, v0_63, v0_64])), (h1, .inl (cyI, 3, .inl (fun _ => 0)))] (fun _ : Unit => 0) (fun _ : Unit => ([] : va_W)) 0 0 := by
  refine met_i (by decide) rfl ?_
  intro p e s m below meth c A ls E hr hlk hP hD hA hl
  have hS : va_S A s.heap s.heap [] := va_S.rf
  have hx := E.1.1
  have hb := E.1.2.1
  have hl : lv_has ls 4 [(0, .ref h0), (1, .int 5)] := hl
  refine lv_aload_n hx hb dX12_about_0 rfl (lv_at hl 0 rfl) ?_
  refine lv_iconst (v := 0) hx hb dX12_about_1 (by decide) ?_
  refine x_put (ws' := [(h0, .inr (12, [.int 0, v0_1, v0_2, v0_3, v0_4, v0_5, v0_6, v0_7, v0_8, v0_9, v0_10, v0_11, v0_12, v0_13, v0_14, v0_15, v0_16, v0_17, v0_18, v0_19, v0_20, v0_21, v0_22, v0_23, v0_24, v0_25, v0_26, v0_27, v0_28, v0_29, v0_30, v0_31, v0_32, v0_33, v0_34, v0_35, v0_36, v0_37, v0_38, v0_39, v0_40, v0_41, v0_42, v0_43, v0_44, v0_45, v0_46, .ref h1, v0_48, v0_49, v0_50, v0_51, v0_52, v0_53, v0_54, v0_55, v0_56, v0_57, v0_58, v0_59, v0_60, v0_61, v0_62, v0_63, v0_64])), (h1, .inl (cyI, 3, .inl (fun _ => 0)))]) E iX12 tyX12 tyX12_ok nmX12 hP hD hS 0 rfl rfl 0 (by decide) wq202 rfl rfl rfl rfl rfl dX12_about_2 (fun H locs hP hD hS => ?_)
  refine lv_iconst (v := 0) hx hb dX12_about_5 (by decide) ?_
  refine lv_istore_n (lv' := [(2, .int 0), (0, .ref h0), (1, .int 5)]) hx hb dX12_about_6 rfl hl (by decide) rfl (fun ls hl => ?_)
  refine lv_iload_n hx hb dX12_about_7 rfl (lv_at hl 2 rfl) ?_
  refine lv_tableIn (tgt := 144) (off := 136) hx hb dX12_about_8 (by decide) (by decide) (by decide) (by decide) ?_
  refine lv_aload_n hx hb dX12_about_144 rfl (lv_at hl 1 rfl) ?_
  refine lv_aload_n hx hb dX12_about_145 rfl (lv_at hl 1 rfl) ?_
  refine x_get E iX12 hP 0 rfl rfl 47 (by decide) wq191 rfl dX12_about_146 ?_
  refine lv_iconst (v := 2) hx hb dX12_about_149 (by decide) ?_
  refine x_iald (v := 0) E hP 1 rfl (by decide) rfl dX12_about_150 ?_
  refine x_Vi (rest := []) (ws' := fun _ => [(h1, .inl (cyI, 3, .inl (fun _ => 0))), (h0, .inr (12, [.int 0, .int 0, .int (-1), v0_3, v0_4, v0_5, v0_6, v0_7, v0_8, v0_9, v0_10, v0_11, v0_12, v0_13, v0_14, v0_15, v0_16, v0_17, v0_18, v0_19, v0_20, v0_21, v0_22, v0_23, v0_24, v0_25, v0_26, v0_27, v0_28, v0_29, v0_30, v0_31, v0_32, v0_33, v0_34, v0_35, v0_36, v0_37, v0_38, v0_39, v0_40, v0_41, v0_42, v0_43, v0_44, v0_45, v0_46, .ref h1, v0_48, v0_49, v0_50, v0_51, v0_52, v0_53, v0_54, v0_55, v0_56, v0_57, v0_58, v0_59, v0_60, v0_61, v0_62, v0_63, v0_64]))]) (wr := [(h1, .inl (cyI, 3, .inl (fun _ => 0)))]) E (mX12_good l D cyI cyJ Z h0 (.int 0) v0_1 v0_2 v0_3 v0_4 v0_5 v0_6 v0_7 v0_8 v0_9 v0_10 v0_11 v0_12 v0_13 v0_14 v0_15 v0_16 v0_17 v0_18 v0_19 v0_20 v0_21 v0_22 v0_23 v0_24 v0_25 v0_26 v0_27 v0_28 v0_29 v0_30 v0_31 v0_32 v0_33 v0_34 v0_35 v0_36 v0_37 v0_38 v0_39 v0_40 v0_41 v0_42 v0_43 v0_44 v0_45 v0_46 (.ref h1) v0_48 v0_49 v0_50 v0_51 v0_52 v0_53 v0_54 v0_55 v0_56 v0_57 v0_58 v0_59 v0_60 v0_61 v0_62 v0_63 v0_64) kX12_good wq439 wq440 wq441 ⟨rfl, rfl, Nat.le_of_ble_eq_true rfl, Nat.le_of_ble_eq_true rfl⟩ hP hD hS hA [0] [1] rfl rfl (by decide) (fun _ => rfl) 0 rfl rfl rfl hl.1 rfl (Nat.le_of_ble_eq_true rfl) dX12_about_151 ⟨rfl, rfl⟩ ⟨Nat.le_of_ble_eq_true rfl, Nat.le_of_ble_eq_true rfl⟩ (fun _ H locs hP hD hS => ?_)
  exact x_iret E hr hlk hP hD hS () rfl [] (by decide) rfl rfl dX12_about_154

set_option maxHeartbeats 4000000 in
set_option maxRecDepth 100000 in
theorem mX11_refused_2 (l : Launch) (D : va_G) (cyI cyJ : ClassId) (Z : xZ) (h0 : Nat) (v0_0 : Value) (v0_1 : Value) (v0_2 : Value) (v0_3 : Value) (v0_4 : Value) (v0_5 : Value) (v0_6 : Value) (v0_7 : Value) (v0_8 : Value) (v0_9 : Value) (v0_10 : Value) (v0_11 : Value) (v0_12 : Value) (v0_13 : Value) (v0_14 : Value) (v0_15 : Value) : MetI l yX11_refused (Cond.code yX11_refused cX11_refused 2 (some .int)) { frames := 0, cells := 0, slots := 0, locals := 0 } D cyI cyJ Z [.ref h0, .int 1] [(h0, .inr (11, [v0_0, v0_1, v0_2, v0_3, v0_4, v0_5, v0_6, v0_7, v0_8, v0_9, v0_10, v0_11, v0_12, v0_13, v0_14, v0_15]))] (fun _ : Unit => (-1)) (fun _ : Unit => ([(h0, .inr (11, [v0_0, v0_1, v0_2, v0_3, .int 1, v0_5, v0_6, v0_7, v0_8, v0_9, v0_10, v0_11, v0_12, v0_13, v0_14, v0_15]))] : va_W)) 0 0 := by
  refine met_i (by decide) rfl ?_
  intro p e s m below meth c A ls E hr hlk hP hD hA hl
  have hS : va_S A s.heap s.heap [] := va_S.rf
  have hx := E.1.1
  have hb := E.1.2.1
  have hl : lv_has ls 2 [(0, .ref h0), (1, .int 1)] := hl
  refine lv_aload_n hx hb dX11_refused_0 rfl (lv_at hl 0 rfl) ?_
  refine lv_iload_n hx hb dX11_refused_1 rfl (lv_at hl 1 rfl) ?_
  refine x_put (ws' := [(h0, .inr (11, [v0_0, v0_1, v0_2, v0_3, .int 1, v0_5, v0_6, v0_7, v0_8, v0_9, v0_10, v0_11, v0_12, v0_13, v0_14, v0_15]))]) E iX11 tyX11 tyX11_ok nmX11 hP hD hS 0 rfl rfl 4 (by decide) wq276 rfl rfl rfl rfl rfl dX11_refused_2 (fun H locs hP hD hS => ?_)
  refine lv_iconst (v := (-1)) hx hb dX11_refused_5 (by decide) ?_
  exact x_iret E hr hlk hP hD hS () rfl [0] (by decide) rfl rfl dX11_refused_6

set_option maxHeartbeats 4000000 in
set_option maxRecDepth 100000 in
theorem mX11_about_6 (l : Launch) (D : va_G) (cyI cyJ : ClassId) (Z : xZ) (h0 : Nat) (p0 : Int32) (hf1_0 : p0 < 0) (v0_0 : Value) (v0_1 : Value) (v0_2 : Value) (v0_3 : Value) (v0_4 : Value) (v0_5 : Value) (v0_6 : Value) (v0_7 : Value) (v0_8 : Value) (v0_9 : Value) (v0_10 : Value) (v0_11 : Value) (v0_12 : Value) (v0_13 : Value) (v0_14 : Value) (v0_15 : Value) : MetI l yX11_about (Cond.code yX11_about cX11_about 2 (some .int)) { frames := 1, cells := 0, slots := 0, locals := 21 } D cyI cyJ Z [.ref h0, .int p0] [(h0, .inr (11, [v0_0, v0_1, v0_2, v0_3, v0_4, v0_5, v0_6, v0_7, v0_8, v0_9, v0_10, v0_11, v0_12, v0_13, v0_14, v0_15]))] (fun _ : Unit => (-1)) (fun _ : Unit => ([] : va_W)) 0 0 := by
  refine met_i (by decide) rfl ?_
  intro p e s m below meth c A ls E hr hlk hP hD hA hl
  have hS : va_S A s.heap s.heap [] := va_S.rf
  have hx := E.1.1
  have hb := E.1.2.1
  have hl : lv_has ls 2 [(0, .ref h0), (1, .int p0)] := hl
  refine lv_iload_n hx hb dX11_about_0 rfl (lv_at hl 1 rfl) ?_
  refine lv_tableOut (tgt := 112) hx hb dX11_about_1 (by have k0 : (p0 : Int32).toInt < (0 : Int32).toInt := Int32.lt_iff_toInt_lt.mp hf1_0; have l0 : (0 : Int32).toInt = 0 := (by decide); omega) (by decide) ?_
  refine lv_aload_n hx hb dX11_about_112 rfl (lv_at hl 0 rfl) ?_
  refine lv_iconst (v := 1) hx hb dX11_about_113 (by decide) ?_
  refine x_Vi (rest := []) (ws' := fun _ => [(h0, .inr (11, [v0_0, v0_1, v0_2, v0_3, .int 1, v0_5, v0_6, v0_7, v0_8, v0_9, v0_10, v0_11, v0_12, v0_13, v0_14, v0_15]))]) (wr := []) E (mX11_refused_2 l D cyI cyJ Z h0 v0_0 v0_1 v0_2 v0_3 v0_4 v0_5 v0_6 v0_7 v0_8 v0_9 v0_10 v0_11 v0_12 v0_13 v0_14 v0_15) kX11_refused wq277 wq278 wq279 ⟨rfl, rfl, Nat.le_of_ble_eq_true rfl, Nat.le_of_ble_eq_true rfl⟩ hP hD hS hA [0] [] rfl rfl (by decide) (fun _ => rfl) 0 rfl rfl rfl hl.1 rfl (Nat.le_of_ble_eq_true rfl) dX11_about_114 ⟨rfl, rfl⟩ ⟨Nat.le_of_ble_eq_true rfl, Nat.le_of_ble_eq_true rfl⟩ (fun _ H locs hP hD hS => ?_)
  exact x_iret E hr hlk hP hD hS () rfl [] (by decide) rfl rfl dX11_about_117

set_option maxHeartbeats 4000000 in
set_option maxRecDepth 100000 in
theorem mX12_refused_1 (l : Launch) (D : va_G) (cyI cyJ : ClassId) (Z : xZ) (h0 : Nat) (v0_0 : Value) (v0_1 : Value) (v0_2 : Value) (v0_3 : Value) (v0_4 : Value) (v0_5 : Value) (v0_6 : Value) (v0_7 : Value) (v0_8 : Value) (v0_9 : Value) (v0_10 : Value) (v0_11 : Value) (v0_12 : Value) (v0_13 : Value) (v0_14 : Value) (v0_15 : Value) (v0_16 : Value) (v0_17 : Value) (v0_18 : Value) (v0_19 : Value) (v0_20 : Value) (v0_21 : Value) (v0_22 : Value) (v0_23 : Value) (v0_24 : Value) (v0_25 : Value) (v0_26 : Value) (v0_27 : Value) (v0_28 : Value) (v0_29 : Value) (v0_30 : Value) (v0_31 : Value) (v0_32 : Value) (v0_33 : Value) (v0_34 : Value) (v0_35 : Value) (v0_36 : Value) (v0_37 : Value) (v0_38 : Value) (v0_39 : Value) (v0_40 : Value) (v0_41 : Value) (v0_42 : Value) (v0_43 : Value) (v0_44 : Value) (v0_45 : Value) (v0_46 : Value) (v0_47 : Value) (v0_48 : Value) (v0_49 : Value) (v0_50 : Value) (v0_51 : Value) (v0_52 : Value) (v0_53 : Value) (v0_54 : Value) (v0_55 : Value) (v0_56 : Value) (v0_57 : Value) (v0_58 : Value) (v0_59 : Value) (v0_60 : Value) (v0_61 : Value) (v0_62 : Value) (v0_63 : Value) (v0_64 : Value) : MetI l yX12_refused (Cond.code yX12_refused cX12_refused 2 (some .int)) { frames := 0, cells := 0, slots := 0, locals := 0 } D cyI cyJ Z [.ref h0, .int 1] [(h0, .inr (12, [v0_0, v0_1, v0_2, v0_3, v0_4, v0_5, v0_6, v0_7, v0_8, v0_9, v0_10, v0_11, v0_12, v0_13, v0_14, v0_15, v0_16, v0_17, v0_18, v0_19, v0_20, v0_21, v0_22, v0_23, v0_24, v0_25, v0_26, v0_27, v0_28, v0_29, v0_30, v0_31, v0_32, v0_33, v0_34, v0_35, v0_36, v0_37, v0_38, v0_39, v0_40, v0_41, v0_42, v0_43, v0_44, v0_45, v0_46, v0_47, v0_48, v0_49, v0_50, v0_51, v0_52, v0_53, v0_54, v0_55, v0_56, v0_57, v0_58, v0_59, v0_60, v0_61, v0_62, v0_63, v0_64]))] (fun _ : Unit => (-1)) (fun _ : Unit => ([(h0, .inr (12, [v0_0, .int 1, .int (-1), v0_3, v0_4, v0_5, v0_6, v0_7, v0_8, v0_9, v0_10, v0_11, v0_12, v0_13, v0_14, v0_15, v0_16, v0_17, v0_18, v0_19, v0_20, v0_21, v0_22, v0_23, v0_24, v0_25, v0_26, v0_27, v0_28, v0_29, v0_30, v0_31, v0_32, v0_33, v0_34, v0_35, v0_36, v0_37, v0_38, v0_39, v0_40, v0_41, v0_42, v0_43, v0_44, v0_45, v0_46, v0_47, v0_48, v0_49, v0_50, v0_51, v0_52, v0_53, v0_54, v0_55, v0_56, v0_57, v0_58, v0_59, v0_60, v0_61, v0_62, v0_63, v0_64]))] : va_W)) 0 0 := by
  refine met_i (by decide) rfl ?_
  intro p e s m below meth c A ls E hr hlk hP hD hA hl
  have hS : va_S A s.heap s.heap [] := va_S.rf
  have hx := E.1.1
  have hb := E.1.2.1
  have hl : lv_has ls 2 [(0, .ref h0), (1, .int 1)] := hl
  refine lv_aload_n hx hb dX12_refused_0 rfl (lv_at hl 0 rfl) ?_
  refine lv_iload_n hx hb dX12_refused_1 rfl (lv_at hl 1 rfl) ?_
  refine x_put (ws' := [(h0, .inr (12, [v0_0, .int 1, v0_2, v0_3, v0_4, v0_5, v0_6, v0_7, v0_8, v0_9, v0_10, v0_11, v0_12, v0_13, v0_14, v0_15, v0_16, v0_17, v0_18, v0_19, v0_20, v0_21, v0_22, v0_23, v0_24, v0_25, v0_26, v0_27, v0_28, v0_29, v0_30, v0_31, v0_32, v0_33, v0_34, v0_35, v0_36, v0_37, v0_38, v0_39, v0_40, v0_41, v0_42, v0_43, v0_44, v0_45, v0_46, v0_47, v0_48, v0_49, v0_50, v0_51, v0_52, v0_53, v0_54, v0_55, v0_56, v0_57, v0_58, v0_59, v0_60, v0_61, v0_62, v0_63, v0_64]))]) E iX12 tyX12 tyX12_ok nmX12 hP hD hS 0 rfl rfl 1 (by decide) wq331 rfl rfl rfl rfl rfl dX12_refused_2 (fun H locs hP hD hS => ?_)
  refine lv_aload_n hx hb dX12_refused_5 rfl (lv_at hl 0 rfl) ?_
  refine lv_iconst (v := (-1)) hx hb dX12_refused_6 (by decide) ?_
  refine x_put (ws' := [(h0, .inr (12, [v0_0, .int 1, .int (-1), v0_3, v0_4, v0_5, v0_6, v0_7, v0_8, v0_9, v0_10, v0_11, v0_12, v0_13, v0_14, v0_15, v0_16, v0_17, v0_18, v0_19, v0_20, v0_21, v0_22, v0_23, v0_24, v0_25, v0_26, v0_27, v0_28, v0_29, v0_30, v0_31, v0_32, v0_33, v0_34, v0_35, v0_36, v0_37, v0_38, v0_39, v0_40, v0_41, v0_42, v0_43, v0_44, v0_45, v0_46, v0_47, v0_48, v0_49, v0_50, v0_51, v0_52, v0_53, v0_54, v0_55, v0_56, v0_57, v0_58, v0_59, v0_60, v0_61, v0_62, v0_63, v0_64]))]) E iX12 tyX12 tyX12_ok nmX12 hP hD hS 0 rfl rfl 2 (by decide) wq163 rfl rfl rfl rfl rfl dX12_refused_7 (fun H locs hP hD hS => ?_)
  refine lv_iconst (v := (-1)) hx hb dX12_refused_10 (by decide) ?_
  exact x_iret E hr hlk hP hD hS () rfl [0] (by decide) rfl rfl dX12_refused_11

set_option maxHeartbeats 4000000 in
set_option maxRecDepth 100000 in
theorem mX12_about_6 (l : Launch) (D : va_G) (cyI cyJ : ClassId) (Z : xZ) (h0 : Nat) (p0 : Int32) (hf1_0 : p0 < 0) (v0_0 : Value) (v0_1 : Value) (v0_2 : Value) (v0_3 : Value) (v0_4 : Value) (v0_5 : Value) (v0_6 : Value) (v0_7 : Value) (v0_8 : Value) (v0_9 : Value) (v0_10 : Value) (v0_11 : Value) (v0_12 : Value) (v0_13 : Value) (v0_14 : Value) (v0_15 : Value) (v0_16 : Value) (v0_17 : Value) (v0_18 : Value) (v0_19 : Value) (v0_20 : Value) (v0_21 : Value) (v0_22 : Value) (v0_23 : Value) (v0_24 : Value) (v0_25 : Value) (v0_26 : Value) (v0_27 : Value) (v0_28 : Value) (v0_29 : Value) (v0_30 : Value) (v0_31 : Value) (v0_32 : Value) (v0_33 : Value) (v0_34 : Value) (v0_35 : Value) (v0_36 : Value) (v0_37 : Value) (v0_38 : Value) (v0_39 : Value) (v0_40 : Value) (v0_41 : Value) (v0_42 : Value) (v0_43 : Value) (v0_44 : Value) (v0_45 : Value) (v0_46 : Value) (v0_47 : Value) (v0_48 : Value) (v0_49 : Value) (v0_50 : Value) (v0_51 : Value) (v0_52 : Value) (v0_53 : Value) (v0_54 : Value) (v0_55 : Value) (v0_56 : Value) (v0_57 : Value) (v0_58 : Value) (v0_59 : Value) (v0_60 : Value) (v0_61 : Value) (v0_62 : Value) (v0_63 : Value) (v0_64 : Value) : MetI l yX12_about (Cond.code yX12_about cX12_about 4 (some .int)) { frames := 1, cells := 0, slots := 0, locals := 21 } D cyI cyJ Z [.ref h0, .int p0] [(h0, .inr (12, [v0_0, v0_1, v0_2, v0_3, v0_4, v0_5, v0_6, v0_7, v0_8, v0_9, v0_10, v0_11, v0_12, v0_13, v0_14, v0_15, v0_16, v0_17, v0_18, v0_19, v0_20, v0_21, v0_22, v0_23, v0_24, v0_25, v0_26, v0_27, v0_28, v0_29, v0_30, v0_31, v0_32, v0_33, v0_34, v0_35, v0_36, v0_37, v0_38, v0_39, v0_40, v0_41, v0_42, v0_43, v0_44, v0_45, v0_46, v0_47, v0_48, v0_49, v0_50, v0_51, v0_52, v0_53, v0_54, v0_55, v0_56, v0_57, v0_58, v0_59, v0_60, v0_61, v0_62, v0_63, v0_64]))] (fun _ : Unit => (-1)) (fun _ : Unit => ([] : va_W)) 0 0 := by
  refine met_i (by decide) rfl ?_
  intro p e s m below meth c A ls E hr hlk hP hD hA hl
  have hS : va_S A s.heap s.heap [] := va_S.rf
  have hx := E.1.1
  have hb := E.1.2.1
  have hl : lv_has ls 4 [(0, .ref h0), (1, .int p0)] := hl
  refine lv_aload_n hx hb dX12_about_0 rfl (lv_at hl 0 rfl) ?_
  refine lv_iconst (v := 0) hx hb dX12_about_1 (by decide) ?_
  refine x_put (ws' := [(h0, .inr (12, [.int 0, v0_1, v0_2, v0_3, v0_4, v0_5, v0_6, v0_7, v0_8, v0_9, v0_10, v0_11, v0_12, v0_13, v0_14, v0_15, v0_16, v0_17, v0_18, v0_19, v0_20, v0_21, v0_22, v0_23, v0_24, v0_25, v0_26, v0_27, v0_28, v0_29, v0_30, v0_31, v0_32, v0_33, v0_34, v0_35, v0_36, v0_37, v0_38, v0_39, v0_40, v0_41, v0_42, v0_43, v0_44, v0_45, v0_46, v0_47, v0_48, v0_49, v0_50, v0_51, v0_52, v0_53, v0_54, v0_55, v0_56, v0_57, v0_58, v0_59, v0_60, v0_61, v0_62, v0_63, v0_64]))]) E iX12 tyX12 tyX12_ok nmX12 hP hD hS 0 rfl rfl 0 (by decide) wq202 rfl rfl rfl rfl rfl dX12_about_2 (fun H locs hP hD hS => ?_)
  refine lv_iconst (v := 0) hx hb dX12_about_5 (by decide) ?_
  refine lv_istore_n (lv' := [(2, .int 0), (0, .ref h0), (1, .int p0)]) hx hb dX12_about_6 rfl hl (by decide) rfl (fun ls hl => ?_)
  refine lv_iload_n hx hb dX12_about_7 rfl (lv_at hl 2 rfl) ?_
  refine lv_tableOut (tgt := 155) hx hb dX12_about_8 (by have k0 : (p0 : Int32).toInt < (0 : Int32).toInt := Int32.lt_iff_toInt_lt.mp hf1_0; have l0 : (0 : Int32).toInt = 0 := (by decide); omega) (by decide) ?_
  refine lv_aload_n hx hb dX12_about_155 rfl (lv_at hl 1 rfl) ?_
  refine lv_iconst (v := 1) hx hb dX12_about_156 (by decide) ?_
  refine x_Vi (rest := []) (ws' := fun _ => [(h0, .inr (12, [.int 0, .int 1, .int (-1), v0_3, v0_4, v0_5, v0_6, v0_7, v0_8, v0_9, v0_10, v0_11, v0_12, v0_13, v0_14, v0_15, v0_16, v0_17, v0_18, v0_19, v0_20, v0_21, v0_22, v0_23, v0_24, v0_25, v0_26, v0_27, v0_28, v0_29, v0_30, v0_31, v0_32, v0_33, v0_34, v0_35, v0_36, v0_37, v0_38, v0_39, v0_40, v0_41, v0_42, v0_43, v0_44, v0_45, v0_46, v0_47, v0_48, v0_49, v0_50, v0_51, v0_52, v0_53, v0_54, v0_55, v0_56, v0_57, v0_58, v0_59, v0_60, v0_61, v0_62, v0_63, v0_64]))]) (wr := []) E (mX12_refused_1 l D cyI cyJ Z h0 (.int 0) v0_1 v0_2 v0_3 v0_4 v0_5 v0_6 v0_7 v0_8 v0_9 v0_10 v0_11 v0_12 v0_13 v0_14 v0_15 v0_16 v0_17 v0_18 v0_19 v0_20 v0_21 v0_22 v0_23 v0_24 v0_25 v0_26 v0_27 v0_28 v0_29 v0_30 v0_31 v0_32 v0_33 v0_34 v0_35 v0_36 v0_37 v0_38 v0_39 v0_40 v0_41 v0_42 v0_43 v0_44 v0_45 v0_46 v0_47 v0_48 v0_49 v0_50 v0_51 v0_52 v0_53 v0_54 v0_55 v0_56 v0_57 v0_58 v0_59 v0_60 v0_61 v0_62 v0_63 v0_64) kX12_refused wq335 wq336 wq337 ⟨rfl, rfl, Nat.le_of_ble_eq_true rfl, Nat.le_of_ble_eq_true rfl⟩ hP hD hS hA [0] [] rfl rfl (by decide) (fun _ => rfl) 0 rfl rfl rfl hl.1 rfl (Nat.le_of_ble_eq_true rfl) dX12_about_157 ⟨rfl, rfl⟩ ⟨Nat.le_of_ble_eq_true rfl, Nat.le_of_ble_eq_true rfl⟩ (fun _ H locs hP hD hS => ?_)
  exact x_iret E hr hlk hP hD hS () rfl [] (by decide) rfl rfl dX12_about_160

set_option maxHeartbeats 4000000 in
set_option maxRecDepth 100000 in
theorem mX11_about_7 (l : Launch) (D : va_G) (cyI cyJ : ClassId) (Z : xZ) (h0 : Nat) (p0 : Int32) (hf1_0 : 5 < p0) (v0_0 : Value) (v0_1 : Value) (v0_2 : Value) (v0_3 : Value) (v0_4 : Value) (v0_5 : Value) (v0_6 : Value) (v0_7 : Value) (v0_8 : Value) (v0_9 : Value) (v0_10 : Value) (v0_11 : Value) (v0_12 : Value) (v0_13 : Value) (v0_14 : Value) (v0_15 : Value) : MetI l yX11_about (Cond.code yX11_about cX11_about 2 (some .int)) { frames := 1, cells := 0, slots := 0, locals := 21 } D cyI cyJ Z [.ref h0, .int p0] [(h0, .inr (11, [v0_0, v0_1, v0_2, v0_3, v0_4, v0_5, v0_6, v0_7, v0_8, v0_9, v0_10, v0_11, v0_12, v0_13, v0_14, v0_15]))] (fun _ : Unit => (-1)) (fun _ : Unit => ([] : va_W)) 0 0 := by
  refine met_i (by decide) rfl ?_
  intro p e s m below meth c A ls E hr hlk hP hD hA hl
  have hS : va_S A s.heap s.heap [] := va_S.rf
  have hx := E.1.1
  have hb := E.1.2.1
  have hl : lv_has ls 2 [(0, .ref h0), (1, .int p0)] := hl
  refine lv_iload_n hx hb dX11_about_0 rfl (lv_at hl 1 rfl) ?_
  refine lv_tableOut (tgt := 112) hx hb dX11_about_1 (by have k0 : (5 : Int32).toInt < (p0 : Int32).toInt := Int32.lt_iff_toInt_lt.mp hf1_0; have l0 : (5 : Int32).toInt = 5 := (by decide); omega) (by decide) ?_
  refine lv_aload_n hx hb dX11_about_112 rfl (lv_at hl 0 rfl) ?_
  refine lv_iconst (v := 1) hx hb dX11_about_113 (by decide) ?_
  refine x_Vi (rest := []) (ws' := fun _ => [(h0, .inr (11, [v0_0, v0_1, v0_2, v0_3, .int 1, v0_5, v0_6, v0_7, v0_8, v0_9, v0_10, v0_11, v0_12, v0_13, v0_14, v0_15]))]) (wr := []) E (mX11_refused_2 l D cyI cyJ Z h0 v0_0 v0_1 v0_2 v0_3 v0_4 v0_5 v0_6 v0_7 v0_8 v0_9 v0_10 v0_11 v0_12 v0_13 v0_14 v0_15) kX11_refused wq277 wq278 wq279 ⟨rfl, rfl, Nat.le_of_ble_eq_true rfl, Nat.le_of_ble_eq_true rfl⟩ hP hD hS hA [0] [] rfl rfl (by decide) (fun _ => rfl) 0 rfl rfl rfl hl.1 rfl (Nat.le_of_ble_eq_true rfl) dX11_about_114 ⟨rfl, rfl⟩ ⟨Nat.le_of_ble_eq_true rfl, Nat.le_of_ble_eq_true rfl⟩ (fun _ H locs hP hD hS => ?_)
  exact x_iret E hr hlk hP hD hS () rfl [] (by decide) rfl rfl dX11_about_117

set_option maxHeartbeats 4000000 in
set_option maxRecDepth 100000 in
theorem mX12_about_7 (l : Launch) (D : va_G) (cyI cyJ : ClassId) (Z : xZ) (h0 : Nat) (p0 : Int32) (hf1_0 : 5 < p0) (v0_0 : Value) (v0_1 : Value) (v0_2 : Value) (v0_3 : Value) (v0_4 : Value) (v0_5 : Value) (v0_6 : Value) (v0_7 : Value) (v0_8 : Value) (v0_9 : Value) (v0_10 : Value) (v0_11 : Value) (v0_12 : Value) (v0_13 : Value) (v0_14 : Value) (v0_15 : Value) (v0_16 : Value) (v0_17 : Value) (v0_18 : Value) (v0_19 : Value) (v0_20 : Value) (v0_21 : Value) (v0_22 : Value) (v0_23 : Value) (v0_24 : Value) (v0_25 : Value) (v0_26 : Value) (v0_27 : Value) (v0_28 : Value) (v0_29 : Value) (v0_30 : Value) (v0_31 : Value) (v0_32 : Value) (v0_33 : Value) (v0_34 : Value) (v0_35 : Value) (v0_36 : Value) (v0_37 : Value) (v0_38 : Value) (v0_39 : Value) (v0_40 : Value) (v0_41 : Value) (v0_42 : Value) (v0_43 : Value) (v0_44 : Value) (v0_45 : Value) (v0_46 : Value) (v0_47 : Value) (v0_48 : Value) (v0_49 : Value) (v0_50 : Value) (v0_51 : Value) (v0_52 : Value) (v0_53 : Value) (v0_54 : Value) (v0_55 : Value) (v0_56 : Value) (v0_57 : Value) (v0_58 : Value) (v0_59 : Value) (v0_60 : Value) (v0_61 : Value) (v0_62 : Value) (v0_63 : Value) (v0_64 : Value) : MetI l yX12_about (Cond.code yX12_about cX12_about 4 (some .int)) { frames := 1, cells := 0, slots := 0, locals := 21 } D cyI cyJ Z [.ref h0, .int p0] [(h0, .inr (12, [v0_0, v0_1, v0_2, v0_3, v0_4, v0_5, v0_6, v0_7, v0_8, v0_9, v0_10, v0_11, v0_12, v0_13, v0_14, v0_15, v0_16, v0_17, v0_18, v0_19, v0_20, v0_21, v0_22, v0_23, v0_24, v0_25, v0_26, v0_27, v0_28, v0_29, v0_30, v0_31, v0_32, v0_33, v0_34, v0_35, v0_36, v0_37, v0_38, v0_39, v0_40, v0_41, v0_42, v0_43, v0_44, v0_45, v0_46, v0_47, v0_48, v0_49, v0_50, v0_51, v0_52, v0_53, v0_54, v0_55, v0_56, v0_57, v0_58, v0_59, v0_60, v0_61, v0_62, v0_63, v0_64]))] (fun _ : Unit => (-1)) (fun _ : Unit => ([] : va_W)) 0 0 := by
  refine met_i (by decide) rfl ?_
  intro p e s m below meth c A ls E hr hlk hP hD hA hl
  have hS : va_S A s.heap s.heap [] := va_S.rf
  have hx := E.1.1
  have hb := E.1.2.1
  have hl : lv_has ls 4 [(0, .ref h0), (1, .int p0)] := hl
  refine lv_aload_n hx hb dX12_about_0 rfl (lv_at hl 0 rfl) ?_
  refine lv_iconst (v := 0) hx hb dX12_about_1 (by decide) ?_
  refine x_put (ws' := [(h0, .inr (12, [.int 0, v0_1, v0_2, v0_3, v0_4, v0_5, v0_6, v0_7, v0_8, v0_9, v0_10, v0_11, v0_12, v0_13, v0_14, v0_15, v0_16, v0_17, v0_18, v0_19, v0_20, v0_21, v0_22, v0_23, v0_24, v0_25, v0_26, v0_27, v0_28, v0_29, v0_30, v0_31, v0_32, v0_33, v0_34, v0_35, v0_36, v0_37, v0_38, v0_39, v0_40, v0_41, v0_42, v0_43, v0_44, v0_45, v0_46, v0_47, v0_48, v0_49, v0_50, v0_51, v0_52, v0_53, v0_54, v0_55, v0_56, v0_57, v0_58, v0_59, v0_60, v0_61, v0_62, v0_63, v0_64]))]) E iX12 tyX12 tyX12_ok nmX12 hP hD hS 0 rfl rfl 0 (by decide) wq202 rfl rfl rfl rfl rfl dX12_about_2 (fun H locs hP hD hS => ?_)
  refine lv_iconst (v := 0) hx hb dX12_about_5 (by decide) ?_
  refine lv_istore_n (lv' := [(2, .int 0), (0, .ref h0), (1, .int p0)]) hx hb dX12_about_6 rfl hl (by decide) rfl (fun ls hl => ?_)
  refine lv_iload_n hx hb dX12_about_7 rfl (lv_at hl 2 rfl) ?_
  refine lv_tableOut (tgt := 155) hx hb dX12_about_8 (by have k0 : (5 : Int32).toInt < (p0 : Int32).toInt := Int32.lt_iff_toInt_lt.mp hf1_0; have l0 : (5 : Int32).toInt = 5 := (by decide); omega) (by decide) ?_
  refine lv_aload_n hx hb dX12_about_155 rfl (lv_at hl 1 rfl) ?_
  refine lv_iconst (v := 1) hx hb dX12_about_156 (by decide) ?_
  refine x_Vi (rest := []) (ws' := fun _ => [(h0, .inr (12, [.int 0, .int 1, .int (-1), v0_3, v0_4, v0_5, v0_6, v0_7, v0_8, v0_9, v0_10, v0_11, v0_12, v0_13, v0_14, v0_15, v0_16, v0_17, v0_18, v0_19, v0_20, v0_21, v0_22, v0_23, v0_24, v0_25, v0_26, v0_27, v0_28, v0_29, v0_30, v0_31, v0_32, v0_33, v0_34, v0_35, v0_36, v0_37, v0_38, v0_39, v0_40, v0_41, v0_42, v0_43, v0_44, v0_45, v0_46, v0_47, v0_48, v0_49, v0_50, v0_51, v0_52, v0_53, v0_54, v0_55, v0_56, v0_57, v0_58, v0_59, v0_60, v0_61, v0_62, v0_63, v0_64]))]) (wr := []) E (mX12_refused_1 l D cyI cyJ Z h0 (.int 0) v0_1 v0_2 v0_3 v0_4 v0_5 v0_6 v0_7 v0_8 v0_9 v0_10 v0_11 v0_12 v0_13 v0_14 v0_15 v0_16 v0_17 v0_18 v0_19 v0_20 v0_21 v0_22 v0_23 v0_24 v0_25 v0_26 v0_27 v0_28 v0_29 v0_30 v0_31 v0_32 v0_33 v0_34 v0_35 v0_36 v0_37 v0_38 v0_39 v0_40 v0_41 v0_42 v0_43 v0_44 v0_45 v0_46 v0_47 v0_48 v0_49 v0_50 v0_51 v0_52 v0_53 v0_54 v0_55 v0_56 v0_57 v0_58 v0_59 v0_60 v0_61 v0_62 v0_63 v0_64) kX12_refused wq335 wq336 wq337 ⟨rfl, rfl, Nat.le_of_ble_eq_true rfl, Nat.le_of_ble_eq_true rfl⟩ hP hD hS hA [0] [] rfl rfl (by decide) (fun _ => rfl) 0 rfl rfl rfl hl.1 rfl (Nat.le_of_ble_eq_true rfl) dX12_about_157 ⟨rfl, rfl⟩ ⟨Nat.le_of_ble_eq_true rfl, Nat.le_of_ble_eq_true rfl⟩ (fun _ H locs hP hD hS => ?_)
  exact x_iret E hr hlk hP hD hS () rfl [] (by decide) rfl rfl dX12_about_160

set_option maxHeartbeats 4000000 in
set_option maxRecDepth 100000 in
theorem mX3_countOf (l : Launch) (D : va_G) (cyI cyJ : ClassId) (Z : xZ) (h0 : Nat) (p0 : Int32) (hf1_0 : ¬ p0 < 0) (hf1_1 : ¬ 10 ≤ p0) (h1 : Nat) (v0_0 : Value) (v0_1 : Value) (v0_2 : Value) (v0_4 : Value) (v0_5 : Value) (v0_6 : Value) (v0_7 : Value) : MetI l yX3_countOf (Cond.code yX3_countOf cX3_countOf 2 (some .int)) { frames := 0, cells := 0, slots := 0, locals := 0 } D cyI cyJ Z [.ref h0, .int p0] [(h0, .inr (3, [v0_0, v0_1, v0_2, .ref h1, v0_4, v0_5, v0_6, v0_7])), (h1, .inl (cyI, 10, .inl (fun _ => 0)))] (fun _ : Unit => 0) (fun _ : Unit => ([(h0, .inr (3, [v0_0, v0_1, v0_2, .ref h1, v0_4, v0_5, v0_6, v0_7])), (h1, .inl (cyI, 10, .inl (fun _ => 0)))] : va_W)) 0 0 := by
  refine met_i (by decide) rfl ?_
  intro p e s m below meth c A ls E hr hlk hP hD hA hl
  have hS : va_S A s.heap s.heap [] := va_S.rf
  have hx := E.1.1
  have hb := E.1.2.1
  have hl : lv_has ls 2 [(0, .ref h0), (1, .int p0)] := hl
  refine lv_iload_n hx hb dX3_countOf_0 rfl (lv_at hl 1 rfl) ?_
  refine lv_if_lt (tgt := 19) hx hb dX3_countOf_1 (by decide) (fun c9 => (by exfalso; have k0 : ¬ ((p0 : Int32).toInt < (0 : Int32).toInt) := fun z => hf1_0 (Int32.lt_iff_toInt_lt.mpr z); have k1 : ¬ ((10 : Int32).toInt ≤ (p0 : Int32).toInt) := fun z => hf1_1 (Int32.le_iff_toInt_le.mpr z); have k2 : (p0 : Int32).toInt < (0 : Int32).toInt := Int32.lt_iff_toInt_lt.mp c9; have l0 : (0 : Int32).toInt = 0 := (by decide); have l1 : (10 : Int32).toInt = 10 := (by decide); omega)) (fun c9 => ?_)
  refine lv_iload_n hx hb dX3_countOf_4 rfl (lv_at hl 1 rfl) ?_
  refine lv_bipush (v := 10) hx hb dX3_countOf_5 (by decide) ?_
  refine lv_icmp_ge (tgt := 19) hx hb dX3_countOf_7 (by decide) (fun c9 => (by exfalso; have k0 : ¬ ((p0 : Int32).toInt < (0 : Int32).toInt) := fun z => hf1_0 (Int32.lt_iff_toInt_lt.mpr z); have k1 : ¬ ((10 : Int32).toInt ≤ (p0 : Int32).toInt) := fun z => hf1_1 (Int32.le_iff_toInt_le.mpr z); have k2 : (10 : Int32).toInt ≤ (p0 : Int32).toInt := Int32.le_iff_toInt_le.mp c9; have l0 : (0 : Int32).toInt = 0 := (by decide); have l1 : (10 : Int32).toInt = 10 := (by decide); omega)) (fun c9 => ?_)
  refine lv_aload_n hx hb dX3_countOf_10 rfl (lv_at hl 0 rfl) ?_
  refine x_get E iX3 hP 0 rfl rfl 3 (by decide) wq75 rfl dX3_countOf_11 ?_
  refine lv_iload_n hx hb dX3_countOf_14 rfl (lv_at hl 1 rfl) ?_
  refine x_iald (v := 0) E hP 1 rfl (vp_in_iff.mpr (by have k0 : ¬ ((p0 : Int32).toInt < (0 : Int32).toInt) := fun z => hf1_0 (Int32.lt_iff_toInt_lt.mpr z); have k1 : ¬ ((10 : Int32).toInt ≤ (p0 : Int32).toInt) := fun z => hf1_1 (Int32.le_iff_toInt_le.mpr z); have l0 : (0 : Int32).toInt = 0 := (by decide); have l1 : (10 : Int32).toInt = 10 := (by decide); omega)) rfl dX3_countOf_15 ?_
  refine lv_goto (tgt := 20) hx hb dX3_countOf_16 (by decide) ?_
  exact x_iret E hr hlk hP hD hS () rfl [0, 1] (by decide) rfl rfl dX3_countOf_20

set_option maxHeartbeats 4000000 in
set_option maxRecDepth 100000 in
theorem mX11_used (l : Launch) (D : va_G) (cyI cyJ : ClassId) (Z : xZ) (h0 : Nat) (p0 : Int32) (hf1_0 : ¬ p0 < 0) (hf1_1 : ¬ 10 ≤ p0) (h1 : Nat) (h2 : Nat) (v0_0 : Value) (v0_1 : Value) (v0_2 : Value) (v0_3 : Value) (v0_4 : Value) (v0_5 : Value) (v0_6 : Value) (v0_7 : Value) (v0_8 : Value) (v0_10 : Value) (v0_11 : Value) (v0_12 : Value) (v0_13 : Value) (v0_14 : Value) (v0_15 : Value) (v1_0 : Value) (v1_1 : Value) (v1_2 : Value) (v1_4 : Value) (v1_5 : Value) (v1_6 : Value) (v1_7 : Value) : MetI l yX11_used (Cond.code yX11_used cX11_used 2 (some .int)) { frames := 1, cells := 0, slots := 0, locals := 21 } D cyI cyJ Z [.ref h0, .int p0] [(h0, .inr (11, [v0_0, v0_1, v0_2, v0_3, v0_4, v0_5, v0_6, v0_7, v0_8, .ref h1, v0_10, v0_11, v0_12, v0_13, v0_14, v0_15])), (h1, .inr (3, [v1_0, v1_1, v1_2, .ref h2, v1_4, v1_5, v1_6, v1_7])), (h2, .inl (cyI, 10, .inl (fun _ => 0)))] (fun _ : Unit => 0) (fun _ : Unit => ([] : va_W)) 0 0 := by
  refine met_i (by decide) rfl ?_
  intro p e s m below meth c A ls E hr hlk hP hD hA hl
  have hS : va_S A s.heap s.heap [] := va_S.rf
  have hx := E.1.1
  have hb := E.1.2.1
  have hl : lv_has ls 2 [(0, .ref h0), (1, .int p0)] := hl
  refine lv_iload_n hx hb dX11_used_0 rfl (lv_at hl 1 rfl) ?_
  refine lv_if_lt (tgt := 10) hx hb dX11_used_1 (by decide) (fun c9 => (by exfalso; have k0 : ¬ ((p0 : Int32).toInt < (0 : Int32).toInt) := fun z => hf1_0 (Int32.lt_iff_toInt_lt.mpr z); have k1 : ¬ ((10 : Int32).toInt ≤ (p0 : Int32).toInt) := fun z => hf1_1 (Int32.le_iff_toInt_le.mpr z); have k2 : (p0 : Int32).toInt < (0 : Int32).toInt := Int32.lt_iff_toInt_lt.mp c9; have l0 : (0 : Int32).toInt = 0 := (by decide); have l1 : (10 : Int32).toInt = 10 := (by decide); omega)) (fun c9 => ?_)
  refine lv_iload_n hx hb dX11_used_4 rfl (lv_at hl 1 rfl) ?_
  refine lv_bipush (v := 10) hx hb dX11_used_5 (by decide) ?_
  refine lv_icmp_lt (tgt := 16) hx hb dX11_used_7 (by decide) (fun c9 => ?_) (fun c9 => (by exfalso; have k0 : ¬ ((p0 : Int32).toInt < (0 : Int32).toInt) := fun z => hf1_0 (Int32.lt_iff_toInt_lt.mpr z); have k1 : ¬ ((10 : Int32).toInt ≤ (p0 : Int32).toInt) := fun z => hf1_1 (Int32.le_iff_toInt_le.mpr z); have k2 : ¬ ((p0 : Int32).toInt < (10 : Int32).toInt) := fun z => c9 (Int32.lt_iff_toInt_lt.mpr z); have l0 : (0 : Int32).toInt = 0 := (by decide); have l1 : (10 : Int32).toInt = 10 := (by decide); omega))
  refine lv_aload_n hx hb dX11_used_16 rfl (lv_at hl 0 rfl) ?_
  refine lv_aload_n hx hb dX11_used_17 rfl (lv_at hl 0 rfl) ?_
  refine x_get E iX11 hP 0 rfl rfl 9 (by decide) wq83 rfl dX11_used_18 ?_
  refine lv_iload_n hx hb dX11_used_21 rfl (lv_at hl 1 rfl) ?_
  refine x_Vi (rest := [.ref h0]) (ws' := fun _ => [(h0, .inr (11, [v0_0, v0_1, v0_2, v0_3, v0_4, v0_5, v0_6, v0_7, v0_8, .ref h1, v0_10, v0_11, v0_12, v0_13, v0_14, v0_15])), (h1, .inr (3, [v1_0, v1_1, v1_2, .ref h2, v1_4, v1_5, v1_6, v1_7])), (h2, .inl (cyI, 10, .inl (fun _ => 0)))]) (wr := [(h0, .inr (11, [v0_0, v0_1, v0_2, v0_3, v0_4, v0_5, v0_6, v0_7, v0_8, .ref h1, v0_10, v0_11, v0_12, v0_13, v0_14, v0_15]))]) E (mX3_countOf l D cyI cyJ Z h1 p0 hf1_0 hf1_1 h2 v1_0 v1_1 v1_2 v1_4 v1_5 v1_6 v1_7) kX3_countOf wq448 wq449 wq450 ⟨rfl, rfl, Nat.le_of_ble_eq_true rfl, Nat.le_of_ble_eq_true rfl⟩ hP hD hS hA [1, 2] [0] rfl rfl (by decide) (fun _ => rfl) 1 rfl rfl rfl hl.1 rfl (Nat.le_of_ble_eq_true rfl) dX11_used_22 ⟨rfl, rfl⟩ ⟨Nat.le_of_ble_eq_true rfl, Nat.le_of_ble_eq_true rfl⟩ (fun _ H locs hP hD hS => ?_)
  refine x_Vi (rest := []) (ws' := fun _ => [(h1, .inr (3, [v1_0, v1_1, v1_2, .ref h2, v1_4, v1_5, v1_6, v1_7])), (h2, .inl (cyI, 10, .inl (fun _ => 0))), (h0, .inr (11, [v0_0, v0_1, v0_2, v0_3, .int 0, v0_5, v0_6, v0_7, v0_8, .ref h1, v0_10, v0_11, v0_12, v0_13, v0_14, v0_15]))]) (wr := [(h1, .inr (3, [v1_0, v1_1, v1_2, .ref h2, v1_4, v1_5, v1_6, v1_7])), (h2, .inl (cyI, 10, .inl (fun _ => 0)))]) E (mX11_answered l D cyI cyJ Z h0 v0_0 v0_1 v0_2 v0_3 v0_4 v0_5 v0_6 v0_7 v0_8 (.ref h1) v0_10 v0_11 v0_12 v0_13 v0_14 v0_15) kX11_answered wq436 wq437 wq438 ⟨rfl, rfl, Nat.le_of_ble_eq_true rfl, Nat.le_of_ble_eq_true rfl⟩ hP hD hS hA [0] [1, 2] rfl rfl (by decide) (fun _ => rfl) 0 rfl rfl rfl hl.1 rfl (Nat.le_of_ble_eq_true rfl) dX11_used_25 ⟨rfl, rfl⟩ ⟨Nat.le_of_ble_eq_true rfl, Nat.le_of_ble_eq_true rfl⟩ (fun _ H locs hP hD hS => ?_)
  exact x_iret E hr hlk hP hD hS () rfl [] (by decide) rfl rfl dX11_used_28

set_option maxHeartbeats 4000000 in
set_option maxRecDepth 100000 in
theorem mX12_in_2 (l : Launch) (D : va_G) (cyI cyJ : ClassId) (Z : xZ) (p0 : Int32) (hf1_0 : ¬ p0 < 0) (hf1_1 : ¬ 10 ≤ p0) : MetI l yX12_in (Cond.code yX12_in cX12_in 3 (some .boolean)) { frames := 0, cells := 0, slots := 0, locals := 0 } D cyI cyJ Z [.int p0, .int 0, .int 9] [] (fun _ : Unit => 1) (fun _ : Unit => ([] : va_W)) 0 0 := by
  refine met_i (by decide) rfl ?_
  intro p e s m below meth c A ls E hr hlk hP hD hA hl
  have hS : va_S A s.heap s.heap [] := va_S.rf
  have hx := E.1.1
  have hb := E.1.2.1
  have hl : lv_has ls 3 [(0, .int p0), (1, .int 0), (2, .int 9)] := hl
  refine lv_iload_n hx hb dX12_in_0 rfl (lv_at hl 0 rfl) ?_
  refine lv_iload_n hx hb dX12_in_1 rfl (lv_at hl 1 rfl) ?_
  refine lv_icmp_lt (tgt := 14) hx hb dX12_in_2 (by decide) (fun c9 => (by exfalso; have k0 : ¬ ((p0 : Int32).toInt < (0 : Int32).toInt) := fun z => hf1_0 (Int32.lt_iff_toInt_lt.mpr z); have k1 : ¬ ((10 : Int32).toInt ≤ (p0 : Int32).toInt) := fun z => hf1_1 (Int32.le_iff_toInt_le.mpr z); have k2 : (p0 : Int32).toInt < (0 : Int32).toInt := Int32.lt_iff_toInt_lt.mp c9; have l0 : (0 : Int32).toInt = 0 := (by decide); have l1 : (10 : Int32).toInt = 10 := (by decide); omega)) (fun c9 => ?_)
  refine lv_iload_n hx hb dX12_in_5 rfl (lv_at hl 0 rfl) ?_
  refine lv_iload_n hx hb dX12_in_6 rfl (lv_at hl 2 rfl) ?_
  refine lv_icmp_gt (tgt := 14) hx hb dX12_in_7 (by decide) (fun c9 => (by exfalso; have k0 : ¬ ((p0 : Int32).toInt < (0 : Int32).toInt) := fun z => hf1_0 (Int32.lt_iff_toInt_lt.mpr z); have k1 : ¬ ((10 : Int32).toInt ≤ (p0 : Int32).toInt) := fun z => hf1_1 (Int32.le_iff_toInt_le.mpr z); have k2 : (9 : Int32).toInt < (p0 : Int32).toInt := Int32.lt_iff_toInt_lt.mp c9; have l0 : (0 : Int32).toInt = 0 := (by decide); have l1 : (9 : Int32).toInt = 9 := (by decide); have l2 : (10 : Int32).toInt = 10 := (by decide); omega)) (fun c9 => ?_)
  refine lv_iconst (v := 1) hx hb dX12_in_10 (by decide) ?_
  refine lv_goto (tgt := 15) hx hb dX12_in_11 (by decide) ?_
  exact x_iret E hr hlk hP hD hS () rfl [] (by decide) rfl rfl dX12_in_15

set_option maxHeartbeats 4000000 in
set_option maxRecDepth 100000 in
theorem mX12_used (l : Launch) (D : va_G) (cyI cyJ : ClassId) (Z : xZ) (h0 : Nat) (p0 : Int32) (hf1_0 : ¬ p0 < 0) (hf1_1 : ¬ 10 ≤ p0) (h1 : Nat) (v0_0 : Value) (v0_1 : Value) (v0_2 : Value) (v0_3 : Value) (v0_4 : Value) (v0_5 : Value) (v0_6 : Value) (v0_7 : Value) (v0_8 : Value) (v0_9 : Value) (v0_10 : Value) (v0_11 : Value) (v0_12 : Value) (v0_13 : Value) (v0_14 : Value) (v0_15 : Value) (v0_16 : Value) (v0_17 : Value) (v0_18 : Value) (v0_19 : Value) (v0_20 : Value) (v0_21 : Value) (v0_22 : Value) (v0_23 : Value) (v0_24 : Value) (v0_25 : Value) (v0_26 : Value) (v0_27 : Value) (v0_28 : Value) (v0_29 : Value) (v0_30 : Value) (v0_31 : Value) (v0_32 : Value) (v0_33 : Value) (v0_34 : Value) (v0_35 : Value) (v0_36 : Value) (v0_37 : Value) (v0_38 : Value) (v0_39 : Value) (v0_40 : Value) (v0_41 : Value) (v0_42 : Value) (v0_43 : Value) (v0_44 : Value) (v0_45 : Value) (v0_46 : Value) (v0_47 : Value) (v0_48 : Value) (v0_49 : Value) (v0_51 : Value) (v0_52 : Value) (v0_53 : Value) (v0_54 : Value) (v0_55 : Value) (v0_56 : Value) (v0_57 : Value) (v0_58 : Value) (v0_59 : Value) (v0_60 : Value) (v0_61 : Value) (v0_62 : Value) (v0_63 : Value) (v0_64 : Value) : MetI l yX12_used (Cond.code yX12_used cX12_used 2 (some .int)) { frames := 1, cells := 0, slots := 0, locals := 22 } D cyI cyJ Z [.ref h0, .int p0] [(h0, .inr (12, [v0_0, v0_1, v0_2, v0_3, v0_4, v0_5, v0_6, v0_7, v0_8, v0_9, v0_10, v0_11, v0_12, v0_13, v0_14, v0_15, v0_16, v0_17, v0_18, v0_19, v0_20, v0_21, v0_22, v0_23, v0_24, v0_25, v0_26, v0_27, v0_28, v0_29, v0_30, v0_31, v0_32, v0_33, v0_34, v0_35, v0_36, v0_37, v0_38, v0_39, v0_40, v0_41, v0_42, v0_43, v0_44, v0_45, v0_46, v0_47, v0_48, v0_49, .ref h1, v0_51, v0_52, v0_53, v0_54, v0_55, v0_56, v0_57, v0_58, v0_59, v0_60, v0_61, v0_62, v0_63, v0_64])), (h1, .inl (cyI, 10, .inl (fun _ => 0)))] (fun _ : Unit => 0) (fun _ : Unit => ([] : va_W)) 0 0 := by
  refine met_i (by decide) rfl ?_
  intro p e s m below meth c A ls E hr hlk hP hD hA hl
  have hS : va_S A s.heap s.heap [] := va_S.rf
  have hx := E.1.1
  have hb := E.1.2.1
  have hl : lv_has ls 2 [(0, .ref h0), (1, .int p0)] := hl
  refine lv_aload_n hx hb dX12_used_0 rfl (lv_at hl 0 rfl) ?_
  refine lv_iconst (v := 0) hx hb dX12_used_1 (by decide) ?_
  refine x_put (ws' := [(h0, .inr (12, [.int 0, v0_1, v0_2, v0_3, v0_4, v0_5, v0_6, v0_7, v0_8, v0_9, v0_10, v0_11, v0_12, v0_13, v0_14, v0_15, v0_16, v0_17, v0_18, v0_19, v0_20, v0_21, v0_22, v0_23, v0_24, v0_25, v0_26, v0_27, v0_28, v0_29, v0_30, v0_31, v0_32, v0_33, v0_34, v0_35, v0_36, v0_37, v0_38, v0_39, v0_40, v0_41, v0_42, v0_43, v0_44, v0_45, v0_46, v0_47, v0_48, v0_49, .ref h1, v0_51, v0_52, v0_53, v0_54, v0_55, v0_56, v0_57, v0_58, v0_59, v0_60, v0_61, v0_62, v0_63, v0_64])), (h1, .inl (cyI, 10, .inl (fun _ => 0)))]) E iX12 tyX12 tyX12_ok nmX12 hP hD hS 0 rfl rfl 0 (by decide) wq202 rfl rfl rfl rfl rfl dX12_used_2 (fun H locs hP hD hS => ?_)
  refine lv_iload_n hx hb dX12_used_5 rfl (lv_at hl 1 rfl) ?_
  refine lv_iconst (v := 0) hx hb dX12_used_6 (by decide) ?_
  refine lv_bipush (v := 9) hx hb dX12_used_7 (by decide) ?_
  refine x_Si (rest := []) (ws' := fun _ => [(h0, .inr (12, [.int 0, v0_1, v0_2, v0_3, v0_4, v0_5, v0_6, v0_7, v0_8, v0_9, v0_10, v0_11, v0_12, v0_13, v0_14, v0_15, v0_16, v0_17, v0_18, v0_19, v0_20, v0_21, v0_22, v0_23, v0_24, v0_25, v0_26, v0_27, v0_28, v0_29, v0_30, v0_31, v0_32, v0_33, v0_34, v0_35, v0_36, v0_37, v0_38, v0_39, v0_40, v0_41, v0_42, v0_43, v0_44, v0_45, v0_46, v0_47, v0_48, v0_49, .ref h1, v0_51, v0_52, v0_53, v0_54, v0_55, v0_56, v0_57, v0_58, v0_59, v0_60, v0_61, v0_62, v0_63, v0_64])), (h1, .inl (cyI, 10, .inl (fun _ => 0)))]) (wr := [(h0, .inr (12, [.int 0, v0_1, v0_2, v0_3, v0_4, v0_5, v0_6, v0_7, v0_8, v0_9, v0_10, v0_11, v0_12, v0_13, v0_14, v0_15, v0_16, v0_17, v0_18, v0_19, v0_20, v0_21, v0_22, v0_23, v0_24, v0_25, v0_26, v0_27, v0_28, v0_29, v0_30, v0_31, v0_32, v0_33, v0_34, v0_35, v0_36, v0_37, v0_38, v0_39, v0_40, v0_41, v0_42, v0_43, v0_44, v0_45, v0_46, v0_47, v0_48, v0_49, .ref h1, v0_51, v0_52, v0_53, v0_54, v0_55, v0_56, v0_57, v0_58, v0_59, v0_60, v0_61, v0_62, v0_63, v0_64])), (h1, .inl (cyI, 10, .inl (fun _ => 0)))]) E (mX12_in_2 l D cyI cyJ Z p0 hf1_0 hf1_1) kX12_in wq283 wq284 ⟨rfl, rfl, Nat.le_of_ble_eq_true rfl, Nat.le_of_ble_eq_true rfl⟩ hP hD hS hA [] [0, 1] rfl rfl (by decide) (fun _ => rfl) hl.1 rfl (Nat.le_of_ble_eq_true rfl) dX12_used_9 ⟨rfl, rfl⟩ ⟨Nat.le_of_ble_eq_true rfl, Nat.le_of_ble_eq_true rfl⟩ (fun _ H locs hP hD hS => ?_)
  refine lv_if_eq (tgt := 28) hx hb dX12_used_12 (by decide) (fun c9 => absurd c9 (by decide)) (fun c9 => ?_)
  refine lv_aload_n hx hb dX12_used_15 rfl (lv_at hl 0 rfl) ?_
  refine lv_aload_n hx hb dX12_used_16 rfl (lv_at hl 0 rfl) ?_
  refine x_get E iX12 hP 0 rfl rfl 50 (by decide) wq193 rfl dX12_used_17 ?_
  refine lv_iload_n hx hb dX12_used_20 rfl (lv_at hl 1 rfl) ?_
  refine x_iald (v := 0) E hP 1 rfl (vp_in_iff.mpr (by have k0 : ¬ ((p0 : Int32).toInt < (0 : Int32).toInt) := fun z => hf1_0 (Int32.lt_iff_toInt_lt.mpr z); have k1 : ¬ ((10 : Int32).toInt ≤ (p0 : Int32).toInt) := fun z => hf1_1 (Int32.le_iff_toInt_le.mpr z); have l0 : (0 : Int32).toInt = 0 := (by decide); have l1 : (10 : Int32).toInt = 10 := (by decide); omega)) rfl dX12_used_21 ?_
  refine x_Vi (rest := []) (ws' := fun _ => [(h1, .inl (cyI, 10, .inl (fun _ => 0))), (h0, .inr (12, [.int 0, .int 0, .int (-1), v0_3, v0_4, v0_5, v0_6, v0_7, v0_8, v0_9, v0_10, v0_11, v0_12, v0_13, v0_14, v0_15, v0_16, v0_17, v0_18, v0_19, v0_20, v0_21, v0_22, v0_23, v0_24, v0_25, v0_26, v0_27, v0_28, v0_29, v0_30, v0_31, v0_32, v0_33, v0_34, v0_35, v0_36, v0_37, v0_38, v0_39, v0_40, v0_41, v0_42, v0_43, v0_44, v0_45, v0_46, v0_47, v0_48, v0_49, .ref h1, v0_51, v0_52, v0_53, v0_54, v0_55, v0_56, v0_57, v0_58, v0_59, v0_60, v0_61, v0_62, v0_63, v0_64]))]) (wr := [(h1, .inl (cyI, 10, .inl (fun _ => 0)))]) E (mX12_good l D cyI cyJ Z h0 (.int 0) v0_1 v0_2 v0_3 v0_4 v0_5 v0_6 v0_7 v0_8 v0_9 v0_10 v0_11 v0_12 v0_13 v0_14 v0_15 v0_16 v0_17 v0_18 v0_19 v0_20 v0_21 v0_22 v0_23 v0_24 v0_25 v0_26 v0_27 v0_28 v0_29 v0_30 v0_31 v0_32 v0_33 v0_34 v0_35 v0_36 v0_37 v0_38 v0_39 v0_40 v0_41 v0_42 v0_43 v0_44 v0_45 v0_46 v0_47 v0_48 v0_49 (.ref h1) v0_51 v0_52 v0_53 v0_54 v0_55 v0_56 v0_57 v0_58 v0_59 v0_60 v0_61 v0_62 v0_63 v0_64) kX12_good wq439 wq440 wq441 ⟨rfl, rfl, Nat.le_of_ble_eq_true rfl, Nat.le_of_ble_eq_true rfl⟩ hP hD hS hA [0] [1] rfl rfl (by decide) (fun _ => rfl) 0 rfl rfl rfl hl.1 rfl (Nat.le_of_ble_eq_true rfl) dX12_used_22 ⟨rfl, rfl⟩ ⟨Nat.le_of_ble_eq_true rfl, Nat.le_of_ble_eq_true rfl⟩ (fun _ H locs hP hD hS => ?_)
  refine lv_goto (tgt := 33) hx hb dX12_used_25 (by decide) ?_
  exact x_iret E hr hlk hP hD hS () rfl [] (by decide) rfl rfl dX12_used_33

set_option maxHeartbeats 4000000 in
set_option maxRecDepth 100000 in
theorem mX11_used_1 (l : Launch) (D : va_G) (cyI cyJ : ClassId) (Z : xZ) (h0 : Nat) (p0 : Int32) (hf1_0 : p0 < 0) (v0_0 : Value) (v0_1 : Value) (v0_2 : Value) (v0_3 : Value) (v0_4 : Value) (v0_5 : Value) (v0_6 : Value) (v0_7 : Value) (v0_8 : Value) (v0_9 : Value) (v0_10 : Value) (v0_11 : Value) (v0_12 : Value) (v0_13 : Value) (v0_14 : Value) (v0_15 : Value) : MetI l yX11_used (Cond.code yX11_used cX11_used 2 (some .int)) { frames := 1, cells := 0, slots := 0, locals := 21 } D cyI cyJ Z [.ref h0, .int p0] [(h0, .inr (11, [v0_0, v0_1, v0_2, v0_3, v0_4, v0_5, v0_6, v0_7, v0_8, v0_9, v0_10, v0_11, v0_12, v0_13, v0_14, v0_15]))] (fun _ : Unit => (-1)) (fun _ : Unit => ([] : va_W)) 0 0 := by
  refine met_i (by decide) rfl ?_
  intro p e s m below meth c A ls E hr hlk hP hD hA hl
  have hS : va_S A s.heap s.heap [] := va_S.rf
  have hx := E.1.1
  have hb := E.1.2.1
  have hl : lv_has ls 2 [(0, .ref h0), (1, .int p0)] := hl
  refine lv_iload_n hx hb dX11_used_0 rfl (lv_at hl 1 rfl) ?_
  refine lv_if_lt (tgt := 10) hx hb dX11_used_1 (by decide) (fun c9 => ?_) (fun c9 => (by exfalso; have k0 : (p0 : Int32).toInt < (0 : Int32).toInt := Int32.lt_iff_toInt_lt.mp hf1_0; have k1 : ¬ ((p0 : Int32).toInt < (0 : Int32).toInt) := fun z => c9 (Int32.lt_iff_toInt_lt.mpr z); have l0 : (0 : Int32).toInt = 0 := (by decide); omega))
  refine lv_aload_n hx hb dX11_used_10 rfl (lv_at hl 0 rfl) ?_
  refine lv_iconst (v := 1) hx hb dX11_used_11 (by decide) ?_
  refine x_Vi (rest := []) (ws' := fun _ => [(h0, .inr (11, [v0_0, v0_1, v0_2, v0_3, .int 1, v0_5, v0_6, v0_7, v0_8, v0_9, v0_10, v0_11, v0_12, v0_13, v0_14, v0_15]))]) (wr := []) E (mX11_refused_2 l D cyI cyJ Z h0 v0_0 v0_1 v0_2 v0_3 v0_4 v0_5 v0_6 v0_7 v0_8 v0_9 v0_10 v0_11 v0_12 v0_13 v0_14 v0_15) kX11_refused wq277 wq278 wq279 ⟨rfl, rfl, Nat.le_of_ble_eq_true rfl, Nat.le_of_ble_eq_true rfl⟩ hP hD hS hA [0] [] rfl rfl (by decide) (fun _ => rfl) 0 rfl rfl rfl hl.1 rfl (Nat.le_of_ble_eq_true rfl) dX11_used_12 ⟨rfl, rfl⟩ ⟨Nat.le_of_ble_eq_true rfl, Nat.le_of_ble_eq_true rfl⟩ (fun _ H locs hP hD hS => ?_)
  exact x_iret E hr hlk hP hD hS () rfl [] (by decide) rfl rfl dX11_used_15

set_option maxHeartbeats 4000000 in
set_option maxRecDepth 100000 in
theorem mX12_in_3 (l : Launch) (D : va_G) (cyI cyJ : ClassId) (Z : xZ) (p0 : Int32) (hf1_0 : p0 < 0) : MetI l yX12_in (Cond.code yX12_in cX12_in 3 (some .boolean)) { frames := 0, cells := 0, slots := 0, locals := 0 } D cyI cyJ Z [.int p0, .int 0, .int 9] [] (fun _ : Unit => 0) (fun _ : Unit => ([] : va_W)) 0 0 := by
  refine met_i (by decide) rfl ?_
  intro p e s m below meth c A ls E hr hlk hP hD hA hl
  have hS : va_S A s.heap s.heap [] := va_S.rf
  have hx := E.1.1
  have hb := E.1.2.1
  have hl : lv_has ls 3 [(0, .int p0), (1, .int 0), (2, .int 9)] := hl
  refine lv_iload_n hx hb dX12_in_0 rfl (lv_at hl 0 rfl) ?_
  refine lv_iload_n hx hb dX12_in_1 rfl (lv_at hl 1 rfl) ?_
  refine lv_icmp_lt (tgt := 14) hx hb dX12_in_2 (by decide) (fun c9 => ?_) (fun c9 => (by exfalso; have k0 : (p0 : Int32).toInt < (0 : Int32).toInt := Int32.lt_iff_toInt_lt.mp hf1_0; have k1 : ¬ ((p0 : Int32).toInt < (0 : Int32).toInt) := fun z => c9 (Int32.lt_iff_toInt_lt.mpr z); have l0 : (0 : Int32).toInt = 0 := (by decide); omega))
  refine lv_iconst (v := 0) hx hb dX12_in_14 (by decide) ?_
  exact x_iret E hr hlk hP hD hS () rfl [] (by decide) rfl rfl dX12_in_15

set_option maxHeartbeats 4000000 in
set_option maxRecDepth 100000 in
theorem mX12_used_1 (l : Launch) (D : va_G) (cyI cyJ : ClassId) (Z : xZ) (h0 : Nat) (p0 : Int32) (hf1_0 : p0 < 0) (v0_0 : Value) (v0_1 : Value) (v0_2 : Value) (v0_3 : Value) (v0_4 : Value) (v0_5 : Value) (v0_6 : Value) (v0_7 : Value) (v0_8 : Value) (v0_9 : Value) (v0_10 : Value) (v0_11 : Value) (v0_12 : Value) (v0_13 : Value) (v0_14 : Value) (v0_15 : Value) (v0_16 : Value) (v0_17 : Value) (v0_18 : Value) (v0_19 : Value) (v0_20 : Value) (v0_21 : Value) (v0_22 : Value) (v0_23 : Value) (v0_24 : Value) (v0_25 : Value) (v0_26 : Value) (v0_27 : Value) (v0_28 : Value) (v0_29 : Value) (v0_30 : Value) (v0_31 : Value) (v0_32 : Value) (v0_33 : Value) (v0_34 : Value) (v0_35 : Value) (v0_36 : Value) (v0_37 : Value) (v0_38 : Value) (v0_39 : Value) (v0_40 : Value) (v0_41 : Value) (v0_42 : Value) (v0_43 : Value) (v0_44 : Value) (v0_45 : Value) (v0_46 : Value) (v0_47 : Value) (v0_48 : Value) (v0_49 : Value) (v0_50 : Value) (v0_51 : Value) (v0_52 : Value) (v0_53 : Value) (v0_54 : Value) (v0_55 : Value) (v0_56 : Value) (v0_57 : Value) (v0_58 : Value) (v0_59 : Value) (v0_60 : Value) (v0_61 : Value) (v0_62 : Value) (v0_63 : Value) (v0_64 : Value) : MetI l yX12_used (Cond.code yX12_used cX12_used 2 (some .int)) { frames := 1, cells := 0, slots := 0, locals := 22 } D cyI cyJ Z [.ref h0, .int p0] [(h0, .inr (12, [v0_0, v0_1, v0_2, v0_3, v0_4, v0_5, v0_6, v0_7, v0_8, v0_9, v0_10, v0_11, v0_12, v0_13, v0_14, v0_15, v0_16, v0_17, v0_18, v0_19, v0_20, v0_21, v0_22, v0_23, v0_24, v0_25, v0_26, v0_27, v0_28, v0_29, v0_30, v0_31, v0_32, v0_33, v0_34, v0_35, v0_36, v0_37, v0_38, v0_39, v0_40, v0_41, v0_42, v0_43, v0_44, v0_45, v0_46, v0_47, v0_48, v0_49, v0_50, v0_51, v0_52, v0_53, v0_54, v0_55, v0_56, v0_57, v0_58, v0_59, v0_60, v0_61, v0_62, v0_63, v0_64]))] (fun _ : Unit => (-1)) (fun _ : Unit => ([] : va_W)) 0 0 := by
  refine met_i (by decide) rfl ?_
  intro p e s m below meth c A ls E hr hlk hP hD hA hl
  have hS : va_S A s.heap s.heap [] := va_S.rf
  have hx := E.1.1
  have hb := E.1.2.1
  have hl : lv_has ls 2 [(0, .ref h0), (1, .int p0)] := hl
  refine lv_aload_n hx hb dX12_used_0 rfl (lv_at hl 0 rfl) ?_
  refine lv_iconst (v := 0) hx hb dX12_used_1 (by decide) ?_
  refine x_put (ws' := [(h0, .inr (12, [.int 0, v0_1, v0_2, v0_3, v0_4, v0_5, v0_6, v0_7, v0_8, v0_9, v0_10, v0_11, v0_12, v0_13, v0_14, v0_15, v0_16, v0_17, v0_18, v0_19, v0_20, v0_21, v0_22, v0_23, v0_24, v0_25, v0_26, v0_27, v0_28, v0_29, v0_30, v0_31, v0_32, v0_33, v0_34, v0_35, v0_36, v0_37, v0_38, v0_39, v0_40, v0_41, v0_42, v0_43, v0_44, v0_45, v0_46, v0_47, v0_48, v0_49, v0_50, v0_51, v0_52, v0_53, v0_54, v0_55, v0_56, v0_57, v0_58, v0_59, v0_60, v0_61, v0_62, v0_63, v0_64]))]) E iX12 tyX12 tyX12_ok nmX12 hP hD hS 0 rfl rfl 0 (by decide) wq202 rfl rfl rfl rfl rfl dX12_used_2 (fun H locs hP hD hS => ?_)
  refine lv_iload_n hx hb dX12_used_5 rfl (lv_at hl 1 rfl) ?_
  refine lv_iconst (v := 0) hx hb dX12_used_6 (by decide) ?_
  refine lv_bipush (v := 9) hx hb dX12_used_7 (by decide) ?_
  refine x_Si (rest := []) (ws' := fun _ => [(h0, .inr (12, [.int 0, v0_1, v0_2, v0_3, v0_4, v0_5, v0_6, v0_7, v0_8, v0_9, v0_10, v0_11, v0_12, v0_13, v0_14, v0_15, v0_16, v0_17, v0_18, v0_19, v0_20, v0_21, v0_22, v0_23, v0_24, v0_25, v0_26, v0_27, v0_28, v0_29, v0_30, v0_31, v0_32, v0_33, v0_34, v0_35, v0_36, v0_37, v0_38, v0_39, v0_40, v0_41, v0_42, v0_43, v0_44, v0_45, v0_46, v0_47, v0_48, v0_49, v0_50, v0_51, v0_52, v0_53, v0_54, v0_55, v0_56, v0_57, v0_58, v0_59, v0_60, v0_61, v0_62, v0_63, v0_64]))]) (wr := [(h0, .inr (12, [.int 0, v0_1, v0_2, v0_3, v0_4, v0_5, v0_6, v0_7, v0_8, v0_9, v0_10, v0_11, v0_12, v0_13, v0_14, v0_15, v0_16, v0_17, v0_18, v0_19, v0_20, v0_21, v0_22, v0_23, v0_24, v0_25, v0_26, v0_27, v0_28, v0_29, v0_30, v0_31, v0_32, v0_33, v0_34, v0_35, v0_36, v0_37, v0_38, v0_39, v0_40, v0_41, v0_42, v0_43, v0_44, v0_45, v0_46, v0_47, v0_48, v0_49, v0_50, v0_51, v0_52, v0_53, v0_54, v0_55, v0_56, v0_57, v0_58, v0_59, v0_60, v0_61, v0_62, v0_63, v0_64]))]) E (mX12_in_3 l D cyI cyJ Z p0 hf1_0) kX12_in wq283 wq284 ⟨rfl, rfl, Nat.le_of_ble_eq_true rfl, Nat.le_of_ble_eq_true rfl⟩ hP hD hS hA [] [0] rfl rfl (by decide) (fun _ => rfl) hl.1 rfl (Nat.le_of_ble_eq_true rfl) dX12_used_9 ⟨rfl, rfl⟩ ⟨Nat.le_of_ble_eq_true rfl, Nat.le_of_ble_eq_true rfl⟩ (fun _ H locs hP hD hS => ?_)
  refine lv_if_eq (tgt := 28) hx hb dX12_used_12 (by decide) (fun c9 => ?_) (fun c9 => absurd (by decide) c9)
  refine lv_aload_n hx hb dX12_used_28 rfl (lv_at hl 0 rfl) ?_
  refine lv_iconst (v := 1) hx hb dX12_used_29 (by decide) ?_
  refine x_Vi (rest := []) (ws' := fun _ => [(h0, .inr (12, [.int 0, .int 1, .int (-1), v0_3, v0_4, v0_5, v0_6, v0_7, v0_8, v0_9, v0_10, v0_11, v0_12, v0_13, v0_14, v0_15, v0_16, v0_17, v0_18, v0_19, v0_20, v0_21, v0_22, v0_23, v0_24, v0_25, v0_26, v0_27, v0_28, v0_29, v0_30, v0_31, v0_32, v0_33, v0_34, v0_35, v0_36, v0_37, v0_38, v0_39, v0_40, v0_41, v0_42, v0_43, v0_44, v0_45, v0_46, v0_47, v0_48, v0_49, v0_50, v0_51, v0_52, v0_53, v0_54, v0_55, v0_56, v0_57, v0_58, v0_59, v0_60, v0_61, v0_62, v0_63, v0_64]))]) (wr := []) E (mX12_refused_1 l D cyI cyJ Z h0 (.int 0) v0_1 v0_2 v0_3 v0_4 v0_5 v0_6 v0_7 v0_8 v0_9 v0_10 v0_11 v0_12 v0_13 v0_14 v0_15 v0_16 v0_17 v0_18 v0_19 v0_20 v0_21 v0_22 v0_23 v0_24 v0_25 v0_26 v0_27 v0_28 v0_29 v0_30 v0_31 v0_32 v0_33 v0_34 v0_35 v0_36 v0_37 v0_38 v0_39 v0_40 v0_41 v0_42 v0_43 v0_44 v0_45 v0_46 v0_47 v0_48 v0_49 v0_50 v0_51 v0_52 v0_53 v0_54 v0_55 v0_56 v0_57 v0_58 v0_59 v0_60 v0_61 v0_62 v0_63 v0_64) kX12_refused wq335 wq336 wq337 ⟨rfl, rfl, Nat.le_of_ble_eq_true rfl, Nat.le_of_ble_eq_true rfl⟩ hP hD hS hA [0] [] rfl rfl (by decide) (fun _ => rfl) 0 rfl rfl rfl hl.1 rfl (Nat.le_of_ble_eq_true rfl) dX12_used_30 ⟨rfl, rfl⟩ ⟨Nat.le_of_ble_eq_true rfl, Nat.le_of_ble_eq_true rfl⟩ (fun _ H locs hP hD hS => ?_)
  exact x_iret E hr hlk hP hD hS () rfl [] (by decide) rfl rfl dX12_used_33

set_option maxHeartbeats 4000000 in
set_option maxRecDepth 100000 in
theorem mX11_used_2 (l : Launch) (D : va_G) (cyI cyJ : ClassId) (Z : xZ) (h0 : Nat) (p0 : Int32) (hf1_0 : 10 ≤ p0) (v0_0 : Value) (v0_1 : Value) (v0_2 : Value) (v0_3 : Value) (v0_4 : Value) (v0_5 : Value) (v0_6 : Value) (v0_7 : Value) (v0_8 : Value) (v0_9 : Value) (v0_10 : Value) (v0_11 : Value) (v0_12 : Value) (v0_13 : Value) (v0_14 : Value) (v0_15 : Value) : MetI l yX11_used (Cond.code yX11_used cX11_used 2 (some .int)) { frames := 1, cells := 0, slots := 0, locals := 21 } D cyI cyJ Z [.ref h0, .int p0] [(h0, .inr (11, [v0_0, v0_1, v0_2, v0_3, v0_4, v0_5, v0_6, v0_7, v0_8, v0_9, v0_10, v0_11, v0_12, v0_13, v0_14, v0_15]))] (fun _ : Unit => (-1)) (fun _ : Unit => ([] : va_W)) 0 0 := by
  refine met_i (by decide) rfl ?_
  intro p e s m below meth c A ls E hr hlk hP hD hA hl
  have hS : va_S A s.heap s.heap [] := va_S.rf
  have hx := E.1.1
  have hb := E.1.2.1
  have hl : lv_has ls 2 [(0, .ref h0), (1, .int p0)] := hl
  refine lv_iload_n hx hb dX11_used_0 rfl (lv_at hl 1 rfl) ?_
  refine lv_if_lt (tgt := 10) hx hb dX11_used_1 (by decide) (fun c9 => (by exfalso; have k0 : (10 : Int32).toInt ≤ (p0 : Int32).toInt := Int32.le_iff_toInt_le.mp hf1_0; have k1 : (p0 : Int32).toInt < (0 : Int32).toInt := Int32.lt_iff_toInt_lt.mp c9; have l0 : (0 : Int32).toInt = 0 := (by decide); have l1 : (10 : Int32).toInt = 10 := (by decide); omega)) (fun c9 => ?_)
  refine lv_iload_n hx hb dX11_used_4 rfl (lv_at hl 1 rfl) ?_
  refine lv_bipush (v := 10) hx hb dX11_used_5 (by decide) ?_
  refine lv_icmp_lt (tgt := 16) hx hb dX11_used_7 (by decide) (fun c9 => (by exfalso; have k0 : (10 : Int32).toInt ≤ (p0 : Int32).toInt := Int32.le_iff_toInt_le.mp hf1_0; have k1 : (p0 : Int32).toInt < (10 : Int32).toInt := Int32.lt_iff_toInt_lt.mp c9; have l0 : (10 : Int32).toInt = 10 := (by decide); omega)) (fun c9 => ?_)
  refine lv_aload_n hx hb dX11_used_10 rfl (lv_at hl 0 rfl) ?_
  refine lv_iconst (v := 1) hx hb dX11_used_11 (by decide) ?_
  refine x_Vi (rest := []) (ws' := fun _ => [(h0, .inr (11, [v0_0, v0_1, v0_2, v0_3, .int 1, v0_5, v0_6, v0_7, v0_8, v0_9, v0_10, v0_11, v0_12, v0_13, v0_14, v0_15]))]) (wr := []) E (mX11_refused_2 l D cyI cyJ Z h0 v0_0 v0_1 v0_2 v0_3 v0_4 v0_5 v0_6 v0_7 v0_8 v0_9 v0_10 v0_11 v0_12 v0_13 v0_14 v0_15) kX11_refused wq277 wq278 wq279 ⟨rfl, rfl, Nat.le_of_ble_eq_true rfl, Nat.le_of_ble_eq_true rfl⟩ hP hD hS hA [0] [] rfl rfl (by decide) (fun _ => rfl) 0 rfl rfl rfl hl.1 rfl (Nat.le_of_ble_eq_true rfl) dX11_used_12 ⟨rfl, rfl⟩ ⟨Nat.le_of_ble_eq_true rfl, Nat.le_of_ble_eq_true rfl⟩ (fun _ H locs hP hD hS => ?_)
  exact x_iret E hr hlk hP hD hS () rfl [] (by decide) rfl rfl dX11_used_15

set_option maxHeartbeats 4000000 in
set_option maxRecDepth 100000 in
theorem mX12_in_4 (l : Launch) (D : va_G) (cyI cyJ : ClassId) (Z : xZ) (p0 : Int32) (hf1_0 : 10 ≤ p0) : MetI l yX12_in (Cond.code yX12_in cX12_in 3 (some .boolean)) { frames := 0, cells := 0, slots := 0, locals := 0 } D cyI cyJ Z [.int p0, .int 0, .int 9] [] (fun _ : Unit => 0) (fun _ : Unit => ([] : va_W)) 0 0 := by
  refine met_i (by decide) rfl ?_
  intro p e s m below meth c A ls E hr hlk hP hD hA hl
  have hS : va_S A s.heap s.heap [] := va_S.rf
  have hx := E.1.1
  have hb := E.1.2.1
  have hl : lv_has ls 3 [(0, .int p0), (1, .int 0), (2, .int 9)] := hl
  refine lv_iload_n hx hb dX12_in_0 rfl (lv_at hl 0 rfl) ?_
  refine lv_iload_n hx hb dX12_in_1 rfl (lv_at hl 1 rfl) ?_
  refine lv_icmp_lt (tgt := 14) hx hb dX12_in_2 (by decide) (fun c9 => (by exfalso; have k0 : (10 : Int32).toInt ≤ (p0 : Int32).toInt := Int32.le_iff_toInt_le.mp hf1_0; have k1 : (p0 : Int32).toInt < (0 : Int32).toInt := Int32.lt_iff_toInt_lt.mp c9; have l0 : (0 : Int32).toInt = 0 := (by decide); have l1 : (10 : Int32).toInt = 10 := (by decide); omega)) (fun c9 => ?_)
  refine lv_iload_n hx hb dX12_in_5 rfl (lv_at hl 0 rfl) ?_
  refine lv_iload_n hx hb dX12_in_6 rfl (lv_at hl 2 rfl) ?_
  refine lv_icmp_gt (tgt := 14) hx hb dX12_in_7 (by decide) (fun c9 => ?_) (fun c9 => (by exfalso; have k0 : (10 : Int32).toInt ≤ (p0 : Int32).toInt := Int32.le_iff_toInt_le.mp hf1_0; have k1 : ¬ ((9 : Int32).toInt < (p0 : Int32).toInt) := fun z => c9 (Int32.lt_iff_toInt_lt.mpr z); have l0 : (9 : Int32).toInt = 9 := (by decide); have l1 : (10 : Int32).toInt = 10 := (by decide); omega))
  refine lv_iconst (v := 0) hx hb dX12_in_14 (by decide) ?_
  exact x_iret E hr hlk hP hD hS () rfl [] (by decide) rfl rfl dX12_in_15

set_option maxHeartbeats 4000000 in
set_option maxRecDepth 100000 in
theorem mX12_used_2 (l : Launch) (D : va_G) (cyI cyJ : ClassId) (Z : xZ) (h0 : Nat) (p0 : Int32) (hf1_0 : 10 ≤ p0) (v0_0 : Value) (v0_1 : Value) (v0_2 : Value) (v0_3 : Value) (v0_4 : Value) (v0_5 : Value) (v0_6 : Value) (v0_7 : Value) (v0_8 : Value) (v0_9 : Value) (v0_10 : Value) (v0_11 : Value) (v0_12 : Value) (v0_13 : Value) (v0_14 : Value) (v0_15 : Value) (v0_16 : Value) (v0_17 : Value) (v0_18 : Value) (v0_19 : Value) (v0_20 : Value) (v0_21 : Value) (v0_22 : Value) (v0_23 : Value) (v0_24 : Value) (v0_25 : Value) (v0_26 : Value) (v0_27 : Value) (v0_28 : Value) (v0_29 : Value) (v0_30 : Value) (v0_31 : Value) (v0_32 : Value) (v0_33 : Value) (v0_34 : Value) (v0_35 : Value) (v0_36 : Value) (v0_37 : Value) (v0_38 : Value) (v0_39 : Value) (v0_40 : Value) (v0_41 : Value) (v0_42 : Value) (v0_43 : Value) (v0_44 : Value) (v0_45 : Value) (v0_46 : Value) (v0_47 : Value) (v0_48 : Value) (v0_49 : Value) (v0_50 : Value) (v0_51 : Value) (v0_52 : Value) (v0_53 : Value) (v0_54 : Value) (v0_55 : Value) (v0_56 : Value) (v0_57 : Value) (v0_58 : Value) (v0_59 : Value) (v0_60 : Value) (v0_61 : Value) (v0_62 : Value) (v0_63 : Value) (v0_64 : Value) : MetI l yX12_used (Cond.code yX12_used cX12_used 2 (some .int)) { frames := 1, cells := 0, slots := 0, locals := 22 } D cyI cyJ Z [.ref h0, .int p0] [(h0, .inr (12, [v0_0, v0_1, v0_2, v0_3, v0_4, v0_5, v0_6, v0_7, v0_8, v0_9, v0_10, v0_11, v0_12, v0_13, v0_14, v0_15, v0_16, v0_17, v0_18, v0_19, v0_20, v0_21, v0_22, v0_23, v0_24, v0_25, v0_26, v0_27, v0_28, v0_29, v0_30, v0_31, v0_32, v0_33, v0_34, v0_35, v0_36, v0_37, v0_38, v0_39, v0_40, v0_41, v0_42, v0_43, v0_44, v0_45, v0_46, v0_47, v0_48, v0_49, v0_50, v0_51, v0_52, v0_53, v0_54, v0_55, v0_56, v0_57, v0_58, v0_59, v0_60, v0_61, v0_62, v0_63, v0_64]))] (fun _ : Unit => (-1)) (fun _ : Unit => ([] : va_W)) 0 0 := by
  refine met_i (by decide) rfl ?_
  intro p e s m below meth c A ls E hr hlk hP hD hA hl
  have hS : va_S A s.heap s.heap [] := va_S.rf
  have hx := E.1.1
  have hb := E.1.2.1
  have hl : lv_has ls 2 [(0, .ref h0), (1, .int p0)] := hl
  refine lv_aload_n hx hb dX12_used_0 rfl (lv_at hl 0 rfl) ?_
  refine lv_iconst (v := 0) hx hb dX12_used_1 (by decide) ?_
  refine x_put (ws' := [(h0, .inr (12, [.int 0, v0_1, v0_2, v0_3, v0_4, v0_5, v0_6, v0_7, v0_8, v0_9, v0_10, v0_11, v0_12, v0_13, v0_14, v0_15, v0_16, v0_17, v0_18, v0_19, v0_20, v0_21, v0_22, v0_23, v0_24, v0_25, v0_26, v0_27, v0_28, v0_29, v0_30, v0_31, v0_32, v0_33, v0_34, v0_35, v0_36, v0_37, v0_38, v0_39, v0_40, v0_41, v0_42, v0_43, v0_44, v0_45, v0_46, v0_47, v0_48, v0_49, v0_50, v0_51, v0_52, v0_53, v0_54, v0_55, v0_56, v0_57, v0_58, v0_59, v0_60, v0_61, v0_62, v0_63, v0_64]))]) E iX12 tyX12 tyX12_ok nmX12 hP hD hS 0 rfl rfl 0 (by decide) wq202 rfl rfl rfl rfl rfl dX12_used_2 (fun H locs hP hD hS => ?_)
  refine lv_iload_n hx hb dX12_used_5 rfl (lv_at hl 1 rfl) ?_
  refine lv_iconst (v := 0) hx hb dX12_used_6 (by decide) ?_
  refine lv_bipush (v := 9) hx hb dX12_used_7 (by decide) ?_
  refine x_Si (rest := []) (ws' := fun _ => [(h0, .inr (12, [.int 0, v0_1, v0_2, v0_3, v0_4, v0_5, v0_6, v0_7, v0_8, v0_9, v0_10, v0_11, v0_12, v0_13, v0_14, v0_15, v0_16, v0_17, v0_18, v0_19, v0_20, v0_21, v0_22, v0_23, v0_24, v0_25, v0_26, v0_27, v0_28, v0_29, v0_30, v0_31, v0_32, v0_33, v0_34, v0_35, v0_36, v0_37, v0_38, v0_39, v0_40, v0_41, v0_42, v0_43, v0_44, v0_45, v0_46, v0_47, v0_48, v0_49, v0_50, v0_51, v0_52, v0_53, v0_54, v0_55, v0_56, v0_57, v0_58, v0_59, v0_60, v0_61, v0_62, v0_63, v0_64]))]) (wr := [(h0, .inr (12, [.int 0, v0_1, v0_2, v0_3, v0_4, v0_5, v0_6, v0_7, v0_8, v0_9, v0_10, v0_11, v0_12, v0_13, v0_14, v0_15, v0_16, v0_17, v0_18, v0_19, v0_20, v0_21, v0_22, v0_23, v0_24, v0_25, v0_26, v0_27, v0_28, v0_29, v0_30, v0_31, v0_32, v0_33, v0_34, v0_35, v0_36, v0_37, v0_38, v0_39, v0_40, v0_41, v0_42, v0_43, v0_44, v0_45, v0_46, v0_47, v0_48, v0_49, v0_50, v0_51, v0_52, v0_53, v0_54, v0_55, v0_56, v0_57, v0_58, v0_59, v0_60, v0_61, v0_62, v0_63, v0_64]))]) E (mX12_in_4 l D cyI cyJ Z p0 hf1_0) kX12_in wq283 wq284 ⟨rfl, rfl, Nat.le_of_ble_eq_true rfl, Nat.le_of_ble_eq_true rfl⟩ hP hD hS hA [] [0] rfl rfl (by decide) (fun _ => rfl) hl.1 rfl (Nat.le_of_ble_eq_true rfl) dX12_used_9 ⟨rfl, rfl⟩ ⟨Nat.le_of_ble_eq_true rfl, Nat.le_of_ble_eq_true rfl⟩ (fun _ H locs hP hD hS => ?_)
  refine lv_if_eq (tgt := 28) hx hb dX12_used_12 (by decide) (fun c9 => ?_) (fun c9 => absurd (by decide) c9)
  refine lv_aload_n hx hb dX12_used_28 rfl (lv_at hl 0 rfl) ?_
  refine lv_iconst (v := 1) hx hb dX12_used_29 (by decide) ?_
  refine x_Vi (rest := []) (ws' := fun _ => [(h0, .inr (12, [.int 0, .int 1, .int (-1), v0_3, v0_4, v0_5, v0_6, v0_7, v0_8, v0_9, v0_10, v0_11, v0_12, v0_13, v0_14, v0_15, v0_16, v0_17, v0_18, v0_19, v0_20, v0_21, v0_22, v0_23, v0_24, v0_25, v0_26, v0_27, v0_28, v0_29, v0_30, v0_31, v0_32, v0_33, v0_34, v0_35, v0_36, v0_37, v0_38, v0_39, v0_40, v0_41, v0_42, v0_43, v0_44, v0_45, v0_46, v0_47, v0_48, v0_49, v0_50, v0_51, v0_52, v0_53, v0_54, v0_55, v0_56, v0_57, v0_58, v0_59, v0_60, v0_61, v0_62, v0_63, v0_64]))]) (wr := []) E (mX12_refused_1 l D cyI cyJ Z h0 (.int 0) v0_1 v0_2 v0_3 v0_4 v0_5 v0_6 v0_7 v0_8 v0_9 v0_10 v0_11 v0_12 v0_13 v0_14 v0_15 v0_16 v0_17 v0_18 v0_19 v0_20 v0_21 v0_22 v0_23 v0_24 v0_25 v0_26 v0_27 v0_28 v0_29 v0_30 v0_31 v0_32 v0_33 v0_34 v0_35 v0_36 v0_37 v0_38 v0_39 v0_40 v0_41 v0_42 v0_43 v0_44 v0_45 v0_46 v0_47 v0_48 v0_49 v0_50 v0_51 v0_52 v0_53 v0_54 v0_55 v0_56 v0_57 v0_58 v0_59 v0_60 v0_61 v0_62 v0_63 v0_64) kX12_refused wq335 wq336 wq337 ⟨rfl, rfl, Nat.le_of_ble_eq_true rfl, Nat.le_of_ble_eq_true rfl⟩ hP hD hS hA [0] [] rfl rfl (by decide) (fun _ => rfl) 0 rfl rfl rfl hl.1 rfl (Nat.le_of_ble_eq_true rfl) dX12_used_30 ⟨rfl, rfl⟩ ⟨Nat.le_of_ble_eq_true rfl, Nat.le_of_ble_eq_true rfl⟩ (fun _ H locs hP hD hS => ?_)
  exact x_iret E hr hlk hP hD hS () rfl [] (by decide) rfl rfl dX12_used_33

set_option maxHeartbeats 4000000 in
set_option maxRecDepth 100000 in
theorem mX9_hasTheorem (l : Launch) (D : va_G) (cyI cyJ : ClassId) (Z : xZ) (h0 : Nat) (p0 : Int32) (v0_0 : Value) (v0_1 : Value) (v0_2 : Value) (v0_3 : Value) (v0_4 : Value) (v0_5 : Value) (v0_6 : Value) (v0_7 : Value) (v0_8 : Value) (v0_9 : Value) (v0_10 : Value) (v0_12 : Value) (v0_13 : Value) (v0_14 : Value) : MetI l yX9_hasTheorem (Cond.code yX9_hasTheorem cX9_hasTheorem 2 (some .boolean)) { frames := 0, cells := 0, slots := 0, locals := 0 } D cyI cyJ Z [.ref h0, .int p0] [(h0, .inr (9, [v0_0, v0_1, v0_2, v0_3, v0_4, v0_5, v0_6, v0_7, v0_8, v0_9, v0_10, .int 0, v0_12, v0_13, v0_14]))] (fun _ : Unit => 0) (fun _ : Unit => ([(h0, .inr (9, [v0_0, v0_1, v0_2, v0_3, v0_4, v0_5, v0_6, v0_7, v0_8, v0_9, v0_10, .int 0, v0_12, v0_13, v0_14]))] : va_W)) 0 0 := by
  refine met_i (by decide) rfl ?_
  intro p e s m below meth c A ls E hr hlk hP hD hA hl
  have hS : va_S A s.heap s.heap [] := va_S.rf
  have hx := E.1.1
  have hb := E.1.2.1
  have hl : lv_has ls 2 [(0, .ref h0), (1, .int p0)] := hl
  refine lv_iload_n hx hb dX9_hasTheorem_0 rfl (lv_at hl 1 rfl) ?_
  refine lv_if_lt (tgt := 16) hx hb dX9_hasTheorem_1 (by decide) (fun c1 => ?_) (fun c1 => ?_)
  · refine lv_iconst (v := 0) hx hb dX9_hasTheorem_16 (by decide) ?_
    exact x_iret E hr hlk hP hD hS () rfl [0] (by decide) rfl rfl dX9_hasTheorem_17
  · refine lv_iload_n hx hb dX9_hasTheorem_4 rfl (lv_at hl 1 rfl) ?_
    refine lv_aload_n hx hb dX9_hasTheorem_5 rfl (lv_at hl 0 rfl) ?_
    refine x_get E iX9 hP 0 rfl rfl 11 (by decide) wq211 rfl dX9_hasTheorem_6 ?_
    refine lv_icmp_ge (tgt := 16) hx hb dX9_hasTheorem_9 (by decide) (fun c9 => ?_) (fun c9 => (by exfalso; have k0 : ¬ ((p0 : Int32).toInt < (0 : Int32).toInt) := fun z => c1 (Int32.lt_iff_toInt_lt.mpr z); have k1 : ¬ ((0 : Int32).toInt ≤ (p0 : Int32).toInt) := fun z => c9 (Int32.le_iff_toInt_le.mpr z); have l0 : (0 : Int32).toInt = 0 := (by decide); omega))
    refine lv_iconst (v := 0) hx hb dX9_hasTheorem_16 (by decide) ?_
    exact x_iret E hr hlk hP hD hS () rfl [0] (by decide) rfl rfl dX9_hasTheorem_17

set_option maxHeartbeats 4000000 in
set_option maxRecDepth 100000 in
theorem mX11_theorem (l : Launch) (D : va_G) (cyI cyJ : ClassId) (Z : xZ) (h0 : Nat) (p0 : Int32) (p1 : Int32) (h1 : Nat) (v0_0 : Value) (v0_1 : Value) (v0_2 : Value) (v0_3 : Value) (v0_4 : Value) (v0_5 : Value) (v0_6 : Value) (v0_8 : Value) (v0_9 : Value) (v0_10 : Value) (v0_11 : Value) (v0_12 : Value) (v0_13 : Value) (v0_14 : Value) (v0_15 : Value) (v1_0 : Value) (v1_1 : Value) (v1_2 : Value) (v1_3 : Value) (v1_4 : Value) (v1_5 : Value) (v1_6 : Value) (v1_7 : Value) (v1_8 : Value) (v1_9 : Value) (v1_10 : Value) (v1_12 : Value) (v1_13 : Value) (v1_14 : Value) : MetI l yX11_theorem (Cond.code yX11_theorem cX11_theorem 4 (some .int)) { frames := 1, cells := 0, slots := 0, locals := 21 } D cyI cyJ Z [.ref h0, .int p0, .int p1] [(h0, .inr (11, [v0_0, v0_1, v0_2, v0_3, v0_4, v0_5, v0_6, .ref h1, v0_8, v0_9, v0_10, v0_11, v0_12, v0_13, v0_14, v0_15])), (h1, .inr (9, [v1_0, v1_1, v1_2, v1_3, v1_4, v1_5, v1_6, v1_7, v1_8, v1_9, v1_10, .int 0, v1_12, v1_13, v1_14]))] (fun _ : Unit => (-1)) (fun _ : Unit => ([] : va_W)) 0 0 := by
  refine met_i (by decide) rfl ?_
  intro p e s m below meth c A ls E hr hlk hP hD hA hl
  have hS : va_S A s.heap s.heap [] := va_S.rf
  have hx := E.1.1
  have hb := E.1.2.1
  have hl : lv_has ls 4 [(0, .ref h0), (1, .int p0), (2, .int p1)] := hl
  refine lv_aload_n hx hb dX11_theorem_0 rfl (lv_at hl 0 rfl) ?_
  refine x_get E iX11 hP 0 rfl rfl 7 (by decide) wq60 rfl dX11_theorem_1 ?_
  refine lv_iload_n hx hb dX11_theorem_4 rfl (lv_at hl 1 rfl) ?_
  refine x_Vi (rest := []) (ws' := fun _ => [(h0, .inr (11, [v0_0, v0_1, v0_2, v0_3, v0_4, v0_5, v0_6, .ref h1, v0_8, v0_9, v0_10, v0_11, v0_12, v0_13, v0_14, v0_15])), (h1, .inr (9, [v1_0, v1_1, v1_2, v1_3, v1_4, v1_5, v1_6, v1_7, v1_8, v1_9, v1_10, .int 0, v1_12, v1_13, v1_14]))]) (wr := [(h0, .inr (11, [v0_0, v0_1, v0_2, v0_3, v0_4, v0_5, v0_6, .ref h1, v0_8, v0_9, v0_10, v0_11, v0_12, v0_13, v0_14, v0_15]))]) E (mX9_hasTheorem l D cyI cyJ Z h1 p0 v1_0 v1_1 v1_2 v1_3 v1_4 v1_5 v1_6 v1_7 v1_8 v1_9 v1_10 v1_12 v1_13 v1_14) kX9_hasTheorem wq451 wq452 wq453 ⟨rfl, rfl, Nat.le_of_ble_eq_true rfl, Nat.le_of_ble_eq_true rfl⟩ hP hD hS hA [1] [0] rfl rfl (by decide) (fun _ => rfl) 1 rfl rfl rfl hl.1 rfl (Nat.le_of_ble_eq_true rfl) dX11_theorem_5 ⟨rfl, rfl⟩ ⟨Nat.le_of_ble_eq_true rfl, Nat.le_of_ble_eq_true rfl⟩ (fun _ H locs hP hD hS => ?_)
  refine lv_if_ne (tgt := 17) hx hb dX11_theorem_8 (by decide) (fun c9 => absurd (by decide) c9) (fun c9 => ?_)
  refine lv_aload_n hx hb dX11_theorem_11 rfl (lv_at hl 0 rfl) ?_
  refine lv_iconst (v := 1) hx hb dX11_theorem_12 (by decide) ?_
  refine x_Vi (rest := []) (ws' := fun _ => [(h1, .inr (9, [v1_0, v1_1, v1_2, v1_3, v1_4, v1_5, v1_6, v1_7, v1_8, v1_9, v1_10, .int 0, v1_12, v1_13, v1_14])), (h0, .inr (11, [v0_0, v0_1, v0_2, v0_3, .int 1, v0_5, v0_6, .ref h1, v0_8, v0_9, v0_10, v0_11, v0_12, v0_13, v0_14, v0_15]))]) (wr := [(h1, .inr (9, [v1_0, v1_1, v1_2, v1_3, v1_4, v1_5, v1_6, v1_7, v1_8, v1_9, v1_10, .int 0, v1_12, v1_13, v1_14]))]) E (mX11_refused_2 l D cyI cyJ Z h0 v0_0 v0_1 v0_2 v0_3 v0_4 v0_5 v0_6 (.ref h1) v0_8 v0_9 v0_10 v0_11 v0_12 v0_13 v0_14 v0_15) kX11_refused wq277 wq278 wq279 ⟨rfl, rfl, Nat.le_of_ble_eq_true rfl, Nat.le_of_ble_eq_true rfl⟩ hP hD hS hA [0] [1] rfl rfl (by decide) (fun _ => rfl) 0 rfl rfl rfl hl.1 rfl (Nat.le_of_ble_eq_true rfl) dX11_theorem_13 ⟨rfl, rfl⟩ ⟨Nat.le_of_ble_eq_true rfl, Nat.le_of_ble_eq_true rfl⟩ (fun _ H locs hP hD hS => ?_)
  exact x_iret E hr hlk hP hD hS () rfl [] (by decide) rfl rfl dX11_theorem_16

set_option maxHeartbeats 4000000 in
set_option maxRecDepth 100000 in
theorem mX12_in_5 (l : Launch) (D : va_G) (cyI cyJ : ClassId) (Z : xZ) (p0 : Int32) : MetI l yX12_in (Cond.code yX12_in cX12_in 3 (some .boolean)) { frames := 0, cells := 0, slots := 0, locals := 0 } D cyI cyJ Z [.int p0, .int 0, .int (-1)] [] (fun _ : Unit => 0) (fun _ : Unit => ([] : va_W)) 0 0 := by
  refine met_i (by decide) rfl ?_
  intro p e s m below meth c A ls E hr hlk hP hD hA hl
  have hS : va_S A s.heap s.heap [] := va_S.rf
  have hx := E.1.1
  have hb := E.1.2.1
  have hl : lv_has ls 3 [(0, .int p0), (1, .int 0), (2, .int (-1))] := hl
  refine lv_iload_n hx hb dX12_in_0 rfl (lv_at hl 0 rfl) ?_
  refine lv_iload_n hx hb dX12_in_1 rfl (lv_at hl 1 rfl) ?_
  refine lv_icmp_lt (tgt := 14) hx hb dX12_in_2 (by decide) (fun c1 => ?_) (fun c1 => ?_)
  · refine lv_iconst (v := 0) hx hb dX12_in_14 (by decide) ?_
    exact x_iret E hr hlk hP hD hS () rfl [] (by decide) rfl rfl dX12_in_15
  · refine lv_iload_n hx hb dX12_in_5 rfl (lv_at hl 0 rfl) ?_
    refine lv_iload_n hx hb dX12_in_6 rfl (lv_at hl 2 rfl) ?_
    refine lv_icmp_gt (tgt := 14) hx hb dX12_in_7 (by decide) (fun c9 => ?_) (fun c9 => (by exfalso; have k0 : ¬ ((p0 : Int32).toInt < (0 : Int32).toInt) := fun z => c1 (Int32.lt_iff_toInt_lt.mpr z); have k1 : ¬ (((-1) : Int32).toInt < (p0 : Int32).toInt) := fun z => c9 (Int32.lt_iff_toInt_lt.mpr z); have l0 : ((-1) : Int32).toInt = (-1) := (by decide); have l1 : (0 : Int32).toInt = 0 := (by decide); omega))
    refine lv_iconst (v := 0) hx hb dX12_in_14 (by decide) ?_
    exact x_iret E hr hlk hP hD hS () rfl [] (by decide) rfl rfl dX12_in_15

set_option maxHeartbeats 4000000 in
set_option maxRecDepth 100000 in
theorem mX12_isThm (l : Launch) (D : va_G) (cyI cyJ : ClassId) (Z : xZ) (h0 : Nat) (p0 : Int32) (v0_0 : Value) (v0_1 : Value) (v0_2 : Value) (v0_3 : Value) (v0_4 : Value) (v0_5 : Value) (v0_6 : Value) (v0_7 : Value) (v0_8 : Value) (v0_9 : Value) (v0_10 : Value) (v0_11 : Value) (v0_12 : Value) (v0_13 : Value) (v0_14 : Value) (v0_15 : Value) (v0_16 : Value) (v0_17 : Value) (v0_18 : Value) (v0_19 : Value) (v0_20 : Value) (v0_21 : Value) (v0_22 : Value) (v0_23 : Value) (v0_24 : Value) (v0_25 : Value) (v0_26 : Value) (v0_27 : Value) (v0_29 : Value) (v0_30 : Value) (v0_31 : Value) (v0_32 : Value) (v0_33 : Value) (v0_34 : Value) (v0_35 : Value) (v0_36 : Value) (v0_37 : Value) (v0_38 : Value) (v0_39 : Value) (v0_40 : Value) (v0_41 : Value) (v0_42 : Value) (v0_43 : Value) (v0_44 : Value) (v0_45 : Value) (v0_46 : Value) (v0_47 : Value) (v0_48 : Value) (v0_49 : Value) (v0_50 : Value) (v0_51 : Value) (v0_52 : Value) (v0_53 : Value) (v0_54 : Value) (v0_55 : Value) (v0_56 : Value) (v0_57 : Value) (v0_58 : Value) (v0_59 : Value) (v0_60 : Value) (v0_61 : Value) (v0_62 : Value) (v0_63 : Value) (v0_64 : Value) : MetI l yX12_isThm (Cond.code yX12_isThm cX12_isThm 2 (some .boolean)) { frames := 1, cells := 0, slots := 0, locals := 22 } D cyI cyJ Z [.ref h0, .int p0] [(h0, .inr (12, [v0_0, v0_1, v0_2, v0_3, v0_4, v0_5, v0_6, v0_7, v0_8, v0_9, v0_10, v0_11, v0_12, v0_13, v0_14, v0_15, v0_16, v0_17, v0_18, v0_19, v0_20, v0_21, v0_22, v0_23, v0_24, v0_25, v0_26, v0_27, .int 0, v0_29, v0_30, v0_31, v0_32, v0_33, v0_34, v0_35, v0_36, v0_37, v0_38, v0_39, v0_40, v0_41, v0_42, v0_43, v0_44, v0_45, v0_46, v0_47, v0_48, v0_49, v0_50, v0_51, v0_52, v0_53, v0_54, v0_55, v0_56, v0_57, v0_58, v0_59, v0_60, v0_61, v0_62, v0_63, v0_64]))] (fun _ : Unit => 0) (fun _ : Unit => ([(h0, .inr (12, [v0_0, v0_1, v0_2, v0_3, v0_4, v0_5, v0_6, v0_7, v0_8, v0_9, v0_10, v0_11, v0_12, v0_13, v0_14, v0_15, v0_16, v0_17, v0_18, v0_19, v0_20, v0_21, v0_22, v0_23, v0_24, v0_25, v0_26, v0_27, .int 0, v0_29, v0_30, v0_31, v0_32, v0_33, v0_34, v0_35, v0_36, v0_37, v0_38, v0_39, v0_40, v0_41, v0_42, v0_43, v0_44, v0_45, v0_46, v0_47, v0_48, v0_49, v0_50, v0_51, v0_52, v0_53, v0_54, v0_55, v0_56, v0_57, v0_58, v0_59, v0_60, v0_61, v0_62, v0_63, v0_64]))] : va_W)) 0 0 := by
  refine met_i (by decide) rfl ?_
  intro p e s m below meth c A ls E hr hlk hP hD hA hl
  have hS : va_S A s.heap s.heap [] := va_S.rf
  have hx := E.1.1
  have hb := E.1.2.1
  have hl : lv_has ls 2 [(0, .ref h0), (1, .int p0)] := hl
  refine lv_iload_n hx hb dX12_isThm_0 rfl (lv_at hl 1 rfl) ?_
  refine lv_iconst (v := 0) hx hb dX12_isThm_1 (by decide) ?_
  refine lv_aload_n hx hb dX12_isThm_2 rfl (lv_at hl 0 rfl) ?_
  refine x_get E iX12 hP 0 rfl rfl 28 (by decide) wq290 rfl dX12_isThm_3 ?_
  refine lv_iconst (v := 1) hx hb dX12_isThm_6 (by decide) ?_
  refine lv_isub hx hb dX12_isThm_7 ?_
  refine x_topi (z := (-1)) (by decide) ?_
  refine x_Si (rest := []) (ws' := fun _ => [(h0, .inr (12, [v0_0, v0_1, v0_2, v0_3, v0_4, v0_5, v0_6, v0_7, v0_8, v0_9, v0_10, v0_11, v0_12, v0_13, v0_14, v0_15, v0_16, v0_17, v0_18, v0_19, v0_20, v0_21, v0_22, v0_23, v0_24, v0_25, v0_26, v0_27, .int 0, v0_29, v0_30, v0_31, v0_32, v0_33, v0_34, v0_35, v0_36, v0_37, v0_38, v0_39, v0_40, v0_41, v0_42, v0_43, v0_44, v0_45, v0_46, v0_47, v0_48, v0_49, v0_50, v0_51, v0_52, v0_53, v0_54, v0_55, v0_56, v0_57, v0_58, v0_59, v0_60, v0_61, v0_62, v0_63, v0_64]))]) (wr := [(h0, .inr (12, [v0_0, v0_1, v0_2, v0_3, v0_4, v0_5, v0_6, v0_7, v0_8, v0_9, v0_10, v0_11, v0_12, v0_13, v0_14, v0_15, v0_16, v0_17, v0_18, v0_19, v0_20, v0_21, v0_22, v0_23, v0_24, v0_25, v0_26, v0_27, .int 0, v0_29, v0_30, v0_31, v0_32, v0_33, v0_34, v0_35, v0_36, v0_37, v0_38, v0_39, v0_40, v0_41, v0_42, v0_43, v0_44, v0_45, v0_46, v0_47, v0_48, v0_49, v0_50, v0_51, v0_52, v0_53, v0_54, v0_55, v0_56, v0_57, v0_58, v0_59, v0_60, v0_61, v0_62, v0_63, v0_64]))]) E (mX12_in_5 l D cyI cyJ Z p0) kX12_in wq283 wq284 ⟨rfl, rfl, Nat.le_of_ble_eq_true rfl, Nat.le_of_ble_eq_true rfl⟩ hP hD hS hA [] [0] rfl rfl (by decide) (fun _ => rfl) hl.1 rfl (Nat.le_of_ble_eq_true rfl) dX12_isThm_8 ⟨rfl, rfl⟩ ⟨Nat.le_of_ble_eq_true rfl, Nat.le_of_ble_eq_true rfl⟩ (fun _ H locs hP hD hS => ?_)
  exact x_iret E hr hlk hP hD hS () rfl [0] (by decide) rfl rfl dX12_isThm_11

set_option maxHeartbeats 4000000 in
set_option maxRecDepth 100000 in
theorem mX12_theorem (l : Launch) (D : va_G) (cyI cyJ : ClassId) (Z : xZ) (h0 : Nat) (p0 : Int32) (p1 : Int32) (v0_0 : Value) (v0_1 : Value) (v0_2 : Value) (v0_3 : Value) (v0_4 : Value) (v0_5 : Value) (v0_6 : Value) (v0_7 : Value) (v0_8 : Value) (v0_9 : Value) (v0_10 : Value) (v0_11 : Value) (v0_12 : Value) (v0_13 : Value) (v0_14 : Value) (v0_15 : Value) (v0_16 : Value) (v0_17 : Value) (v0_18 : Value) (v0_19 : Value) (v0_20 : Value) (v0_21 : Value) (v0_22 : Value) (v0_23 : Value) (v0_24 : Value) (v0_25 : Value) (v0_26 : Value) (v0_27 : Value) (v0_29 : Value) (v0_30 : Value) (v0_31 : Value) (v0_32 : Value) (v0_33 : Value) (v0_34 : Value) (v0_35 : Value) (v0_36 : Value) (v0_37 : Value) (v0_38 : Value) (v0_39 : Value) (v0_40 : Value) (v0_41 : Value) (v0_42 : Value) (v0_43 : Value) (v0_44 : Value) (v0_45 : Value) (v0_46 : Value) (v0_47 : Value) (v0_48 : Value) (v0_49 : Value) (v0_50 : Value) (v0_51 : Value) (v0_52 : Value) (v0_53 : Value) (v0_54 : Value) (v0_55 : Value) (v0_56 : Value) (v0_57 : Value) (v0_58 : Value) (v0_59 : Value) (v0_60 : Value) (v0_61 : Value) (v0_62 : Value) (v0_63 : Value) (v0_64 : Value) : MetI l yX12_theorem (Cond.code yX12_theorem cX12_theorem 3 (some .int)) { frames := 2, cells := 0, slots := 0, locals := 43 } D cyI cyJ Z [.ref h0, .int p0, .int p1] [(h0, .inr (12, [v0_0, v0_1, v0_2, v0_3, v0_4, v0_5, v0_6, v0_7, v0_8, v0_9, v0_10, v0_11, v0_12, v0_13, v0_14, v0_15, v0_16, v0_17, v0_18, v0_19, v0_20, v0_21, v0_22, v0_23, v0_24, v0_25, v0_26, v0_27, .int 0, v0_29, v0_30, v0_31, v0_32, v0_33, v0_34, v0_35, v0_36, v0_37, v0_38, v0_39, v0_40, v0_41, v0_42, v0_43, v0_44, v0_45, v0_46, v0_47, v0_48, v0_49, v0_50, v0_51, v0_52, v0_53, v0_54, v0_55, v0_56, v0_57, v0_58, v0_59, v0_60, v0_61, v0_62, v0_63, v0_64]))] (fun _ : Unit => (-1)) (fun _ : Unit => ([] : va_W)) 0 0 := by
  refine met_i (by decide) rfl ?_
  intro p e s m below meth c A ls E hr hlk hP hD hA hl
  have hS : va_S A s.heap s.heap [] := va_S.rf
  have hx := E.1.1
  have hb := E.1.2.1
  have hl : lv_has ls 3 [(0, .ref h0), (1, .int p0), (2, .int p1)] := hl
  refine lv_aload_n hx hb dX12_theorem_0 rfl (lv_at hl 0 rfl) ?_
  refine lv_iconst (v := 0) hx hb dX12_theorem_1 (by decide) ?_
  refine x_put (ws' := [(h0, .inr (12, [.int 0, v0_1, v0_2, v0_3, v0_4, v0_5, v0_6, v0_7, v0_8, v0_9, v0_10, v0_11, v0_12, v0_13, v0_14, v0_15, v0_16, v0_17, v0_18, v0_19, v0_20, v0_21, v0_22, v0_23, v0_24, v0_25, v0_26, v0_27, .int 0, v0_29, v0_30, v0_31, v0_32, v0_33, v0_34, v0_35, v0_36, v0_37, v0_38, v0_39, v0_40, v0_41, v0_42, v0_43, v0_44, v0_45, v0_46, v0_47, v0_48, v0_49, v0_50, v0_51, v0_52, v0_53, v0_54, v0_55, v0_56, v0_57, v0_58, v0_59, v0_60, v0_61, v0_62, v0_63, v0_64]))]) E iX12 tyX12 tyX12_ok nmX12 hP hD hS 0 rfl rfl 0 (by decide) wq202 rfl rfl rfl rfl rfl dX12_theorem_2 (fun H locs hP hD hS => ?_)
  refine lv_aload_n hx hb dX12_theorem_5 rfl (lv_at hl 0 rfl) ?_
  refine lv_iload_n hx hb dX12_theorem_6 rfl (lv_at hl 1 rfl) ?_
  refine x_Vi (rest := []) (ws' := fun _ => [(h0, .inr (12, [.int 0, v0_1, v0_2, v0_3, v0_4, v0_5, v0_6, v0_7, v0_8, v0_9, v0_10, v0_11, v0_12, v0_13, v0_14, v0_15, v0_16, v0_17, v0_18, v0_19, v0_20, v0_21, v0_22, v0_23, v0_24, v0_25, v0_26, v0_27, .int 0, v0_29, v0_30, v0_31, v0_32, v0_33, v0_34, v0_35, v0_36, v0_37, v0_38, v0_39, v0_40, v0_41, v0_42, v0_43, v0_44, v0_45, v0_46, v0_47, v0_48, v0_49, v0_50, v0_51, v0_52, v0_53, v0_54, v0_55, v0_56, v0_57, v0_58, v0_59, v0_60, v0_61, v0_62, v0_63, v0_64]))]) (wr := []) E (mX12_isThm l D cyI cyJ Z h0 p0 (.int 0) v0_1 v0_2 v0_3 v0_4 v0_5 v0_6 v0_7 v0_8 v0_9 v0_10 v0_11 v0_12 v0_13 v0_14 v0_15 v0_16 v0_17 v0_18 v0_19 v0_20 v0_21 v0_22 v0_23 v0_24 v0_25 v0_26 v0_27 v0_29 v0_30 v0_31 v0_32 v0_33 v0_34 v0_35 v0_36 v0_37 v0_38 v0_39 v0_40 v0_41 v0_42 v0_43 v0_44 v0_45 v0_46 v0_47 v0_48 v0_49 v0_50 v0_51 v0_52 v0_53 v0_54 v0_55 v0_56 v0_57 v0_58 v0_59 v0_60 v0_61 v0_62 v0_63 v0_64) kX12_isThm wq454 wq455 wq456 ⟨rfl, rfl, Nat.le_of_ble_eq_true rfl, Nat.le_of_ble_eq_true rfl⟩ hP hD hS hA [0] [] rfl rfl (by decide) (fun _ => rfl) 0 rfl rfl rfl hl.1 rfl (Nat.le_of_ble_eq_true rfl) dX12_theorem_7 ⟨rfl, rfl⟩ ⟨Nat.le_of_ble_eq_true rfl, Nat.le_of_ble_eq_true rfl⟩ (fun _ H locs hP hD hS => ?_)
  refine lv_if_ne (tgt := 19) hx hb dX12_theorem_10 (by decide) (fun c9 => absurd (by decide) c9) (fun c9 => ?_)
  refine lv_aload_n hx hb dX12_theorem_13 rfl (lv_at hl 0 rfl) ?_
  refine lv_iconst (v := 1) hx hb dX12_theorem_14 (by decide) ?_
  refine x_Vi (rest := []) (ws' := fun _ => [(h0, .inr (12, [.int 0, .int 1, .int (-1), v0_3, v0_4, v0_5, v0_6, v0_7, v0_8, v0_9, v0_10, v0_11, v0_12, v0_13, v0_14, v0_15, v0_16, v0_17, v0_18, v0_19, v0_20, v0_21, v0_22, v0_23, v0_24, v0_25, v0_26, v0_27, .int 0, v0_29, v0_30, v0_31, v0_32, v0_33, v0_34, v0_35, v0_36, v0_37, v0_38, v0_39, v0_40, v0_41, v0_42, v0_43, v0_44, v0_45, v0_46, v0_47, v0_48, v0_49, v0_50, v0_51, v0_52, v0_53, v0_54, v0_55, v0_56, v0_57, v0_58, v0_59, v0_60, v0_61, v0_62, v0_63, v0_64]))]) (wr := []) E (mX12_refused_1 l D cyI cyJ Z h0 (.int 0) v0_1 v0_2 v0_3 v0_4 v0_5 v0_6 v0_7 v0_8 v0_9 v0_10 v0_11 v0_12 v0_13 v0_14 v0_15 v0_16 v0_17 v0_18 v0_19 v0_20 v0_21 v0_22 v0_23 v0_24 v0_25 v0_26 v0_27 (.int 0) v0_29 v0_30 v0_31 v0_32 v0_33 v0_34 v0_35 v0_36 v0_37 v0_38 v0_39 v0_40 v0_41 v0_42 v0_43 v0_44 v0_45 v0_46 v0_47 v0_48 v0_49 v0_50 v0_51 v0_52 v0_53 v0_54 v0_55 v0_56 v0_57 v0_58 v0_59 v0_60 v0_61 v0_62 v0_63 v0_64) kX12_refused wq335 wq336 wq337 ⟨rfl, rfl, Nat.le_of_ble_eq_true rfl, Nat.le_of_ble_eq_true rfl⟩ hP hD hS hA [0] [] rfl rfl (by decide) (fun _ => rfl) 0 rfl rfl rfl hl.1 rfl (Nat.le_of_ble_eq_true rfl) dX12_theorem_15 ⟨rfl, rfl⟩ ⟨Nat.le_of_ble_eq_true rfl, Nat.le_of_ble_eq_true rfl⟩ (fun _ H locs hP hD hS => ?_)
  exact x_iret E hr hlk hP hD hS () rfl [] (by decide) rfl rfl dX12_theorem_18

set_option maxHeartbeats 4000000 in
set_option maxRecDepth 100000 in
theorem mX11_same (l : Launch) (D : va_G) (cyI cyJ : ClassId) (Z : xZ) (h0 : Nat) (p0 : Int32) (p1 : Int32) (h1 : Nat) (v0_0 : Value) (v0_1 : Value) (v0_2 : Value) (v0_3 : Value) (v0_4 : Value) (v0_5 : Value) (v0_6 : Value) (v0_8 : Value) (v0_9 : Value) (v0_10 : Value) (v0_11 : Value) (v0_12 : Value) (v0_13 : Value) (v0_14 : Value) (v0_15 : Value) (v1_0 : Value) (v1_1 : Value) (v1_2 : Value) (v1_3 : Value) (v1_4 : Value) (v1_5 : Value) (v1_6 : Value) (v1_7 : Value) (v1_8 : Value) (v1_9 : Value) (v1_10 : Value) (v1_12 : Value) (v1_13 : Value) (v1_14 : Value) : MetI l yX11_same (Cond.code yX11_same cX11_same 3 (some .int)) { frames := 1, cells := 0, slots := 0, locals := 21 } D cyI cyJ Z [.ref h0, .int p0, .int p1] [(h0, .inr (11, [v0_0, v0_1, v0_2, v0_3, v0_4, v0_5, v0_6, .ref h1, v0_8, v0_9, v0_10, v0_11, v0_12, v0_13, v0_14, v0_15])), (h1, .inr (9, [v1_0, v1_1, v1_2, v1_3, v1_4, v1_5, v1_6, v1_7, v1_8, v1_9, v1_10, .int 0, v1_12, v1_13, v1_14]))] (fun _ : Unit => (-1)) (fun _ : Unit => ([] : va_W)) 0 0 := by
  refine met_i (by decide) rfl ?_
  intro p e s m below meth c A ls E hr hlk hP hD hA hl
  have hS : va_S A s.heap s.heap [] := va_S.rf
  have hx := E.1.1
  have hb := E.1.2.1
  have hl : lv_has ls 3 [(0, .ref h0), (1, .int p0), (2, .int p1)] := hl
  refine lv_aload_n hx hb dX11_same_0 rfl (lv_at hl 0 rfl) ?_
  refine x_get E iX11 hP 0 rfl rfl 7 (by decide) wq60 rfl dX11_same_1 ?_
  refine lv_iload_n hx hb dX11_same_4 rfl (lv_at hl 1 rfl) ?_
  refine x_Vi (rest := []) (ws' := fun _ => [(h0, .inr (11, [v0_0, v0_1, v0_2, v0_3, v0_4, v0_5, v0_6, .ref h1, v0_8, v0_9, v0_10, v0_11, v0_12, v0_13, v0_14, v0_15])), (h1, .inr (9, [v1_0, v1_1, v1_2, v1_3, v1_4, v1_5, v1_6, v1_7, v1_8, v1_9, v1_10, .int 0, v1_12, v1_13, v1_14]))]) (wr := [(h0, .inr (11, [v0_0, v0_1, v0_2, v0_3, v0_4, v0_5, v0_6, .ref h1, v0_8, v0_9, v0_10, v0_11, v0_12, v0_13, v0_14, v0_15]))]) E (mX9_hasTheorem l D cyI cyJ Z h1 p0 v1_0 v1_1 v1_2 v1_3 v1_4 v1_5 v1_6 v1_7 v1_8 v1_9 v1_10 v1_12 v1_13 v1_14) kX9_hasTheorem wq451 wq452 wq453 ⟨rfl, rfl, Nat.le_of_ble_eq_true rfl, Nat.le_of_ble_eq_true rfl⟩ hP hD hS hA [1] [0] rfl rfl (by decide) (fun _ => rfl) 1 rfl rfl rfl hl.1 rfl (Nat.le_of_ble_eq_true rfl) dX11_same_5 ⟨rfl, rfl⟩ ⟨Nat.le_of_ble_eq_true rfl, Nat.le_of_ble_eq_true rfl⟩ (fun _ H locs hP hD hS => ?_)
  refine lv_if_eq (tgt := 22) hx hb dX11_same_8 (by decide) (fun c9 => ?_) (fun c9 => absurd (by decide) c9)
  refine lv_aload_n hx hb dX11_same_22 rfl (lv_at hl 0 rfl) ?_
  refine lv_iconst (v := 1) hx hb dX11_same_23 (by decide) ?_
  refine x_Vi (rest := []) (ws' := fun _ => [(h1, .inr (9, [v1_0, v1_1, v1_2, v1_3, v1_4, v1_5, v1_6, v1_7, v1_8, v1_9, v1_10, .int 0, v1_12, v1_13, v1_14])), (h0, .inr (11, [v0_0, v0_1, v0_2, v0_3, .int 1, v0_5, v0_6, .ref h1, v0_8, v0_9, v0_10, v0_11, v0_12, v0_13, v0_14, v0_15]))]) (wr := [(h1, .inr (9, [v1_0, v1_1, v1_2, v1_3, v1_4, v1_5, v1_6, v1_7, v1_8, v1_9, v1_10, .int 0, v1_12, v1_13, v1_14]))]) E (mX11_refused_2 l D cyI cyJ Z h0 v0_0 v0_1 v0_2 v0_3 v0_4 v0_5 v0_6 (.ref h1) v0_8 v0_9 v0_10 v0_11 v0_12 v0_13 v0_14 v0_15) kX11_refused wq277 wq278 wq279 ⟨rfl, rfl, Nat.le_of_ble_eq_true rfl, Nat.le_of_ble_eq_true rfl⟩ hP hD hS hA [0] [1] rfl rfl (by decide) (fun _ => rfl) 0 rfl rfl rfl hl.1 rfl (Nat.le_of_ble_eq_true rfl) dX11_same_24 ⟨rfl, rfl⟩ ⟨Nat.le_of_ble_eq_true rfl, Nat.le_of_ble_eq_true rfl⟩ (fun _ H locs hP hD hS => ?_)
  exact x_iret E hr hlk hP hD hS () rfl [] (by decide) rfl rfl dX11_same_27

set_option maxHeartbeats 4000000 in
set_option maxRecDepth 100000 in
theorem mX12_same (l : Launch) (D : va_G) (cyI cyJ : ClassId) (Z : xZ) (h0 : Nat) (p0 : Int32) (p1 : Int32) (v0_0 : Value) (v0_1 : Value) (v0_2 : Value) (v0_3 : Value) (v0_4 : Value) (v0_5 : Value) (v0_6 : Value) (v0_7 : Value) (v0_8 : Value) (v0_9 : Value) (v0_10 : Value) (v0_11 : Value) (v0_12 : Value) (v0_13 : Value) (v0_14 : Value) (v0_15 : Value) (v0_16 : Value) (v0_17 : Value) (v0_18 : Value) (v0_19 : Value) (v0_20 : Value) (v0_21 : Value) (v0_22 : Value) (v0_23 : Value) (v0_24 : Value) (v0_25 : Value) (v0_26 : Value) (v0_27 : Value) (v0_29 : Value) (v0_30 : Value) (v0_31 : Value) (v0_32 : Value) (v0_33 : Value) (v0_34 : Value) (v0_35 : Value) (v0_36 : Value) (v0_37 : Value) (v0_38 : Value) (v0_39 : Value) (v0_40 : Value) (v0_41 : Value) (v0_42 : Value) (v0_43 : Value) (v0_44 : Value) (v0_45 : Value) (v0_46 : Value) (v0_47 : Value) (v0_48 : Value) (v0_49 : Value) (v0_50 : Value) (v0_51 : Value) (v0_52 : Value) (v0_53 : Value) (v0_54 : Value) (v0_55 : Value) (v0_56 : Value) (v0_57 : Value) (v0_58 : Value) (v0_59 : Value) (v0_60 : Value) (v0_61 : Value) (v0_62 : Value) (v0_63 : Value) (v0_64 : Value) : MetI l yX12_same (Cond.code yX12_same cX12_same 3 (some .int)) { frames := 2, cells := 0, slots := 0, locals := 43 } D cyI cyJ Z [.ref h0, .int p0, .int p1] [(h0, .inr (12, [v0_0, v0_1, v0_2, v0_3, v0_4, v0_5, v0_6, v0_7, v0_8, v0_9, v0_10, v0_11, v0_12, v0_13, v0_14, v0_15, v0_16, v0_17, v0_18, v0_19, v0_20, v0_21, v0_22, v0_23, v0_24, v0_25, v0_26, v0_27, .int 0, v0_29, v0_30, v0_31, v0_32, v0_33, v0_34, v0_35, v0_36, v0_37, v0_38, v0_39, v0_40, v0_41, v0_42, v0_43, v0_44, v0_45, v0_46, v0_47, v0_48, v0_49, v0_50, v0_51, v0_52, v0_53, v0_54, v0_55, v0_56, v0_57, v0_58, v0_59, v0_60, v0_61, v0_62, v0_63, v0_64]))] (fun _ : Unit => (-1)) (fun _ : Unit => ([] : va_W)) 0 0 := by
  refine met_i (by decide) rfl ?_
  intro p e s m below meth c A ls E hr hlk hP hD hA hl
  have hS : va_S A s.heap s.heap [] := va_S.rf
  have hx := E.1.1
  have hb := E.1.2.1
  have hl : lv_has ls 3 [(0, .ref h0), (1, .int p0), (2, .int p1)] := hl
  refine lv_aload_n hx hb dX12_same_0 rfl (lv_at hl 0 rfl) ?_
  refine lv_iconst (v := 0) hx hb dX12_same_1 (by decide) ?_
  refine x_put (ws' := [(h0, .inr (12, [.int 0, v0_1, v0_2, v0_3, v0_4, v0_5, v0_6, v0_7, v0_8, v0_9, v0_10, v0_11, v0_12, v0_13, v0_14, v0_15, v0_16, v0_17, v0_18, v0_19, v0_20, v0_21, v0_22, v0_23, v0_24, v0_25, v0_26, v0_27, .int 0, v0_29, v0_30, v0_31, v0_32, v0_33, v0_34, v0_35, v0_36, v0_37, v0_38, v0_39, v0_40, v0_41, v0_42, v0_43, v0_44, v0_45, v0_46, v0_47, v0_48, v0_49, v0_50, v0_51, v0_52, v0_53, v0_54, v0_55, v0_56, v0_57, v0_58, v0_59, v0_60, v0_61, v0_62, v0_63, v0_64]))]) E iX12 tyX12 tyX12_ok nmX12 hP hD hS 0 rfl rfl 0 (by decide) wq202 rfl rfl rfl rfl rfl dX12_same_2 (fun H locs hP hD hS => ?_)
  refine lv_aload_n hx hb dX12_same_5 rfl (lv_at hl 0 rfl) ?_
  refine lv_iload_n hx hb dX12_same_6 rfl (lv_at hl 1 rfl) ?_
  refine x_Vi (rest := []) (ws' := fun _ => [(h0, .inr (12, [.int 0, v0_1, v0_2, v0_3, v0_4, v0_5, v0_6, v0_7, v0_8, v0_9, v0_10, v0_11, v0_12, v0_13, v0_14, v0_15, v0_16, v0_17, v0_18, v0_19, v0_20, v0_21, v0_22, v0_23, v0_24, v0_25, v0_26, v0_27, .int 0, v0_29, v0_30, v0_31, v0_32, v0_33, v0_34, v0_35, v0_36, v0_37, v0_38, v0_39, v0_40, v0_41, v0_42, v0_43, v0_44, v0_45, v0_46, v0_47, v0_48, v0_49, v0_50, v0_51, v0_52, v0_53, v0_54, v0_55, v0_56, v0_57, v0_58, v0_59, v0_60, v0_61, v0_62, v0_63, v0_64]))]) (wr := []) E (mX12_isThm l D cyI cyJ Z h0 p0 (.int 0) v0_1 v0_2 v0_3 v0_4 v0_5 v0_6 v0_7 v0_8 v0_9 v0_10 v0_11 v0_12 v0_13 v0_14 v0_15 v0_16 v0_17 v0_18 v0_19 v0_20 v0_21 v0_22 v0_23 v0_24 v0_25 v0_26 v0_27 v0_29 v0_30 v0_31 v0_32 v0_33 v0_34 v0_35 v0_36 v0_37 v0_38 v0_39 v0_40 v0_41 v0_42 v0_43 v0_44 v0_45 v0_46 v0_47 v0_48 v0_49 v0_50 v0_51 v0_52 v0_53 v0_54 v0_55 v0_56 v0_57 v0_58 v0_59 v0_60 v0_61 v0_62 v0_63 v0_64) kX12_isThm wq454 wq455 wq456 ⟨rfl, rfl, Nat.le_of_ble_eq_true rfl, Nat.le_of_ble_eq_true rfl⟩ hP hD hS hA [0] [] rfl rfl (by decide) (fun _ => rfl) 0 rfl rfl rfl hl.1 rfl (Nat.le_of_ble_eq_true rfl) dX12_same_7 ⟨rfl, rfl⟩ ⟨Nat.le_of_ble_eq_true rfl, Nat.le_of_ble_eq_true rfl⟩ (fun _ H locs hP hD hS => ?_)
  refine lv_if_eq (tgt := 21) hx hb dX12_same_10 (by decide) (fun c9 => ?_) (fun c9 => absurd (by decide) c9)
  refine lv_aload_n hx hb dX12_same_21 rfl (lv_at hl 0 rfl) ?_
  refine lv_iconst (v := 1) hx hb dX12_same_22 (by decide) ?_
  refine x_Vi (rest := []) (ws' := fun _ => [(h0, .inr (12, [.int 0, .int 1, .int (-1), v0_3, v0_4, v0_5, v0_6, v0_7, v0_8, v0_9, v0_10, v0_11, v0_12, v0_13, v0_14, v0_15, v0_16, v0_17, v0_18, v0_19, v0_20, v0_21, v0_22, v0_23, v0_24, v0_25, v0_26, v0_27, .int 0, v0_29, v0_30, v0_31, v0_32, v0_33, v0_34, v0_35, v0_36, v0_37, v0_38, v0_39, v0_40, v0_41, v0_42, v0_43, v0_44, v0_45, v0_46, v0_47, v0_48, v0_49, v0_50, v0_51, v0_52, v0_53, v0_54, v0_55, v0_56, v0_57, v0_58, v0_59, v0_60, v0_61, v0_62, v0_63, v0_64]))]) (wr := []) E (mX12_refused_1 l D cyI cyJ Z h0 (.int 0) v0_1 v0_2 v0_3 v0_4 v0_5 v0_6 v0_7 v0_8 v0_9 v0_10 v0_11 v0_12 v0_13 v0_14 v0_15 v0_16 v0_17 v0_18 v0_19 v0_20 v0_21 v0_22 v0_23 v0_24 v0_25 v0_26 v0_27 (.int 0) v0_29 v0_30 v0_31 v0_32 v0_33 v0_34 v0_35 v0_36 v0_37 v0_38 v0_39 v0_40 v0_41 v0_42 v0_43 v0_44 v0_45 v0_46 v0_47 v0_48 v0_49 v0_50 v0_51 v0_52 v0_53 v0_54 v0_55 v0_56 v0_57 v0_58 v0_59 v0_60 v0_61 v0_62 v0_63 v0_64) kX12_refused wq335 wq336 wq337 ⟨rfl, rfl, Nat.le_of_ble_eq_true rfl, Nat.le_of_ble_eq_true rfl⟩ hP hD hS hA [0] [] rfl rfl (by decide) (fun _ => rfl) 0 rfl rfl rfl hl.1 rfl (Nat.le_of_ble_eq_true rfl) dX12_same_23 ⟨rfl, rfl⟩ ⟨Nat.le_of_ble_eq_true rfl, Nat.le_of_ble_eq_true rfl⟩ (fun _ H locs hP hD hS => ?_)
  exact x_iret E hr hlk hP hD hS () rfl [] (by decide) rfl rfl dX12_same_26

set_option maxHeartbeats 4000000 in
set_option maxRecDepth 100000 in
theorem mX11_writeOf (l : Launch) (D : va_G) (cyI cyJ : ClassId) (Z : xZ) (h0 : Nat) (p0 : Int32) (p1 : Int32) (h1 : Nat) (v0_0 : Value) (v0_1 : Value) (v0_2 : Value) (v0_3 : Value) (v0_4 : Value) (v0_5 : Value) (v0_6 : Value) (v0_8 : Value) (v0_9 : Value) (v0_10 : Value) (v0_11 : Value) (v0_12 : Value) (v0_13 : Value) (v0_14 : Value) (v0_15 : Value) (v1_0 : Value) (v1_1 : Value) (v1_2 : Value) (v1_3 : Value) (v1_4 : Value) (v1_5 : Value) (v1_6 : Value) (v1_7 : Value) (v1_8 : Value) (v1_9 : Value) (v1_10 : Value) (v1_12 : Value) (v1_13 : Value) (v1_14 : Value) : MetI l yX11_writeOf (Cond.code yX11_writeOf cX11_writeOf 4 (some .int)) { frames := 1, cells := 0, slots := 0, locals := 21 } D cyI cyJ Z [.ref h0, .int p0, .int p1] [(h0, .inr (11, [v0_0, v0_1, v0_2, v0_3, v0_4, v0_5, v0_6, .ref h1, v0_8, v0_9, v0_10, v0_11, v0_12, v0_13, v0_14, v0_15])), (h1, .inr (9, [v1_0, v1_1, v1_2, v1_3, v1_4, v1_5, v1_6, v1_7, v1_8, v1_9, v1_10, .int 0, v1_12, v1_13, v1_14]))] (fun _ : Unit => (-1)) (fun _ : Unit => ([] : va_W)) 0 0 := by
  refine met_i (by decide) rfl ?_
  intro p e s m below meth c A ls E hr hlk hP hD hA hl
  have hS : va_S A s.heap s.heap [] := va_S.rf
  have hx := E.1.1
  have hb := E.1.2.1
  have hl : lv_has ls 4 [(0, .ref h0), (1, .int p0), (2, .int p1)] := hl
  refine lv_aload_n hx hb dX11_writeOf_0 rfl (lv_at hl 0 rfl) ?_
  refine x_get E iX11 hP 0 rfl rfl 7 (by decide) wq60 rfl dX11_writeOf_1 ?_
  refine lv_iload_n hx hb dX11_writeOf_4 rfl (lv_at hl 1 rfl) ?_
  refine x_Vi (rest := []) (ws' := fun _ => [(h0, .inr (11, [v0_0, v0_1, v0_2, v0_3, v0_4, v0_5, v0_6, .ref h1, v0_8, v0_9, v0_10, v0_11, v0_12, v0_13, v0_14, v0_15])), (h1, .inr (9, [v1_0, v1_1, v1_2, v1_3, v1_4, v1_5, v1_6, v1_7, v1_8, v1_9, v1_10, .int 0, v1_12, v1_13, v1_14]))]) (wr := [(h0, .inr (11, [v0_0, v0_1, v0_2, v0_3, v0_4, v0_5, v0_6, .ref h1, v0_8, v0_9, v0_10, v0_11, v0_12, v0_13, v0_14, v0_15]))]) E (mX9_hasTheorem l D cyI cyJ Z h1 p0 v1_0 v1_1 v1_2 v1_3 v1_4 v1_5 v1_6 v1_7 v1_8 v1_9 v1_10 v1_12 v1_13 v1_14) kX9_hasTheorem wq451 wq452 wq453 ⟨rfl, rfl, Nat.le_of_ble_eq_true rfl, Nat.le_of_ble_eq_true rfl⟩ hP hD hS hA [1] [0] rfl rfl (by decide) (fun _ => rfl) 1 rfl rfl rfl hl.1 rfl (Nat.le_of_ble_eq_true rfl) dX11_writeOf_5 ⟨rfl, rfl⟩ ⟨Nat.le_of_ble_eq_true rfl, Nat.le_of_ble_eq_true rfl⟩ (fun _ H locs hP hD hS => ?_)
  refine lv_if_ne (tgt := 17) hx hb dX11_writeOf_8 (by decide) (fun c9 => absurd (by decide) c9) (fun c9 => ?_)
  refine lv_aload_n hx hb dX11_writeOf_11 rfl (lv_at hl 0 rfl) ?_
  refine lv_iconst (v := 1) hx hb dX11_writeOf_12 (by decide) ?_
  refine x_Vi (rest := []) (ws' := fun _ => [(h1, .inr (9, [v1_0, v1_1, v1_2, v1_3, v1_4, v1_5, v1_6, v1_7, v1_8, v1_9, v1_10, .int 0, v1_12, v1_13, v1_14])), (h0, .inr (11, [v0_0, v0_1, v0_2, v0_3, .int 1, v0_5, v0_6, .ref h1, v0_8, v0_9, v0_10, v0_11, v0_12, v0_13, v0_14, v0_15]))]) (wr := [(h1, .inr (9, [v1_0, v1_1, v1_2, v1_3, v1_4, v1_5, v1_6, v1_7, v1_8, v1_9, v1_10, .int 0, v1_12, v1_13, v1_14]))]) E (mX11_refused_2 l D cyI cyJ Z h0 v0_0 v0_1 v0_2 v0_3 v0_4 v0_5 v0_6 (.ref h1) v0_8 v0_9 v0_10 v0_11 v0_12 v0_13 v0_14 v0_15) kX11_refused wq277 wq278 wq279 ⟨rfl, rfl, Nat.le_of_ble_eq_true rfl, Nat.le_of_ble_eq_true rfl⟩ hP hD hS hA [0] [1] rfl rfl (by decide) (fun _ => rfl) 0 rfl rfl rfl hl.1 rfl (Nat.le_of_ble_eq_true rfl) dX11_writeOf_13 ⟨rfl, rfl⟩ ⟨Nat.le_of_ble_eq_true rfl, Nat.le_of_ble_eq_true rfl⟩ (fun _ H locs hP hD hS => ?_)
  exact x_iret E hr hlk hP hD hS () rfl [] (by decide) rfl rfl dX11_writeOf_16

set_option maxHeartbeats 4000000 in
set_option maxRecDepth 100000 in
theorem mX12_writeOf (l : Launch) (D : va_G) (cyI cyJ : ClassId) (Z : xZ) (h0 : Nat) (p0 : Int32) (p1 : Int32) (v0_0 : Value) (v0_1 : Value) (v0_2 : Value) (v0_3 : Value) (v0_4 : Value) (v0_5 : Value) (v0_6 : Value) (v0_7 : Value) (v0_8 : Value) (v0_9 : Value) (v0_10 : Value) (v0_11 : Value) (v0_12 : Value) (v0_13 : Value) (v0_14 : Value) (v0_15 : Value) (v0_16 : Value) (v0_17 : Value) (v0_18 : Value) (v0_19 : Value) (v0_20 : Value) (v0_21 : Value) (v0_22 : Value) (v0_23 : Value) (v0_24 : Value) (v0_25 : Value) (v0_26 : Value) (v0_27 : Value) (v0_29 : Value) (v0_30 : Value) (v0_31 : Value) (v0_32 : Value) (v0_33 : Value) (v0_34 : Value) (v0_35 : Value) (v0_36 : Value) (v0_37 : Value) (v0_38 : Value) (v0_39 : Value) (v0_40 : Value) (v0_41 : Value) (v0_42 : Value) (v0_43 : Value) (v0_44 : Value) (v0_45 : Value) (v0_46 : Value) (v0_47 : Value) (v0_48 : Value) (v0_49 : Value) (v0_50 : Value) (v0_51 : Value) (v0_52 : Value) (v0_53 : Value) (v0_54 : Value) (v0_55 : Value) (v0_56 : Value) (v0_57 : Value) (v0_58 : Value) (v0_59 : Value) (v0_60 : Value) (v0_61 : Value) (v0_62 : Value) (v0_63 : Value) (v0_64 : Value) : MetI l yX12_writeOf (Cond.code yX12_writeOf cX12_writeOf 3 (some .int)) { frames := 2, cells := 0, slots := 0, locals := 43 } D cyI cyJ Z [.ref h0, .int p0, .int p1] [(h0, .inr (12, [v0_0, v0_1, v0_2, v0_3, v0_4, v0_5, v0_6, v0_7, v0_8, v0_9, v0_10, v0_11, v0_12, v0_13, v0_14, v0_15, v0_16, v0_17, v0_18, v0_19, v0_20, v0_21, v0_22, v0_23, v0_24, v0_25, v0_26, v0_27, .int 0, v0_29, v0_30, v0_31, v0_32, v0_33, v0_34, v0_35, v0_36, v0_37, v0_38, v0_39, v0_40, v0_41, v0_42, v0_43, v0_44, v0_45, v0_46, v0_47, v0_48, v0_49, v0_50, v0_51, v0_52, v0_53, v0_54, v0_55, v0_56, v0_57, v0_58, v0_59, v0_60, v0_61, v0_62, v0_63, v0_64]))] (fun _ : Unit => (-1)) (fun _ : Unit => ([] : va_W)) 0 0 := by
  refine met_i (by decide) rfl ?_
  intro p e s m below meth c A ls E hr hlk hP hD hA hl
  have hS : va_S A s.heap s.heap [] := va_S.rf
  have hx := E.1.1
  have hb := E.1.2.1
  have hl : lv_has ls 3 [(0, .ref h0), (1, .int p0), (2, .int p1)] := hl
  refine lv_aload_n hx hb dX12_writeOf_0 rfl (lv_at hl 0 rfl) ?_
  refine lv_iconst (v := 0) hx hb dX12_writeOf_1 (by decide) ?_
  refine x_put (ws' := [(h0, .inr (12, [.int 0, v0_1, v0_2, v0_3, v0_4, v0_5, v0_6, v0_7, v0_8, v0_9, v0_10, v0_11, v0_12, v0_13, v0_14, v0_15, v0_16, v0_17, v0_18, v0_19, v0_20, v0_21, v0_22, v0_23, v0_24, v0_25, v0_26, v0_27, .int 0, v0_29, v0_30, v0_31, v0_32, v0_33, v0_34, v0_35, v0_36, v0_37, v0_38, v0_39, v0_40, v0_41, v0_42, v0_43, v0_44, v0_45, v0_46, v0_47, v0_48, v0_49, v0_50, v0_51, v0_52, v0_53, v0_54, v0_55, v0_56, v0_57, v0_58, v0_59, v0_60, v0_61, v0_62, v0_63, v0_64]))]) E iX12 tyX12 tyX12_ok nmX12 hP hD hS 0 rfl rfl 0 (by decide) wq202 rfl rfl rfl rfl rfl dX12_writeOf_2 (fun H locs hP hD hS => ?_)
  refine lv_aload_n hx hb dX12_writeOf_5 rfl (lv_at hl 0 rfl) ?_
  refine lv_iload_n hx hb dX12_writeOf_6 rfl (lv_at hl 1 rfl) ?_
  refine x_Vi (rest := []) (ws' := fun _ => [(h0, .inr (12, [.int 0, v0_1, v0_2, v0_3, v0_4, v0_5, v0_6, v0_7, v0_8, v0_9, v0_10, v0_11, v0_12, v0_13, v0_14, v0_15, v0_16, v0_17, v0_18, v0_19, v0_20, v0_21, v0_22, v0_23, v0_24, v0_25, v0_26, v0_27, .int 0, v0_29, v0_30, v0_31, v0_32, v0_33, v0_34, v0_35, v0_36, v0_37, v0_38, v0_39, v0_40, v0_41, v0_42, v0_43, v0_44, v0_45, v0_46, v0_47, v0_48, v0_49, v0_50, v0_51, v0_52, v0_53, v0_54, v0_55, v0_56, v0_57, v0_58, v0_59, v0_60, v0_61, v0_62, v0_63, v0_64]))]) (wr := []) E (mX12_isThm l D cyI cyJ Z h0 p0 (.int 0) v0_1 v0_2 v0_3 v0_4 v0_5 v0_6 v0_7 v0_8 v0_9 v0_10 v0_11 v0_12 v0_13 v0_14 v0_15 v0_16 v0_17 v0_18 v0_19 v0_20 v0_21 v0_22 v0_23 v0_24 v0_25 v0_26 v0_27 v0_29 v0_30 v0_31 v0_32 v0_33 v0_34 v0_35 v0_36 v0_37 v0_38 v0_39 v0_40 v0_41 v0_42 v0_43 v0_44 v0_45 v0_46 v0_47 v0_48 v0_49 v0_50 v0_51 v0_52 v0_53 v0_54 v0_55 v0_56 v0_57 v0_58 v0_59 v0_60 v0_61 v0_62 v0_63 v0_64) kX12_isThm wq454 wq455 wq456 ⟨rfl, rfl, Nat.le_of_ble_eq_true rfl, Nat.le_of_ble_eq_true rfl⟩ hP hD hS hA [0] [] rfl rfl (by decide) (fun _ => rfl) 0 rfl rfl rfl hl.1 rfl (Nat.le_of_ble_eq_true rfl) dX12_writeOf_7 ⟨rfl, rfl⟩ ⟨Nat.le_of_ble_eq_true rfl, Nat.le_of_ble_eq_true rfl⟩ (fun _ H locs hP hD hS => ?_)
  refine lv_if_eq (tgt := 28) hx hb dX12_writeOf_10 (by decide) (fun c9 => ?_) (fun c9 => absurd (by decide) c9)
  refine lv_aload_n hx hb dX12_writeOf_28 rfl (lv_at hl 0 rfl) ?_
  refine lv_iconst (v := 1) hx hb dX12_writeOf_29 (by decide) ?_
  refine x_Vi (rest := []) (ws' := fun _ => [(h0, .inr (12, [.int 0, .int 1, .int (-1), v0_3, v0_4, v0_5, v0_6, v0_7, v0_8, v0_9, v0_10, v0_11, v0_12, v0_13, v0_14, v0_15, v0_16, v0_17, v0_18, v0_19, v0_20, v0_21, v0_22, v0_23, v0_24, v0_25, v0_26, v0_27, .int 0, v0_29, v0_30, v0_31, v0_32, v0_33, v0_34, v0_35, v0_36, v0_37, v0_38, v0_39, v0_40, v0_41, v0_42, v0_43, v0_44, v0_45, v0_46, v0_47, v0_48, v0_49, v0_50, v0_51, v0_52, v0_53, v0_54, v0_55, v0_56, v0_57, v0_58, v0_59, v0_60, v0_61, v0_62, v0_63, v0_64]))]) (wr := []) E (mX12_refused_1 l D cyI cyJ Z h0 (.int 0) v0_1 v0_2 v0_3 v0_4 v0_5 v0_6 v0_7 v0_8 v0_9 v0_10 v0_11 v0_12 v0_13 v0_14 v0_15 v0_16 v0_17 v0_18 v0_19 v0_20 v0_21 v0_22 v0_23 v0_24 v0_25 v0_26 v0_27 (.int 0) v0_29 v0_30 v0_31 v0_32 v0_33 v0_34 v0_35 v0_36 v0_37 v0_38 v0_39 v0_40 v0_41 v0_42 v0_43 v0_44 v0_45 v0_46 v0_47 v0_48 v0_49 v0_50 v0_51 v0_52 v0_53 v0_54 v0_55 v0_56 v0_57 v0_58 v0_59 v0_60 v0_61 v0_62 v0_63 v0_64) kX12_refused wq335 wq336 wq337 ⟨rfl, rfl, Nat.le_of_ble_eq_true rfl, Nat.le_of_ble_eq_true rfl⟩ hP hD hS hA [0] [] rfl rfl (by decide) (fun _ => rfl) 0 rfl rfl rfl hl.1 rfl (Nat.le_of_ble_eq_true rfl) dX12_writeOf_30 ⟨rfl, rfl⟩ ⟨Nat.le_of_ble_eq_true rfl, Nat.le_of_ble_eq_true rfl⟩ (fun _ H locs hP hD hS => ?_)
  exact x_iret E hr hlk hP hD hS () rfl [] (by decide) rfl rfl dX12_writeOf_33

set_option maxHeartbeats 4000000 in
set_option maxRecDepth 100000 in
theorem mX11_writeSide (l : Launch) (D : va_G) (cyI cyJ : ClassId) (Z : xZ) (h0 : Nat) (p0 : Int32) (p1 : Int32) (h1 : Nat) (v0_0 : Value) (v0_1 : Value) (v0_2 : Value) (v0_3 : Value) (v0_4 : Value) (v0_5 : Value) (v0_6 : Value) (v0_8 : Value) (v0_9 : Value) (v0_10 : Value) (v0_11 : Value) (v0_12 : Value) (v0_13 : Value) (v0_14 : Value) (v0_15 : Value) (v1_0 : Value) (v1_1 : Value) (v1_2 : Value) (v1_3 : Value) (v1_4 : Value) (v1_5 : Value) (v1_6 : Value) (v1_7 : Value) (v1_8 : Value) (v1_9 : Value) (v1_10 : Value) (v1_12 : Value) (v1_13 : Value) (v1_14 : Value) : MetI l yX11_writeSide (Cond.code yX11_writeSide cX11_writeSide 4 (some .int)) { frames := 1, cells := 0, slots := 0, locals := 21 } D cyI cyJ Z [.ref h0, .int p0, .int p1] [(h0, .inr (11, [v0_0, v0_1, v0_2, v0_3, v0_4, v0_5, v0_6, .ref h1, v0_8, v0_9, v0_10, v0_11, v0_12, v0_13, v0_14, v0_15])), (h1, .inr (9, [v1_0, v1_1, v1_2, v1_3, v1_4, v1_5, v1_6, v1_7, v1_8, v1_9, v1_10, .int 0, v1_12, v1_13, v1_14]))] (fun _ : Unit => (-1)) (fun _ : Unit => ([] : va_W)) 0 0 := by
  refine met_i (by decide) rfl ?_
  intro p e s m below meth c A ls E hr hlk hP hD hA hl
  have hS : va_S A s.heap s.heap [] := va_S.rf
  have hx := E.1.1
  have hb := E.1.2.1
  have hl : lv_has ls 4 [(0, .ref h0), (1, .int p0), (2, .int p1)] := hl
  refine lv_aload_n hx hb dX11_writeSide_0 rfl (lv_at hl 0 rfl) ?_
  refine x_get E iX11 hP 0 rfl rfl 7 (by decide) wq60 rfl dX11_writeSide_1 ?_
  refine lv_iload_n hx hb dX11_writeSide_4 rfl (lv_at hl 1 rfl) ?_
  refine x_Vi (rest := []) (ws' := fun _ => [(h0, .inr (11, [v0_0, v0_1, v0_2, v0_3, v0_4, v0_5, v0_6, .ref h1, v0_8, v0_9, v0_10, v0_11, v0_12, v0_13, v0_14, v0_15])), (h1, .inr (9, [v1_0, v1_1, v1_2, v1_3, v1_4, v1_5, v1_6, v1_7, v1_8, v1_9, v1_10, .int 0, v1_12, v1_13, v1_14]))]) (wr := [(h0, .inr (11, [v0_0, v0_1, v0_2, v0_3, v0_4, v0_5, v0_6, .ref h1, v0_8, v0_9, v0_10, v0_11, v0_12, v0_13, v0_14, v0_15]))]) E (mX9_hasTheorem l D cyI cyJ Z h1 p0 v1_0 v1_1 v1_2 v1_3 v1_4 v1_5 v1_6 v1_7 v1_8 v1_9 v1_10 v1_12 v1_13 v1_14) kX9_hasTheorem wq451 wq452 wq453 ⟨rfl, rfl, Nat.le_of_ble_eq_true rfl, Nat.le_of_ble_eq_true rfl⟩ hP hD hS hA [1] [0] rfl rfl (by decide) (fun _ => rfl) 1 rfl rfl rfl hl.1 rfl (Nat.le_of_ble_eq_true rfl) dX11_writeSide_5 ⟨rfl, rfl⟩ ⟨Nat.le_of_ble_eq_true rfl, Nat.le_of_ble_eq_true rfl⟩ (fun _ H locs hP hD hS => ?_)
  refine lv_if_eq (tgt := 20) hx hb dX11_writeSide_8 (by decide) (fun c9 => ?_) (fun c9 => absurd (by decide) c9)
  refine lv_aload_n hx hb dX11_writeSide_20 rfl (lv_at hl 0 rfl) ?_
  refine lv_iconst (v := 1) hx hb dX11_writeSide_21 (by decide) ?_
  refine x_Vi (rest := []) (ws' := fun _ => [(h1, .inr (9, [v1_0, v1_1, v1_2, v1_3, v1_4, v1_5, v1_6, v1_7, v1_8, v1_9, v1_10, .int 0, v1_12, v1_13, v1_14])), (h0, .inr (11, [v0_0, v0_1, v0_2, v0_3, .int 1, v0_5, v0_6, .ref h1, v0_8, v0_9, v0_10, v0_11, v0_12, v0_13, v0_14, v0_15]))]) (wr := [(h1, .inr (9, [v1_0, v1_1, v1_2, v1_3, v1_4, v1_5, v1_6, v1_7, v1_8, v1_9, v1_10, .int 0, v1_12, v1_13, v1_14]))]) E (mX11_refused_2 l D cyI cyJ Z h0 v0_0 v0_1 v0_2 v0_3 v0_4 v0_5 v0_6 (.ref h1) v0_8 v0_9 v0_10 v0_11 v0_12 v0_13 v0_14 v0_15) kX11_refused wq277 wq278 wq279 ⟨rfl, rfl, Nat.le_of_ble_eq_true rfl, Nat.le_of_ble_eq_true rfl⟩ hP hD hS hA [0] [1] rfl rfl (by decide) (fun _ => rfl) 0 rfl rfl rfl hl.1 rfl (Nat.le_of_ble_eq_true rfl) dX11_writeSide_22 ⟨rfl, rfl⟩ ⟨Nat.le_of_ble_eq_true rfl, Nat.le_of_ble_eq_true rfl⟩ (fun _ H locs hP hD hS => ?_)
  exact x_iret E hr hlk hP hD hS () rfl [] (by decide) rfl rfl dX11_writeSide_25

set_option maxHeartbeats 4000000 in
set_option maxRecDepth 100000 in
theorem mX12_writeSide (l : Launch) (D : va_G) (cyI cyJ : ClassId) (Z : xZ) (h0 : Nat) (p0 : Int32) (p1 : Int32) (v0_0 : Value) (v0_1 : Value) (v0_2 : Value) (v0_3 : Value) (v0_4 : Value) (v0_5 : Value) (v0_6 : Value) (v0_7 : Value) (v0_8 : Value) (v0_9 : Value) (v0_10 : Value) (v0_11 : Value) (v0_12 : Value) (v0_13 : Value) (v0_14 : Value) (v0_15 : Value) (v0_16 : Value) (v0_17 : Value) (v0_18 : Value) (v0_19 : Value) (v0_20 : Value) (v0_21 : Value) (v0_22 : Value) (v0_23 : Value) (v0_24 : Value) (v0_25 : Value) (v0_26 : Value) (v0_27 : Value) (v0_29 : Value) (v0_30 : Value) (v0_31 : Value) (v0_32 : Value) (v0_33 : Value) (v0_34 : Value) (v0_35 : Value) (v0_36 : Value) (v0_37 : Value) (v0_38 : Value) (v0_39 : Value) (v0_40 : Value) (v0_41 : Value) (v0_42 : Value) (v0_43 : Value) (v0_44 : Value) (v0_45 : Value) (v0_46 : Value) (v0_47 : Value) (v0_48 : Value) (v0_49 : Value) (v0_50 : Value) (v0_51 : Value) (v0_52 : Value) (v0_53 : Value) (v0_54 : Value) (v0_55 : Value) (v0_56 : Value) (v0_57 : Value) (v0_58 : Value) (v0_59 : Value) (v0_60 : Value) (v0_61 : Value) (v0_62 : Value) (v0_63 : Value) (v0_64 : Value) : MetI l yX12_writeSide (Cond.code yX12_writeSide cX12_writeSide 3 (some .int)) { frames := 2, cells := 0, slots := 0, locals := 43 } D cyI cyJ Z [.ref h0, .int p0, .int p1] [(h0, .inr (12, [v0_0, v0_1, v0_2, v0_3, v0_4, v0_5, v0_6, v0_7, v0_8, v0_9, v0_10, v0_11, v0_12, v0_13, v0_14, v0_15, v0_16, v0_17, v0_18, v0_19, v0_20, v0_21, v0_22, v0_23, v0_24, v0_25, v0_26, v0_27, .int 0, v0_29, v0_30, v0_31, v0_32, v0_33, v0_34, v0_35, v0_36, v0_37, v0_38, v0_39, v0_40, v0_41, v0_42, v0_43, v0_44, v0_45, v0_46, v0_47, v0_48, v0_49, v0_50, v0_51, v0_52, v0_53, v0_54, v0_55, v0_56, v0_57, v0_58, v0_59, v0_60, v0_61, v0_62, v0_63, v0_64]))] (fun _ : Unit => (-1)) (fun _ : Unit => ([] : va_W)) 0 0 := by
  refine met_i (by decide) rfl ?_
  intro p e s m below meth c A ls E hr hlk hP hD hA hl
  have hS : va_S A s.heap s.heap [] := va_S.rf
  have hx := E.1.1
  have hb := E.1.2.1
  have hl : lv_has ls 3 [(0, .ref h0), (1, .int p0), (2, .int p1)] := hl
  refine lv_aload_n hx hb dX12_writeSide_0 rfl (lv_at hl 0 rfl) ?_
  refine lv_iconst (v := 0) hx hb dX12_writeSide_1 (by decide) ?_
  refine x_put (ws' := [(h0, .inr (12, [.int 0, v0_1, v0_2, v0_3, v0_4, v0_5, v0_6, v0_7, v0_8, v0_9, v0_10, v0_11, v0_12, v0_13, v0_14, v0_15, v0_16, v0_17, v0_18, v0_19, v0_20, v0_21, v0_22, v0_23, v0_24, v0_25, v0_26, v0_27, .int 0, v0_29, v0_30, v0_31, v0_32, v0_33, v0_34, v0_35, v0_36, v0_37, v0_38, v0_39, v0_40, v0_41, v0_42, v0_43, v0_44, v0_45, v0_46, v0_47, v0_48, v0_49, v0_50, v0_51, v0_52, v0_53, v0_54, v0_55, v0_56, v0_57, v0_58, v0_59, v0_60, v0_61, v0_62, v0_63, v0_64]))]) E iX12 tyX12 tyX12_ok nmX12 hP hD hS 0 rfl rfl 0 (by decide) wq202 rfl rfl rfl rfl rfl dX12_writeSide_2 (fun H locs hP hD hS => ?_)
  refine lv_aload_n hx hb dX12_writeSide_5 rfl (lv_at hl 0 rfl) ?_
  refine lv_iload_n hx hb dX12_writeSide_6 rfl (lv_at hl 1 rfl) ?_
  refine x_Vi (rest := []) (ws' := fun _ => [(h0, .inr (12, [.int 0, v0_1, v0_2, v0_3, v0_4, v0_5, v0_6, v0_7, v0_8, v0_9, v0_10, v0_11, v0_12, v0_13, v0_14, v0_15, v0_16, v0_17, v0_18, v0_19, v0_20, v0_21, v0_22, v0_23, v0_24, v0_25, v0_26, v0_27, .int 0, v0_29, v0_30, v0_31, v0_32, v0_33, v0_34, v0_35, v0_36, v0_37, v0_38, v0_39, v0_40, v0_41, v0_42, v0_43, v0_44, v0_45, v0_46, v0_47, v0_48, v0_49, v0_50, v0_51, v0_52, v0_53, v0_54, v0_55, v0_56, v0_57, v0_58, v0_59, v0_60, v0_61, v0_62, v0_63, v0_64]))]) (wr := []) E (mX12_isThm l D cyI cyJ Z h0 p0 (.int 0) v0_1 v0_2 v0_3 v0_4 v0_5 v0_6 v0_7 v0_8 v0_9 v0_10 v0_11 v0_12 v0_13 v0_14 v0_15 v0_16 v0_17 v0_18 v0_19 v0_20 v0_21 v0_22 v0_23 v0_24 v0_25 v0_26 v0_27 v0_29 v0_30 v0_31 v0_32 v0_33 v0_34 v0_35 v0_36 v0_37 v0_38 v0_39 v0_40 v0_41 v0_42 v0_43 v0_44 v0_45 v0_46 v0_47 v0_48 v0_49 v0_50 v0_51 v0_52 v0_53 v0_54 v0_55 v0_56 v0_57 v0_58 v0_59 v0_60 v0_61 v0_62 v0_63 v0_64) kX12_isThm wq454 wq455 wq456 ⟨rfl, rfl, Nat.le_of_ble_eq_true rfl, Nat.le_of_ble_eq_true rfl⟩ hP hD hS hA [0] [] rfl rfl (by decide) (fun _ => rfl) 0 rfl rfl rfl hl.1 rfl (Nat.le_of_ble_eq_true rfl) dX12_writeSide_7 ⟨rfl, rfl⟩ ⟨Nat.le_of_ble_eq_true rfl, Nat.le_of_ble_eq_true rfl⟩ (fun _ H locs hP hD hS => ?_)
  refine lv_if_eq (tgt := 22) hx hb dX12_writeSide_10 (by decide) (fun c9 => ?_) (fun c9 => absurd (by decide) c9)
  refine lv_aload_n hx hb dX12_writeSide_22 rfl (lv_at hl 0 rfl) ?_
  refine lv_iconst (v := 1) hx hb dX12_writeSide_23 (by decide) ?_
  refine x_Vi (rest := []) (ws' := fun _ => [(h0, .inr (12, [.int 0, .int 1, .int (-1), v0_3, v0_4, v0_5, v0_6, v0_7, v0_8, v0_9, v0_10, v0_11, v0_12, v0_13, v0_14, v0_15, v0_16, v0_17, v0_18, v0_19, v0_20, v0_21, v0_22, v0_23, v0_24, v0_25, v0_26, v0_27, .int 0, v0_29, v0_30, v0_31, v0_32, v0_33, v0_34, v0_35, v0_36, v0_37, v0_38, v0_39, v0_40, v0_41, v0_42, v0_43, v0_44, v0_45, v0_46, v0_47, v0_48, v0_49, v0_50, v0_51, v0_52, v0_53, v0_54, v0_55, v0_56, v0_57, v0_58, v0_59, v0_60, v0_61, v0_62, v0_63, v0_64]))]) (wr := []) E (mX12_refused_1 l D cyI cyJ Z h0 (.int 0) v0_1 v0_2 v0_3 v0_4 v0_5 v0_6 v0_7 v0_8 v0_9 v0_10 v0_11 v0_12 v0_13 v0_14 v0_15 v0_16 v0_17 v0_18 v0_19 v0_20 v0_21 v0_22 v0_23 v0_24 v0_25 v0_26 v0_27 (.int 0) v0_29 v0_30 v0_31 v0_32 v0_33 v0_34 v0_35 v0_36 v0_37 v0_38 v0_39 v0_40 v0_41 v0_42 v0_43 v0_44 v0_45 v0_46 v0_47 v0_48 v0_49 v0_50 v0_51 v0_52 v0_53 v0_54 v0_55 v0_56 v0_57 v0_58 v0_59 v0_60 v0_61 v0_62 v0_63 v0_64) kX12_refused wq335 wq336 wq337 ⟨rfl, rfl, Nat.le_of_ble_eq_true rfl, Nat.le_of_ble_eq_true rfl⟩ hP hD hS hA [0] [] rfl rfl (by decide) (fun _ => rfl) 0 rfl rfl rfl hl.1 rfl (Nat.le_of_ble_eq_true rfl) dX12_writeSide_24 ⟨rfl, rfl⟩ ⟨Nat.le_of_ble_eq_true rfl, Nat.le_of_ble_eq_true rfl⟩ (fun _ H locs hP hD hS => ?_)
  exact x_iret E hr hlk hP hD hS () rfl [] (by decide) rfl rfl dX12_writeSide_27

set_option maxHeartbeats 4000000 in
set_option maxRecDepth 100000 in
theorem mX11_opensTheorems (l : Launch) (D : va_G) (cyI cyJ : ClassId) (Z : xZ) (h0 : Nat) (p0 : Int32) (p1 : Int32) (h1 : Nat) (v0_0 : Value) (v0_1 : Value) (v0_2 : Value) (v0_3 : Value) (v0_4 : Value) (v0_5 : Value) (v0_6 : Value) (v0_8 : Value) (v0_9 : Value) (v0_10 : Value) (v0_11 : Value) (v0_12 : Value) (v0_13 : Value) (v0_14 : Value) (v0_15 : Value) (v1_0 : Value) (v1_1 : Value) (v1_2 : Value) (v1_3 : Value) (v1_4 : Value) (v1_5 : Value) (v1_6 : Value) (v1_7 : Value) (v1_8 : Value) (v1_9 : Value) (v1_10 : Value) (v1_12 : Value) (v1_13 : Value) (v1_14 : Value) : MetI l yX11_opensTheorems (Cond.code yX11_opensTheorems cX11_opensTheorems 3 (some .boolean)) { frames := 1, cells := 0, slots := 0, locals := 21 } D cyI cyJ Z [.ref h0, .int p0, .int p1] [(h0, .inr (11, [v0_0, v0_1, v0_2, v0_3, v0_4, v0_5, v0_6, .ref h1, v0_8, v0_9, v0_10, v0_11, v0_12, v0_13, v0_14, v0_15])), (h1, .inr (9, [v1_0, v1_1, v1_2, v1_3, v1_4, v1_5, v1_6, v1_7, v1_8, v1_9, v1_10, .int 0, v1_12, v1_13, v1_14]))] (fun _ : Unit => 0) (fun _ : Unit => ([(h0, .inr (11, [v0_0, v0_1, v0_2, v0_3, .int 1, v0_5, v0_6, .ref h1, v0_8, v0_9, v0_10, v0_11, v0_12, v0_13, v0_14, v0_15])), (h1, .inr (9, [v1_0, v1_1, v1_2, v1_3, v1_4, v1_5, v1_6, v1_7, v1_8, v1_9, v1_10, .int 0, v1_12, v1_13, v1_14]))] : va_W)) 0 0 := by
  refine met_i (by decide) rfl ?_
  intro p e s m below meth c A ls E hr hlk hP hD hA hl
  have hS : va_S A s.heap s.heap [] := va_S.rf
  have hx := E.1.1
  have hb := E.1.2.1
  have hl : lv_has ls 3 [(0, .ref h0), (1, .int p0), (2, .int p1)] := hl
  refine lv_aload_n hx hb dX11_opensTheorems_0 rfl (lv_at hl 0 rfl) ?_
  refine x_get E iX11 hP 0 rfl rfl 7 (by decide) wq60 rfl dX11_opensTheorems_1 ?_
  refine lv_iload_n hx hb dX11_opensTheorems_4 rfl (lv_at hl 1 rfl) ?_
  refine x_Vi (rest := []) (ws' := fun _ => [(h0, .inr (11, [v0_0, v0_1, v0_2, v0_3, v0_4, v0_5, v0_6, .ref h1, v0_8, v0_9, v0_10, v0_11, v0_12, v0_13, v0_14, v0_15])), (h1, .inr (9, [v1_0, v1_1, v1_2, v1_3, v1_4, v1_5, v1_6, v1_7, v1_8, v1_9, v1_10, .int 0, v1_12, v1_13, v1_14]))]) (wr := [(h0, .inr (11, [v0_0, v0_1, v0_2, v0_3, v0_4, v0_5, v0_6, .ref h1, v0_8, v0_9, v0_10, v0_11, v0_12, v0_13, v0_14, v0_15]))]) E (mX9_hasTheorem l D cyI cyJ Z h1 p0 v1_0 v1_1 v1_2 v1_3 v1_4 v1_5 v1_6 v1_7 v1_8 v1_9 v1_10 v1_12 v1_13 v1_14) kX9_hasTheorem wq451 wq452 wq453 ⟨rfl, rfl, Nat.le_of_ble_eq_true rfl, Nat.le_of_ble_eq_true rfl⟩ hP hD hS hA [1] [0] rfl rfl (by decide) (fun _ => rfl) 1 rfl rfl rfl hl.1 rfl (Nat.le_of_ble_eq_true rfl) dX11_opensTheorems_5 ⟨rfl, rfl⟩ ⟨Nat.le_of_ble_eq_true rfl, Nat.le_of_ble_eq_true rfl⟩ (fun _ H locs hP hD hS => ?_)
  refine lv_if_eq (tgt := 22) hx hb dX11_opensTheorems_8 (by decide) (fun c9 => ?_) (fun c9 => absurd (by decide) c9)
  refine lv_aload_n hx hb dX11_opensTheorems_22 rfl (lv_at hl 0 rfl) ?_
  refine lv_iconst (v := 1) hx hb dX11_opensTheorems_23 (by decide) ?_
  refine x_Vi (rest := []) (ws' := fun _ => [(h1, .inr (9, [v1_0, v1_1, v1_2, v1_3, v1_4, v1_5, v1_6, v1_7, v1_8, v1_9, v1_10, .int 0, v1_12, v1_13, v1_14])), (h0, .inr (11, [v0_0, v0_1, v0_2, v0_3, .int 1, v0_5, v0_6, .ref h1, v0_8, v0_9, v0_10, v0_11, v0_12, v0_13, v0_14, v0_15]))]) (wr := [(h1, .inr (9, [v1_0, v1_1, v1_2, v1_3, v1_4, v1_5, v1_6, v1_7, v1_8, v1_9, v1_10, .int 0, v1_12, v1_13, v1_14]))]) E (mX11_refused_2 l D cyI cyJ Z h0 v0_0 v0_1 v0_2 v0_3 v0_4 v0_5 v0_6 (.ref h1) v0_8 v0_9 v0_10 v0_11 v0_12 v0_13 v0_14 v0_15) kX11_refused wq277 wq278 wq279 ⟨rfl, rfl, Nat.le_of_ble_eq_true rfl, Nat.le_of_ble_eq_true rfl⟩ hP hD hS hA [0] [1] rfl rfl (by decide) (fun _ => rfl) 0 rfl rfl rfl hl.1 rfl (Nat.le_of_ble_eq_true rfl) dX11_opensTheorems_24 ⟨rfl, rfl⟩ ⟨Nat.le_of_ble_eq_true rfl, Nat.le_of_ble_eq_true rfl⟩ (fun _ H locs hP hD hS => ?_)
  refine lv_pop hx hb dX11_opensTheorems_27 rfl ?_
  refine lv_iconst (v := 0) hx hb dX11_opensTheorems_28 (by decide) ?_
  exact x_iret E hr hlk hP hD hS () rfl [1, 0] (by decide) rfl rfl dX11_opensTheorems_29

set_option maxHeartbeats 4000000 in
set_option maxRecDepth 100000 in
theorem mX11_trans (l : Launch) (D : va_G) (cyI cyJ : ClassId) (Z : xZ) (h0 : Nat) (p0 : Int32) (p1 : Int32) (h1 : Nat) (v0_0 : Value) (v0_1 : Value) (v0_2 : Value) (v0_3 : Value) (v0_4 : Value) (v0_5 : Value) (v0_6 : Value) (v0_8 : Value) (v0_9 : Value) (v0_10 : Value) (v0_11 : Value) (v0_12 : Value) (v0_13 : Value) (v0_14 : Value) (v0_15 : Value) (v1_0 : Value) (v1_1 : Value) (v1_2 : Value) (v1_3 : Value) (v1_4 : Value) (v1_5 : Value) (v1_6 : Value) (v1_7 : Value) (v1_8 : Value) (v1_9 : Value) (v1_10 : Value) (v1_12 : Value) (v1_13 : Value) (v1_14 : Value) : MetI l yX11_trans (Cond.code yX11_trans cX11_trans 3 (some .int)) { frames := 2, cells := 0, slots := 0, locals := 43 } D cyI cyJ Z [.ref h0, .int p0, .int p1] [(h0, .inr (11, [v0_0, v0_1, v0_2, v0_3, v0_4, v0_5, v0_6, .ref h1, v0_8, v0_9, v0_10, v0_11, v0_12, v0_13, v0_14, v0_15])), (h1, .inr (9, [v1_0, v1_1, v1_2, v1_3, v1_4, v1_5, v1_6, v1_7, v1_8, v1_9, v1_10, .int 0, v1_12, v1_13, v1_14]))] (fun _ : Unit => (-1)) (fun _ : Unit => ([] : va_W)) 0 0 := by
  refine met_i (by decide) rfl ?_
  intro p e s m below meth c A ls E hr hlk hP hD hA hl
  have hS : va_S A s.heap s.heap [] := va_S.rf
  have hx := E.1.1
  have hb := E.1.2.1
  have hl : lv_has ls 3 [(0, .ref h0), (1, .int p0), (2, .int p1)] := hl
  refine lv_aload_n hx hb dX11_trans_0 rfl (lv_at hl 0 rfl) ?_
  refine lv_iload_n hx hb dX11_trans_1 rfl (lv_at hl 1 rfl) ?_
  refine lv_iload_n hx hb dX11_trans_2 rfl (lv_at hl 2 rfl) ?_
  refine x_Vi (rest := []) (ws' := fun _ => [(h0, .inr (11, [v0_0, v0_1, v0_2, v0_3, .int 1, v0_5, v0_6, .ref h1, v0_8, v0_9, v0_10, v0_11, v0_12, v0_13, v0_14, v0_15])), (h1, .inr (9, [v1_0, v1_1, v1_2, v1_3, v1_4, v1_5, v1_6, v1_7, v1_8, v1_9, v1_10, .int 0, v1_12, v1_13, v1_14]))]) (wr := []) E (mX11_opensTheorems l D cyI cyJ Z h0 p0 p1 h1 v0_0 v0_1 v0_2 v0_3 v0_4 v0_5 v0_6 v0_8 v0_9 v0_10 v0_11 v0_12 v0_13 v0_14 v0_15 v1_0 v1_1 v1_2 v1_3 v1_4 v1_5 v1_6 v1_7 v1_8 v1_9 v1_10 v1_12 v1_13 v1_14) kX11_opensTheorems wq457 wq458 wq459 ⟨rfl, rfl, Nat.le_of_ble_eq_true rfl, Nat.le_of_ble_eq_true rfl⟩ hP hD hS hA [0, 1] [] rfl rfl (by decide) (fun _ => rfl) 0 rfl rfl rfl hl.1 rfl (Nat.le_of_ble_eq_true rfl) dX11_trans_3 ⟨rfl, rfl⟩ ⟨Nat.le_of_ble_eq_true rfl, Nat.le_of_ble_eq_true rfl⟩ (fun _ H locs hP hD hS => ?_)
  refine lv_if_ne (tgt := 11) hx hb dX11_trans_6 (by decide) (fun c9 => absurd (by decide) c9) (fun c9 => ?_)
  refine lv_iconst (v := (-1)) hx hb dX11_trans_9 (by decide) ?_
  exact x_iret E hr hlk hP hD hS () rfl [] (by decide) rfl rfl dX11_trans_10

set_option maxHeartbeats 4000000 in
set_option maxRecDepth 100000 in
theorem mX12_callsOnTwo (l : Launch) (D : va_G) (cyI cyJ : ClassId) (Z : xZ) (h0 : Nat) (p0 : Int32) (p1 : Int32) (v0_0 : Value) (v0_1 : Value) (v0_2 : Value) (v0_3 : Value) (v0_4 : Value) (v0_5 : Value) (v0_6 : Value) (v0_7 : Value) (v0_8 : Value) (v0_9 : Value) (v0_10 : Value) (v0_11 : Value) (v0_12 : Value) (v0_13 : Value) (v0_14 : Value) (v0_15 : Value) (v0_16 : Value) (v0_17 : Value) (v0_18 : Value) (v0_19 : Value) (v0_20 : Value) (v0_21 : Value) (v0_22 : Value) (v0_23 : Value) (v0_24 : Value) (v0_25 : Value) (v0_26 : Value) (v0_27 : Value) (v0_29 : Value) (v0_30 : Value) (v0_31 : Value) (v0_32 : Value) (v0_33 : Value) (v0_34 : Value) (v0_35 : Value) (v0_36 : Value) (v0_37 : Value) (v0_38 : Value) (v0_39 : Value) (v0_40 : Value) (v0_41 : Value) (v0_42 : Value) (v0_43 : Value) (v0_44 : Value) (v0_45 : Value) (v0_46 : Value) (v0_47 : Value) (v0_48 : Value) (v0_49 : Value) (v0_50 : Value) (v0_51 : Value) (v0_52 : Value) (v0_53 : Value) (v0_54 : Value) (v0_55 : Value) (v0_56 : Value) (v0_57 : Value) (v0_58 : Value) (v0_59 : Value) (v0_60 : Value) (v0_61 : Value) (v0_62 : Value) (v0_63 : Value) (v0_64 : Value) : MetI l yX12_callsOnTwo (Cond.code yX12_callsOnTwo cX12_callsOnTwo 4 (some .int)) { frames := 2, cells := 0, slots := 0, locals := 43 } D cyI cyJ Z [.ref h0, .int 1, .int p0, .int p1] [(h0, .inr (12, [v0_0, v0_1, v0_2, v0_3, v0_4, v0_5, v0_6, v0_7, v0_8, v0_9, v0_10, v0_11, v0_12, v0_13, v0_14, v0_15, v0_16, v0_17, v0_18, v0_19, v0_20, v0_21, v0_22, v0_23, v0_24, v0_25, v0_26, v0_27, .int 0, v0_29, v0_30, v0_31, v0_32, v0_33, v0_34, v0_35, v0_36, v0_37, v0_38, v0_39, v0_40, v0_41, v0_42, v0_43, v0_44, v0_45, v0_46, v0_47, v0_48, v0_49, v0_50, v0_51, v0_52, v0_53, v0_54, v0_55, v0_56, v0_57, v0_58, v0_59, v0_60, v0_61, v0_62, v0_63, v0_64]))] (fun _ : Unit => (-1)) (fun _ : Unit => ([(h0, .inr (12, [.int 0, .int 1, .int (-1), v0_3, v0_4, v0_5, v0_6, v0_7, v0_8, v0_9, v0_10, v0_11, v0_12, v0_13, v0_14, v0_15, v0_16, v0_17, v0_18, v0_19, v0_20, v0_21, v0_22, v0_23, v0_24, v0_25, v0_26, v0_27, .int 0, v0_29, v0_30, v0_31, v0_32, v0_33, v0_34, v0_35, v0_36, v0_37, v0_38, v0_39, v0_40, v0_41, v0_42, v0_43, v0_44, v0_45, v0_46, v0_47, v0_48, v0_49, v0_50, v0_51, v0_52, v0_53, v0_54, v0_55, v0_56, v0_57, v0_58, v0_59, v0_60, v0_61, v0_62, v0_63, v0_64]))] : va_W)) 0 0 := by
  refine met_i (by decide) rfl ?_
  intro p e s m below meth c A ls E hr hlk hP hD hA hl
  have hS : va_S A s.heap s.heap [] := va_S.rf
  have hx := E.1.1
  have hb := E.1.2.1
  have hl : lv_has ls 4 [(0, .ref h0), (1, .int 1), (2, .int p0), (3, .int p1)] := hl
  refine lv_aload_n hx hb dX12_callsOnTwo_0 rfl (lv_at hl 0 rfl) ?_
  refine lv_iconst (v := 0) hx hb dX12_callsOnTwo_1 (by decide) ?_
  refine x_put (ws' := [(h0, .inr (12, [.int 0, v0_1, v0_2, v0_3, v0_4, v0_5, v0_6, v0_7, v0_8, v0_9, v0_10, v0_11, v0_12, v0_13, v0_14, v0_15, v0_16, v0_17, v0_18, v0_19, v0_20, v0_21, v0_22, v0_23, v0_24, v0_25, v0_26, v0_27, .int 0, v0_29, v0_30, v0_31, v0_32, v0_33, v0_34, v0_35, v0_36, v0_37, v0_38, v0_39, v0_40, v0_41, v0_42, v0_43, v0_44, v0_45, v0_46, v0_47, v0_48, v0_49, v0_50, v0_51, v0_52, v0_53, v0_54, v0_55, v0_56, v0_57, v0_58, v0_59, v0_60, v0_61, v0_62, v0_63, v0_64]))]) E iX12 tyX12 tyX12_ok nmX12 hP hD hS 0 rfl rfl 0 (by decide) wq202 rfl rfl rfl rfl rfl dX12_callsOnTwo_2 (fun H locs hP hD hS => ?_)
  refine lv_aload_n hx hb dX12_callsOnTwo_5 rfl (lv_at hl 0 rfl) ?_
  refine lv_iload_n hx hb dX12_callsOnTwo_6 rfl (lv_at hl 2 rfl) ?_
  refine x_Vi (rest := []) (ws' := fun _ => [(h0, .inr (12, [.int 0, v0_1, v0_2, v0_3, v0_4, v0_5, v0_6, v0_7, v0_8, v0_9, v0_10, v0_11, v0_12, v0_13, v0_14, v0_15, v0_16, v0_17, v0_18, v0_19, v0_20, v0_21, v0_22, v0_23, v0_24, v0_25, v0_26, v0_27, .int 0, v0_29, v0_30, v0_31, v0_32, v0_33, v0_34, v0_35, v0_36, v0_37, v0_38, v0_39, v0_40, v0_41, v0_42, v0_43, v0_44, v0_45, v0_46, v0_47, v0_48, v0_49, v0_50, v0_51, v0_52, v0_53, v0_54, v0_55, v0_56, v0_57, v0_58, v0_59, v0_60, v0_61, v0_62, v0_63, v0_64]))]) (wr := []) E (mX12_isThm l D cyI cyJ Z h0 p0 (.int 0) v0_1 v0_2 v0_3 v0_4 v0_5 v0_6 v0_7 v0_8 v0_9 v0_10 v0_11 v0_12 v0_13 v0_14 v0_15 v0_16 v0_17 v0_18 v0_19 v0_20 v0_21 v0_22 v0_23 v0_24 v0_25 v0_26 v0_27 v0_29 v0_30 v0_31 v0_32 v0_33 v0_34 v0_35 v0_36 v0_37 v0_38 v0_39 v0_40 v0_41 v0_42 v0_43 v0_44 v0_45 v0_46 v0_47 v0_48 v0_49 v0_50 v0_51 v0_52 v0_53 v0_54 v0_55 v0_56 v0_57 v0_58 v0_59 v0_60 v0_61 v0_62 v0_63 v0_64) kX12_isThm wq454 wq455 wq456 ⟨rfl, rfl, Nat.le_of_ble_eq_true rfl, Nat.le_of_ble_eq_true rfl⟩ hP hD hS hA [0] [] rfl rfl (by decide) (fun _ => rfl) 0 rfl rfl rfl hl.1 rfl (Nat.le_of_ble_eq_true rfl) dX12_callsOnTwo_7 ⟨rfl, rfl⟩ ⟨Nat.le_of_ble_eq_true rfl, Nat.le_of_ble_eq_true rfl⟩ (fun _ H locs hP hD hS => ?_)
  refine lv_if_eq (tgt := 21) hx hb dX12_callsOnTwo_10 (by decide) (fun c9 => ?_) (fun c9 => absurd (by decide) c9)
  refine lv_aload_n hx hb dX12_callsOnTwo_21 rfl (lv_at hl 0 rfl) ?_
  refine lv_iconst (v := 1) hx hb dX12_callsOnTwo_22 (by decide) ?_
  refine x_Vi (rest := []) (ws' := fun _ => [(h0, .inr (12, [.int 0, .int 1, .int (-1), v0_3, v0_4, v0_5, v0_6, v0_7, v0_8, v0_9, v0_10, v0_11, v0_12, v0_13, v0_14, v0_15, v0_16, v0_17, v0_18, v0_19, v0_20, v0_21, v0_22, v0_23, v0_24, v0_25, v0_26, v0_27, .int 0, v0_29, v0_30, v0_31, v0_32, v0_33, v0_34, v0_35, v0_36, v0_37, v0_38, v0_39, v0_40, v0_41, v0_42, v0_43, v0_44, v0_45, v0_46, v0_47, v0_48, v0_49, v0_50, v0_51, v0_52, v0_53, v0_54, v0_55, v0_56, v0_57, v0_58, v0_59, v0_60, v0_61, v0_62, v0_63, v0_64]))]) (wr := []) E (mX12_refused_1 l D cyI cyJ Z h0 (.int 0) v0_1 v0_2 v0_3 v0_4 v0_5 v0_6 v0_7 v0_8 v0_9 v0_10 v0_11 v0_12 v0_13 v0_14 v0_15 v0_16 v0_17 v0_18 v0_19 v0_20 v0_21 v0_22 v0_23 v0_24 v0_25 v0_26 v0_27 (.int 0) v0_29 v0_30 v0_31 v0_32 v0_33 v0_34 v0_35 v0_36 v0_37 v0_38 v0_39 v0_40 v0_41 v0_42 v0_43 v0_44 v0_45 v0_46 v0_47 v0_48 v0_49 v0_50 v0_51 v0_52 v0_53 v0_54 v0_55 v0_56 v0_57 v0_58 v0_59 v0_60 v0_61 v0_62 v0_63 v0_64) kX12_refused wq335 wq336 wq337 ⟨rfl, rfl, Nat.le_of_ble_eq_true rfl, Nat.le_of_ble_eq_true rfl⟩ hP hD hS hA [0] [] rfl rfl (by decide) (fun _ => rfl) 0 rfl rfl rfl hl.1 rfl (Nat.le_of_ble_eq_true rfl) dX12_callsOnTwo_23 ⟨rfl, rfl⟩ ⟨Nat.le_of_ble_eq_true rfl, Nat.le_of_ble_eq_true rfl⟩ (fun _ H locs hP hD hS => ?_)
  exact x_iret E hr hlk hP hD hS () rfl [0] (by decide) rfl rfl dX12_callsOnTwo_26

set_option maxHeartbeats 4000000 in
set_option maxRecDepth 100000 in
theorem mX12_trans_ (l : Launch) (D : va_G) (cyI cyJ : ClassId) (Z : xZ) (h0 : Nat) (p0 : Int32) (p1 : Int32) (v0_0 : Value) (v0_1 : Value) (v0_2 : Value) (v0_3 : Value) (v0_4 : Value) (v0_5 : Value) (v0_6 : Value) (v0_7 : Value) (v0_8 : Value) (v0_9 : Value) (v0_10 : Value) (v0_11 : Value) (v0_12 : Value) (v0_13 : Value) (v0_14 : Value) (v0_15 : Value) (v0_16 : Value) (v0_17 : Value) (v0_18 : Value) (v0_19 : Value) (v0_20 : Value) (v0_21 : Value) (v0_22 : Value) (v0_23 : Value) (v0_24 : Value) (v0_25 : Value) (v0_26 : Value) (v0_27 : Value) (v0_29 : Value) (v0_30 : Value) (v0_31 : Value) (v0_32 : Value) (v0_33 : Value) (v0_34 : Value) (v0_35 : Value) (v0_36 : Value) (v0_37 : Value) (v0_38 : Value) (v0_39 : Value) (v0_40 : Value) (v0_41 : Value) (v0_42 : Value) (v0_43 : Value) (v0_44 : Value) (v0_45 : Value) (v0_46 : Value) (v0_47 : Value) (v0_48 : Value) (v0_49 : Value) (v0_50 : Value) (v0_51 : Value) (v0_52 : Value) (v0_53 : Value) (v0_54 : Value) (v0_55 : Value) (v0_56 : Value) (v0_57 : Value) (v0_58 : Value) (v0_59 : Value) (v0_60 : Value) (v0_61 : Value) (v0_62 : Value) (v0_63 : Value) (v0_64 : Value) : MetI l yX12_trans_ (Cond.code yX12_trans_ cX12_trans_ 3 (some .int)) { frames := 3, cells := 0, slots := 0, locals := 66 } D cyI cyJ Z [.ref h0, .int p0, .int p1] [(h0, .inr (12, [v0_0, v0_1, v0_2, v0_3, v0_4, v0_5, v0_6, v0_7, v0_8, v0_9, v0_10, v0_11, v0_12, v0_13, v0_14, v0_15, v0_16, v0_17, v0_18, v0_19, v0_20, v0_21, v0_22, v0_23, v0_24, v0_25, v0_26, v0_27, .int 0, v0_29, v0_30, v0_31, v0_32, v0_33, v0_34, v0_35, v0_36, v0_37, v0_38, v0_39, v0_40, v0_41, v0_42, v0_43, v0_44, v0_45, v0_46, v0_47, v0_48, v0_49, v0_50, v0_51, v0_52, v0_53, v0_54, v0_55, v0_56, v0_57, v0_58, v0_59, v0_60, v0_61, v0_62, v0_63, v0_64]))] (fun _ : Unit => (-1)) (fun _ : Unit => ([] : va_W)) 0 0 := by
  refine met_i (by decide) rfl ?_
  intro p e s m below meth c A ls E hr hlk hP hD hA hl
  have hS : va_S A s.heap s.heap [] := va_S.rf
  have hx := E.1.1
  have hb := E.1.2.1
  have hl : lv_has ls 3 [(0, .ref h0), (1, .int p0), (2, .int p1)] := hl
  refine lv_aload_n hx hb dX12_trans__0 rfl (lv_at hl 0 rfl) ?_
  refine lv_iconst (v := 1) hx hb dX12_trans__1 (by decide) ?_
  refine lv_iload_n hx hb dX12_trans__2 rfl (lv_at hl 1 rfl) ?_
  refine lv_iload_n hx hb dX12_trans__3 rfl (lv_at hl 2 rfl) ?_
  refine x_Vi (rest := []) (ws' := fun _ => [(h0, .inr (12, [.int 0, .int 1, .int (-1), v0_3, v0_4, v0_5, v0_6, v0_7, v0_8, v0_9, v0_10, v0_11, v0_12, v0_13, v0_14, v0_15, v0_16, v0_17, v0_18, v0_19, v0_20, v0_21, v0_22, v0_23, v0_24, v0_25, v0_26, v0_27, .int 0, v0_29, v0_30, v0_31, v0_32, v0_33, v0_34, v0_35, v0_36, v0_37, v0_38, v0_39, v0_40, v0_41, v0_42, v0_43, v0_44, v0_45, v0_46, v0_47, v0_48, v0_49, v0_50, v0_51, v0_52, v0_53, v0_54, v0_55, v0_56, v0_57, v0_58, v0_59, v0_60, v0_61, v0_62, v0_63, v0_64]))]) (wr := []) E (mX12_callsOnTwo l D cyI cyJ Z h0 p0 p1 v0_0 v0_1 v0_2 v0_3 v0_4 v0_5 v0_6 v0_7 v0_8 v0_9 v0_10 v0_11 v0_12 v0_13 v0_14 v0_15 v0_16 v0_17 v0_18 v0_19 v0_20 v0_21 v0_22 v0_23 v0_24 v0_25 v0_26 v0_27 v0_29 v0_30 v0_31 v0_32 v0_33 v0_34 v0_35 v0_36 v0_37 v0_38 v0_39 v0_40 v0_41 v0_42 v0_43 v0_44 v0_45 v0_46 v0_47 v0_48 v0_49 v0_50 v0_51 v0_52 v0_53 v0_54 v0_55 v0_56 v0_57 v0_58 v0_59 v0_60 v0_61 v0_62 v0_63 v0_64) kX12_callsOnTwo wq460 wq461 wq462 ⟨rfl, rfl, Nat.le_of_ble_eq_true rfl, Nat.le_of_ble_eq_true rfl⟩ hP hD hS hA [0] [] rfl rfl (by decide) (fun _ => rfl) 0 rfl rfl rfl hl.1 rfl (Nat.le_of_ble_eq_true rfl) dX12_trans__4 ⟨rfl, rfl⟩ ⟨Nat.le_of_ble_eq_true rfl, Nat.le_of_ble_eq_true rfl⟩ (fun _ H locs hP hD hS => ?_)
  exact x_iret E hr hlk hP hD hS () rfl [] (by decide) rfl rfl dX12_trans__7

set_option maxHeartbeats 4000000 in
set_option maxRecDepth 100000 in
theorem mX11_comb (l : Launch) (D : va_G) (cyI cyJ : ClassId) (Z : xZ) (h0 : Nat) (p0 : Int32) (p1 : Int32) (h1 : Nat) (v0_0 : Value) (v0_1 : Value) (v0_2 : Value) (v0_3 : Value) (v0_4 : Value) (v0_5 : Value) (v0_6 : Value) (v0_8 : Value) (v0_9 : Value) (v0_10 : Value) (v0_11 : Value) (v0_12 : Value) (v0_13 : Value) (v0_14 : Value) (v0_15 : Value) (v1_0 : Value) (v1_1 : Value) (v1_2 : Value) (v1_3 : Value) (v1_4 : Value) (v1_5 : Value) (v1_6 : Value) (v1_7 : Value) (v1_8 : Value) (v1_9 : Value) (v1_10 : Value) (v1_12 : Value) (v1_13 : Value) (v1_14 : Value) : MetI l yX11_comb (Cond.code yX11_comb cX11_comb 3 (some .int)) { frames := 2, cells := 0, slots := 0, locals := 43 } D cyI cyJ Z [.ref h0, .int p0, .int p1] [(h0, .inr (11, [v0_0, v0_1, v0_2, v0_3, v0_4, v0_5, v0_6, .ref h1, v0_8, v0_9, v0_10, v0_11, v0_12, v0_13, v0_14, v0_15])), (h1, .inr (9, [v1_0, v1_1, v1_2, v1_3, v1_4, v1_5, v1_6, v1_7, v1_8, v1_9, v1_10, .int 0, v1_12, v1_13, v1_14]))] (fun _ : Unit => (-1)) (fun _ : Unit => ([] : va_W)) 0 0 := by
  refine met_i (by decide) rfl ?_
  intro p e s m below meth c A ls E hr hlk hP hD hA hl
  have hS : va_S A s.heap s.heap [] := va_S.rf
  have hx := E.1.1
  have hb := E.1.2.1
  have hl : lv_has ls 3 [(0, .ref h0), (1, .int p0), (2, .int p1)] := hl
  refine lv_aload_n hx hb dX11_comb_0 rfl (lv_at hl 0 rfl) ?_
  refine lv_iload_n hx hb dX11_comb_1 rfl (lv_at hl 1 rfl) ?_
  refine lv_iload_n hx hb dX11_comb_2 rfl (lv_at hl 2 rfl) ?_
  refine x_Vi (rest := []) (ws' := fun _ => [(h0, .inr (11, [v0_0, v0_1, v0_2, v0_3, .int 1, v0_5, v0_6, .ref h1, v0_8, v0_9, v0_10, v0_11, v0_12, v0_13, v0_14, v0_15])), (h1, .inr (9, [v1_0, v1_1, v1_2, v1_3, v1_4, v1_5, v1_6, v1_7, v1_8, v1_9, v1_10, .int 0, v1_12, v1_13, v1_14]))]) (wr := []) E (mX11_opensTheorems l D cyI cyJ Z h0 p0 p1 h1 v0_0 v0_1 v0_2 v0_3 v0_4 v0_5 v0_6 v0_8 v0_9 v0_10 v0_11 v0_12 v0_13 v0_14 v0_15 v1_0 v1_1 v1_2 v1_3 v1_4 v1_5 v1_6 v1_7 v1_8 v1_9 v1_10 v1_12 v1_13 v1_14) kX11_opensTheorems wq457 wq458 wq459 ⟨rfl, rfl, Nat.le_of_ble_eq_true rfl, Nat.le_of_ble_eq_true rfl⟩ hP hD hS hA [0, 1] [] rfl rfl (by decide) (fun _ => rfl) 0 rfl rfl rfl hl.1 rfl (Nat.le_of_ble_eq_true rfl) dX11_comb_3 ⟨rfl, rfl⟩ ⟨Nat.le_of_ble_eq_true rfl, Nat.le_of_ble_eq_true rfl⟩ (fun _ H locs hP hD hS => ?_)
  refine lv_if_ne (tgt := 11) hx hb dX11_comb_6 (by decide) (fun c9 => absurd (by decide) c9) (fun c9 => ?_)
  refine lv_iconst (v := (-1)) hx hb dX11_comb_9 (by decide) ?_
  exact x_iret E hr hlk hP hD hS () rfl [] (by decide) rfl rfl dX11_comb_10

set_option maxHeartbeats 4000000 in
set_option maxRecDepth 100000 in
theorem mX12_callsOnTwo_1 (l : Launch) (D : va_G) (cyI cyJ : ClassId) (Z : xZ) (h0 : Nat) (p0 : Int32) (p1 : Int32) (v0_0 : Value) (v0_1 : Value) (v0_2 : Value) (v0_3 : Value) (v0_4 : Value) (v0_5 : Value) (v0_6 : Value) (v0_7 : Value) (v0_8 : Value) (v0_9 : Value) (v0_10 : Value) (v0_11 : Value) (v0_12 : Value) (v0_13 : Value) (v0_14 : Value) (v0_15 : Value) (v0_16 : Value) (v0_17 : Value) (v0_18 : Value) (v0_19 : Value) (v0_20 : Value) (v0_21 : Value) (v0_22 : Value) (v0_23 : Value) (v0_24 : Value) (v0_25 : Value) (v0_26 : Value) (v0_27 : Value) (v0_29 : Value) (v0_30 : Value) (v0_31 : Value) (v0_32 : Value) (v0_33 : Value) (v0_34 : Value) (v0_35 : Value) (v0_36 : Value) (v0_37 : Value) (v0_38 : Value) (v0_39 : Value) (v0_40 : Value) (v0_41 : Value) (v0_42 : Value) (v0_43 : Value) (v0_44 : Value) (v0_45 : Value) (v0_46 : Value) (v0_47 : Value) (v0_48 : Value) (v0_49 : Value) (v0_50 : Value) (v0_51 : Value) (v0_52 : Value) (v0_53 : Value) (v0_54 : Value) (v0_55 : Value) (v0_56 : Value) (v0_57 : Value) (v0_58 : Value) (v0_59 : Value) (v0_60 : Value) (v0_61 : Value) (v0_62 : Value) (v0_63 : Value) (v0_64 : Value) : MetI l yX12_callsOnTwo (Cond.code yX12_callsOnTwo cX12_callsOnTwo 4 (some .int)) { frames := 2, cells := 0, slots := 0, locals := 43 } D cyI cyJ Z [.ref h0, .int 2, .int p0, .int p1] [(h0, .inr (12, [v0_0, v0_1, v0_2, v0_3, v0_4, v0_5, v0_6, v0_7, v0_8, v0_9, v0_10, v0_11, v0_12, v0_13, v0_14, v0_15, v0_16, v0_17, v0_18, v0_19, v0_20, v0_21, v0_22, v0_23, v0_24, v0_25, v0_26, v0_27, .int 0, v0_29, v0_30, v0_31, v0_32, v0_33, v0_34, v0_35, v0_36, v0_37, v0_38, v0_39, v0_40, v0_41, v0_42, v0_43, v0_44, v0_45, v0_46, v0_47, v0_48, v0_49, v0_50, v0_51, v0_52, v0_53, v0_54, v0_55, v0_56, v0_57, v0_58, v0_59, v0_60, v0_61, v0_62, v0_63, v0_64]))] (fun _ : Unit => (-1)) (fun _ : Unit => ([(h0, .inr (12, [.int 0, .int 1, .int (-1), v0_3, v0_4, v0_5, v0_6, v0_7, v0_8, v0_9, v0_10, v0_11, v0_12, v0_13, v0_14, v0_15, v0_16, v0_17, v0_18, v0_19, v0_20, v0_21, v0_22, v0_23, v0_24, v0_25, v0_26, v0_27, .int 0, v0_29, v0_30, v0_31, v0_32, v0_33, v0_34, v0_35, v0_36, v0_37, v0_38, v0_39, v0_40, v0_41, v0_42, v0_43, v0_44, v0_45, v0_46, v0_47, v0_48, v0_49, v0_50, v0_51, v0_52, v0_53, v0_54, v0_55, v0_56, v0_57, v0_58, v0_59, v0_60, v0_61, v0_62, v0_63, v0_64]))] : va_W)) 0 0 := by
  refine met_i (by decide) rfl ?_
  intro p e s m below meth c A ls E hr hlk hP hD hA hl
  have hS : va_S A s.heap s.heap [] := va_S.rf
  have hx := E.1.1
  have hb := E.1.2.1
  have hl : lv_has ls 4 [(0, .ref h0), (1, .int 2), (2, .int p0), (3, .int p1)] := hl
  refine lv_aload_n hx hb dX12_callsOnTwo_0 rfl (lv_at hl 0 rfl) ?_
  refine lv_iconst (v := 0) hx hb dX12_callsOnTwo_1 (by decide) ?_
  refine x_put (ws' := [(h0, .inr (12, [.int 0, v0_1, v0_2, v0_3, v0_4, v0_5, v0_6, v0_7, v0_8, v0_9, v0_10, v0_11, v0_12, v0_13, v0_14, v0_15, v0_16, v0_17, v0_18, v0_19, v0_20, v0_21, v0_22, v0_23, v0_24, v0_25, v0_26, v0_27, .int 0, v0_29, v0_30, v0_31, v0_32, v0_33, v0_34, v0_35, v0_36, v0_37, v0_38, v0_39, v0_40, v0_41, v0_42, v0_43, v0_44, v0_45, v0_46, v0_47, v0_48, v0_49, v0_50, v0_51, v0_52, v0_53, v0_54, v0_55, v0_56, v0_57, v0_58, v0_59, v0_60, v0_61, v0_62, v0_63, v0_64]))]) E iX12 tyX12 tyX12_ok nmX12 hP hD hS 0 rfl rfl 0 (by decide) wq202 rfl rfl rfl rfl rfl dX12_callsOnTwo_2 (fun H locs hP hD hS => ?_)
  refine lv_aload_n hx hb dX12_callsOnTwo_5 rfl (lv_at hl 0 rfl) ?_
  refine lv_iload_n hx hb dX12_callsOnTwo_6 rfl (lv_at hl 2 rfl) ?_
  refine x_Vi (rest := []) (ws' := fun _ => [(h0, .inr (12, [.int 0, v0_1, v0_2, v0_3, v0_4, v0_5, v0_6, v0_7, v0_8, v0_9, v0_10, v0_11, v0_12, v0_13, v0_14, v0_15, v0_16, v0_17, v0_18, v0_19, v0_20, v0_21, v0_22, v0_23, v0_24, v0_25, v0_26, v0_27, .int 0, v0_29, v0_30, v0_31, v0_32, v0_33, v0_34, v0_35, v0_36, v0_37, v0_38, v0_39, v0_40, v0_41, v0_42, v0_43, v0_44, v0_45, v0_46, v0_47, v0_48, v0_49, v0_50, v0_51, v0_52, v0_53, v0_54, v0_55, v0_56, v0_57, v0_58, v0_59, v0_60, v0_61, v0_62, v0_63, v0_64]))]) (wr := []) E (mX12_isThm l D cyI cyJ Z h0 p0 (.int 0) v0_1 v0_2 v0_3 v0_4 v0_5 v0_6 v0_7 v0_8 v0_9 v0_10 v0_11 v0_12 v0_13 v0_14 v0_15 v0_16 v0_17 v0_18 v0_19 v0_20 v0_21 v0_22 v0_23 v0_24 v0_25 v0_26 v0_27 v0_29 v0_30 v0_31 v0_32 v0_33 v0_34 v0_35 v0_36 v0_37 v0_38 v0_39 v0_40 v0_41 v0_42 v0_43 v0_44 v0_45 v0_46 v0_47 v0_48 v0_49 v0_50 v0_51 v0_52 v0_53 v0_54 v0_55 v0_56 v0_57 v0_58 v0_59 v0_60 v0_61 v0_62 v0_63 v0_64) kX12_isThm wq454 wq455 wq456 ⟨rfl, rfl, Nat.le_of_ble_eq_true rfl, Nat.le_of_ble_eq_true rfl⟩ hP hD hS hA [0] [] rfl rfl (by decide) (fun _ => rfl) 0 rfl rfl rfl hl.1 rfl (Nat.le_of_ble_eq_true rfl) dX12_callsOnTwo_7 ⟨rfl, rfl⟩ ⟨Nat.le_of_ble_eq_true rfl, Nat.le_of_ble_eq_true rfl⟩ (fun _ H locs hP hD hS => ?_)
  refine lv_if_eq (tgt := 21) hx hb dX12_callsOnTwo_10 (by decide) (fun c9 => ?_) (fun c9 => absurd (by decide) c9)
  refine lv_aload_n hx hb dX12_callsOnTwo_21 rfl (lv_at hl 0 rfl) ?_
  refine lv_iconst (v := 1) hx hb dX12_callsOnTwo_22 (by decide) ?_
  refine x_Vi (rest := []) (ws' := fun _ => [(h0, .inr (12, [.int 0, .int 1, .int (-1), v0_3, v0_4, v0_5, v0_6, v0_7, v0_8, v0_9, v0_10, v0_11, v0_12, v0_13, v0_14, v0_15, v0_16, v0_17, v0_18, v0_19, v0_20, v0_21, v0_22, v0_23, v0_24, v0_25, v0_26, v0_27, .int 0, v0_29, v0_30, v0_31, v0_32, v0_33, v0_34, v0_35, v0_36, v0_37, v0_38, v0_39, v0_40, v0_41, v0_42, v0_43, v0_44, v0_45, v0_46, v0_47, v0_48, v0_49, v0_50, v0_51, v0_52, v0_53, v0_54, v0_55, v0_56, v0_57, v0_58, v0_59, v0_60, v0_61, v0_62, v0_63, v0_64]))]) (wr := []) E (mX12_refused_1 l D cyI cyJ Z h0 (.int 0) v0_1 v0_2 v0_3 v0_4 v0_5 v0_6 v0_7 v0_8 v0_9 v0_10 v0_11 v0_12 v0_13 v0_14 v0_15 v0_16 v0_17 v0_18 v0_19 v0_20 v0_21 v0_22 v0_23 v0_24 v0_25 v0_26 v0_27 (.int 0) v0_29 v0_30 v0_31 v0_32 v0_33 v0_34 v0_35 v0_36 v0_37 v0_38 v0_39 v0_40 v0_41 v0_42 v0_43 v0_44 v0_45 v0_46 v0_47 v0_48 v0_49 v0_50 v0_51 v0_52 v0_53 v0_54 v0_55 v0_56 v0_57 v0_58 v0_59 v0_60 v0_61 v0_62 v0_63 v0_64) kX12_refused wq335 wq336 wq337 ⟨rfl, rfl, Nat.le_of_ble_eq_true rfl, Nat.le_of_ble_eq_true rfl⟩ hP hD hS hA [0] [] rfl rfl (by decide) (fun _ => rfl) 0 rfl rfl rfl hl.1 rfl (Nat.le_of_ble_eq_true rfl) dX12_callsOnTwo_23 ⟨rfl, rfl⟩ ⟨Nat.le_of_ble_eq_true rfl, Nat.le_of_ble_eq_true rfl⟩ (fun _ H locs hP hD hS => ?_)
  exact x_iret E hr hlk hP hD hS () rfl [0] (by decide) rfl rfl dX12_callsOnTwo_26

set_option maxHeartbeats 4000000 in
set_option maxRecDepth 100000 in
theorem mX12_comb_ (l : Launch) (D : va_G) (cyI cyJ : ClassId) (Z : xZ) (h0 : Nat) (p0 : Int32) (p1 : Int32) (v0_0 : Value) (v0_1 : Value) (v0_2 : Value) (v0_3 : Value) (v0_4 : Value) (v0_5 : Value) (v0_6 : Value) (v0_7 : Value) (v0_8 : Value) (v0_9 : Value) (v0_10 : Value) (v0_11 : Value) (v0_12 : Value) (v0_13 : Value) (v0_14 : Value) (v0_15 : Value) (v0_16 : Value) (v0_17 : Value) (v0_18 : Value) (v0_19 : Value) (v0_20 : Value) (v0_21 : Value) (v0_22 : Value) (v0_23 : Value) (v0_24 : Value) (v0_25 : Value) (v0_26 : Value) (v0_27 : Value) (v0_29 : Value) (v0_30 : Value) (v0_31 : Value) (v0_32 : Value) (v0_33 : Value) (v0_34 : Value) (v0_35 : Value) (v0_36 : Value) (v0_37 : Value) (v0_38 : Value) (v0_39 : Value) (v0_40 : Value) (v0_41 : Value) (v0_42 : Value) (v0_43 : Value) (v0_44 : Value) (v0_45 : Value) (v0_46 : Value) (v0_47 : Value) (v0_48 : Value) (v0_49 : Value) (v0_50 : Value) (v0_51 : Value) (v0_52 : Value) (v0_53 : Value) (v0_54 : Value) (v0_55 : Value) (v0_56 : Value) (v0_57 : Value) (v0_58 : Value) (v0_59 : Value) (v0_60 : Value) (v0_61 : Value) (v0_62 : Value) (v0_63 : Value) (v0_64 : Value) : MetI l yX12_comb_ (Cond.code yX12_comb_ cX12_comb_ 3 (some .int)) { frames := 3, cells := 0, slots := 0, locals := 66 } D cyI cyJ Z [.ref h0, .int p0, .int p1] [(h0, .inr (12, [v0_0, v0_1, v0_2, v0_3, v0_4, v0_5, v0_6, v0_7, v0_8, v0_9, v0_10, v0_11, v0_12, v0_13, v0_14, v0_15, v0_16, v0_17, v0_18, v0_19, v0_20, v0_21, v0_22, v0_23, v0_24, v0_25, v0_26, v0_27, .int 0, v0_29, v0_30, v0_31, v0_32, v0_33, v0_34, v0_35, v0_36, v0_37, v0_38, v0_39, v0_40, v0_41, v0_42, v0_43, v0_44, v0_45, v0_46, v0_47, v0_48, v0_49, v0_50, v0_51, v0_52, v0_53, v0_54, v0_55, v0_56, v0_57, v0_58, v0_59, v0_60, v0_61, v0_62, v0_63, v0_64]))] (fun _ : Unit => (-1)) (fun _ : Unit => ([] : va_W)) 0 0 := by
  refine met_i (by decide) rfl ?_
  intro p e s m below meth c A ls E hr hlk hP hD hA hl
  have hS : va_S A s.heap s.heap [] := va_S.rf
  have hx := E.1.1
  have hb := E.1.2.1
  have hl : lv_has ls 3 [(0, .ref h0), (1, .int p0), (2, .int p1)] := hl
  refine lv_aload_n hx hb dX12_comb__0 rfl (lv_at hl 0 rfl) ?_
  refine lv_iconst (v := 2) hx hb dX12_comb__1 (by decide) ?_
  refine lv_iload_n hx hb dX12_comb__2 rfl (lv_at hl 1 rfl) ?_
  refine lv_iload_n hx hb dX12_comb__3 rfl (lv_at hl 2 rfl) ?_
  refine x_Vi (rest := []) (ws' := fun _ => [(h0, .inr (12, [.int 0, .int 1, .int (-1), v0_3, v0_4, v0_5, v0_6, v0_7, v0_8, v0_9, v0_10, v0_11, v0_12, v0_13, v0_14, v0_15, v0_16, v0_17, v0_18, v0_19, v0_20, v0_21, v0_22, v0_23, v0_24, v0_25, v0_26, v0_27, .int 0, v0_29, v0_30, v0_31, v0_32, v0_33, v0_34, v0_35, v0_36, v0_37, v0_38, v0_39, v0_40, v0_41, v0_42, v0_43, v0_44, v0_45, v0_46, v0_47, v0_48, v0_49, v0_50, v0_51, v0_52, v0_53, v0_54, v0_55, v0_56, v0_57, v0_58, v0_59, v0_60, v0_61, v0_62, v0_63, v0_64]))]) (wr := []) E (mX12_callsOnTwo_1 l D cyI cyJ Z h0 p0 p1 v0_0 v0_1 v0_2 v0_3 v0_4 v0_5 v0_6 v0_7 v0_8 v0_9 v0_10 v0_11 v0_12 v0_13 v0_14 v0_15 v0_16 v0_17 v0_18 v0_19 v0_20 v0_21 v0_22 v0_23 v0_24 v0_25 v0_26 v0_27 v0_29 v0_30 v0_31 v0_32 v0_33 v0_34 v0_35 v0_36 v0_37 v0_38 v0_39 v0_40 v0_41 v0_42 v0_43 v0_44 v0_45 v0_46 v0_47 v0_48 v0_49 v0_50 v0_51 v0_52 v0_53 v0_54 v0_55 v0_56 v0_57 v0_58 v0_59 v0_60 v0_61 v0_62 v0_63 v0_64) kX12_callsOnTwo wq460 wq461 wq462 ⟨rfl, rfl, Nat.le_of_ble_eq_true rfl, Nat.le_of_ble_eq_true rfl⟩ hP hD hS hA [0] [] rfl rfl (by decide) (fun _ => rfl) 0 rfl rfl rfl hl.1 rfl (Nat.le_of_ble_eq_true rfl) dX12_comb__4 ⟨rfl, rfl⟩ ⟨Nat.le_of_ble_eq_true rfl, Nat.le_of_ble_eq_true rfl⟩ (fun _ H locs hP hD hS => ?_)
  exact x_iret E hr hlk hP hD hS () rfl [] (by decide) rfl rfl dX12_comb__7

set_option maxHeartbeats 4000000 in
set_option maxRecDepth 100000 in
theorem mX9_hasVar (l : Launch) (D : va_G) (cyI cyJ : ClassId) (Z : xZ) (h0 : Nat) (p0 : Int32) (v0_0 : Value) (v0_1 : Value) (v0_2 : Value) (v0_3 : Value) (v0_4 : Value) (v0_5 : Value) (v0_6 : Value) (v0_7 : Value) (v0_8 : Value) (v0_10 : Value) (v0_11 : Value) (v0_12 : Value) (v0_13 : Value) (v0_14 : Value) : MetI l yX9_hasVar (Cond.code yX9_hasVar cX9_hasVar 2 (some .boolean)) { frames := 0, cells := 0, slots := 0, locals := 0 } D cyI cyJ Z [.ref h0, .int p0] [(h0, .inr (9, [v0_0, v0_1, v0_2, v0_3, v0_4, v0_5, v0_6, v0_7, v0_8, .int 0, v0_10, v0_11, v0_12, v0_13, v0_14]))] (fun _ : Unit => 0) (fun _ : Unit => ([(h0, .inr (9, [v0_0, v0_1, v0_2, v0_3, v0_4, v0_5, v0_6, v0_7, v0_8, .int 0, v0_10, v0_11, v0_12, v0_13, v0_14]))] : va_W)) 0 0 := by
  refine met_i (by decide) rfl ?_
  intro p e s m below meth c A ls E hr hlk hP hD hA hl
  have hS : va_S A s.heap s.heap [] := va_S.rf
  have hx := E.1.1
  have hb := E.1.2.1
  have hl : lv_has ls 2 [(0, .ref h0), (1, .int p0)] := hl
  refine lv_iload_n hx hb dX9_hasVar_0 rfl (lv_at hl 1 rfl) ?_
  refine lv_if_lt (tgt := 16) hx hb dX9_hasVar_1 (by decide) (fun c1 => ?_) (fun c1 => ?_)
  · refine lv_iconst (v := 0) hx hb dX9_hasVar_16 (by decide) ?_
    exact x_iret E hr hlk hP hD hS () rfl [0] (by decide) rfl rfl dX9_hasVar_17
  · refine lv_iload_n hx hb dX9_hasVar_4 rfl (lv_at hl 1 rfl) ?_
    refine lv_aload_n hx hb dX9_hasVar_5 rfl (lv_at hl 0 rfl) ?_
    refine x_get E iX9 hP 0 rfl rfl 9 (by decide) wq207 rfl dX9_hasVar_6 ?_
    refine lv_icmp_ge (tgt := 16) hx hb dX9_hasVar_9 (by decide) (fun c9 => ?_) (fun c9 => (by exfalso; have k0 : ¬ ((p0 : Int32).toInt < (0 : Int32).toInt) := fun z => c1 (Int32.lt_iff_toInt_lt.mpr z); have k1 : ¬ ((0 : Int32).toInt ≤ (p0 : Int32).toInt) := fun z => c9 (Int32.le_iff_toInt_le.mpr z); have l0 : (0 : Int32).toInt = 0 := (by decide); omega))
    refine lv_iconst (v := 0) hx hb dX9_hasVar_16 (by decide) ?_
    exact x_iret E hr hlk hP hD hS () rfl [0] (by decide) rfl rfl dX9_hasVar_17
