set_option maxHeartbeats 4000000 in
set_option maxRecDepth 100000 in
theorem mX0_link (l : Launch) (D : va_G) (cyI cyJ : ClassId) (Z : xZ) (h0 : Nat) (h1 : Nat) (h2 : Nat) (h3 : Nat) (v0_0 : Value) (v0_1 : Value) (v0_2 : Value) (v0_3 : Value) (v0_4 : Value) (v0_5 : Value) (v0_6 : Value) (v0_7 : Value) (v0_10 : Value) (v0_12 : Value) (v0_13 : Value) (f3 : Nat → Int32) : MetV l yX0_link (Cond.code yX0_link cX0_link 3 none) { frames := 0, cells := 0, slots := 0, locals := 0 } D cyI cyJ Z [.ref h0, .int 0] [(h0, .inr (0, [v0_0, v0_1, v0_2, v0_3, v0_4, v0_5, v0_6, v0_7, .ref h1, .ref h3, v0_10, .ref h2, v0_12, v0_13])), (h1, .inl (cyI, 512, .inl (upd (fun _ => 0) 0 0))), (h2, .inl (cyI, 512, .inl (fun _ => -1))), (h3, .inl (cyI, 512, .inl f3))] (fun _ : Unit => ([(h0, .inr (0, [v0_0, v0_1, v0_2, v0_3, v0_4, v0_5, v0_6, v0_7, .ref h1, .ref h3, v0_10, .ref h2, v0_12, v0_13])), (h1, .inl (cyI, 512, .inl (upd (fun _ => 0) 0 0))), (h2, .inl (cyI, 512, .inl (upd (fun _ => -1) 0 0))), (h3, .inl (cyI, 512, .inl (upd f3 0 (-1))))] : va_W)) 0 0 := by
  refine met_v (by decide) rfl ?_
  intro p e s m below meth c A ls E hr hlk hnm hP hD hA hl
  have hS : va_S A s.heap s.heap [] := va_S.rf
  have hx := E.1.1
  have hb := E.1.2.1
  have hl : lv_has ls 3 [(0, .ref h0), (1, .int 0)] := hl
  refine lv_aload_n hx hb dX0_link_0 rfl (lv_at hl 0 rfl) ?_
  refine x_get E iX0 hP 0 rfl rfl 8 (by decide) wq17 rfl dX0_link_1 ?_
  refine lv_iload_n hx hb dX0_link_4 rfl (lv_at hl 1 rfl) ?_
  refine x_iald (v := 0) E hP 1 rfl (by decide) rfl dX0_link_5 ?_
  refine lv_aload_n hx hb dX0_link_6 rfl (lv_at hl 0 rfl) ?_
  refine x_get E iX0 hP 0 rfl rfl 11 (by decide) wq20 rfl dX0_link_7 ?_
  refine x_alen (v := 512) E hP 2 rfl (by decide) dX0_link_10 ?_
  refine lv_iconst (v := 1) hx hb dX0_link_11 (by decide) ?_
  refine lv_isub hx hb dX0_link_12 ?_
  refine x_topi (z := 511) (by decide) ?_
  refine lv_iand hx hb dX0_link_13 ?_
  refine x_topi (z := 0) (by decide) ?_
  refine lv_istore_n (lv' := [(2, .int 0), (0, .ref h0), (1, .int 0)]) hx hb dX0_link_14 rfl hl (by decide) rfl (fun ls hl => ?_)
  refine lv_aload_n hx hb dX0_link_15 rfl (lv_at hl 1 rfl) ?_
  refine x_get E iX0 hP 0 rfl rfl 9 (by decide) wq18 rfl dX0_link_16 ?_
  refine lv_iload_n hx hb dX0_link_19 rfl (lv_at hl 2 rfl) ?_
  refine lv_aload_n hx hb dX0_link_20 rfl (lv_at hl 1 rfl) ?_
  refine x_get E iX0 hP 0 rfl rfl 11 (by decide) wq20 rfl dX0_link_21 ?_
  refine lv_iload_n hx hb dX0_link_24 rfl (lv_at hl 0 rfl) ?_
  refine x_iald (v := (-1)) E hP 2 rfl (by decide) rfl dX0_link_25 ?_
  refine x_iast (ws' := [(h0, .inr (0, [v0_0, v0_1, v0_2, v0_3, v0_4, v0_5, v0_6, v0_7, .ref h1, .ref h3, v0_10, .ref h2, v0_12, v0_13])), (h1, .inl (cyI, 512, .inl (upd (fun _ => 0) 0 0))), (h2, .inl (cyI, 512, .inl (fun _ => -1))), (h3, .inl (cyI, 512, .inl (upd f3 0 (-1))))]) E hP hD hS 3 rfl (by decide) rfl rfl dX0_link_26 (fun H locs hP hD hS => ?_)
  refine lv_aload_n hx hb dX0_link_27 rfl (lv_at hl 1 rfl) ?_
  refine x_get E iX0 hP 0 rfl rfl 11 (by decide) wq20 rfl dX0_link_28 ?_
  refine lv_iload_n hx hb dX0_link_31 rfl (lv_at hl 0 rfl) ?_
  refine lv_iload_n hx hb dX0_link_32 rfl (lv_at hl 2 rfl) ?_
  refine x_iast (ws' := [(h0, .inr (0, [v0_0, v0_1, v0_2, v0_3, v0_4, v0_5, v0_6, v0_7, .ref h1, .ref h3, v0_10, .ref h2, v0_12, v0_13])), (h1, .inl (cyI, 512, .inl (upd (fun _ => 0) 0 0))), (h2, .inl (cyI, 512, .inl (upd (fun _ => -1) 0 0))), (h3, .inl (cyI, 512, .inl (upd f3 0 (-1))))]) E hP hD hS 2 rfl (by decide) rfl rfl dX0_link_33 (fun H locs hP hD hS => ?_)
  exact x_vret E hr hlk hP hD hS () [0, 1, 2, 3] (by decide) rfl dX0_link_34

set_option maxHeartbeats 4000000 in
set_option maxRecDepth 100000 in
theorem mX0_measure (l : Launch) (D : va_G) (cyI cyJ : ClassId) (Z : xZ) (h0 : Nat) (h1 : Nat) (h2 : Nat) (h3 : Nat) (h4 : Nat) (h5 : Nat) (h6 : Nat) (h7 : Nat) (v0_3 : Value) (v0_8 : Value) (v0_9 : Value) (v0_10 : Value) (v0_11 : Value) (v0_12 : Value) (v0_13 : Value) (f4 : Nat → Int32) (f5 : Nat → Int32) (f6 : Nat → Int32) (f7 : Nat → Int32) : MetV l yX0_measure (Cond.code yX0_measure cX0_measure 6 none) { frames := 0, cells := 0, slots := 0, locals := 0 } D cyI cyJ Z [.ref h0, .int 0] [(h0, .inr (0, [.ref h3, .ref h2, .ref h1, v0_3, .ref h6, .ref h7, .ref h4, .ref h5, v0_8, v0_9, v0_10, v0_11, v0_12, v0_13])), (h1, .inl (cyI, 512, .inl (upd (fun _ => 0) 0 0))), (h2, .inl (cyI, 512, .inl (upd (fun _ => 0) 0 0))), (h3, .inl (cyI, 512, .inl (upd (fun _ => 0) 0 0))), (h4, .inl (cyI, 512, .inl f4)), (h5, .inl (cyI, 512, .inl f5)), (h6, .inl (cyI, 512, .inl f6)), (h7, .inl (cyI, 512, .inl f7))] (fun _ : Unit => ([(h0, .inr (0, [.ref h3, .ref h2, .ref h1, v0_3, .ref h6, .ref h7, .ref h4, .ref h5, v0_8, v0_9, v0_10, v0_11, v0_12, v0_13])), (h1, .inl (cyI, 512, .inl (upd (fun _ => 0) 0 0))), (h2, .inl (cyI, 512, .inl (upd (fun _ => 0) 0 0))), (h3, .inl (cyI, 512, .inl (upd (fun _ => 0) 0 0))), (h4, .inl (cyI, 512, .inl (upd f4 0 0))), (h5, .inl (cyI, 512, .inl (upd f5 0 0))), (h6, .inl (cyI, 512, .inl (upd (upd f6 0 1) 0 0))), (h7, .inl (cyI, 512, .inl (upd f7 0 0)))] : va_W)) 0 0 := by
  refine met_v (by decide) rfl ?_
  intro p e s m below meth c A ls E hr hlk hnm hP hD hA hl
  have hS : va_S A s.heap s.heap [] := va_S.rf
  have hx := E.1.1
  have hb := E.1.2.1
  have hl : lv_has ls 6 [(0, .ref h0), (1, .int 0)] := hl
  refine lv_aload_n hx hb dX0_measure_0 rfl (lv_at hl 0 rfl) ?_
  refine x_get E iX0 hP 0 rfl rfl 2 (by decide) wq11 rfl dX0_measure_1 ?_
  refine lv_iload_n hx hb dX0_measure_4 rfl (lv_at hl 1 rfl) ?_
  refine x_iald (v := 0) E hP 1 rfl (by decide) rfl dX0_measure_5 ?_
  refine lv_istore_n (lv' := [(2, .int 0), (0, .ref h0), (1, .int 0)]) hx hb dX0_measure_6 rfl hl (by decide) rfl (fun ls hl => ?_)
  refine lv_aload_n hx hb dX0_measure_7 rfl (lv_at hl 1 rfl) ?_
  refine x_get E iX0 hP 0 rfl rfl 1 (by decide) wq10 rfl dX0_measure_8 ?_
  refine lv_iload_n hx hb dX0_measure_11 rfl (lv_at hl 2 rfl) ?_
  refine x_iald (v := 0) E hP 2 rfl (by decide) rfl dX0_measure_12 ?_
  refine lv_if_lt (tgt := 35) hx hb dX0_measure_13 (by decide) (fun c9 => absurd c9 (by decide)) (fun c9 => ?_)
  refine lv_aload_n hx hb dX0_measure_16 rfl (lv_at hl 1 rfl) ?_
  refine x_get E iX0 hP 0 rfl rfl 1 (by decide) wq10 rfl dX0_measure_17 ?_
  refine lv_iload_n hx hb dX0_measure_20 rfl (lv_at hl 2 rfl) ?_
  refine x_iald (v := 0) E hP 2 rfl (by decide) rfl dX0_measure_21 ?_
  refine lv_iload_n hx hb dX0_measure_22 rfl (lv_at hl 2 rfl) ?_
  refine lv_icmp_ge (tgt := 35) hx hb dX0_measure_23 (by decide) (fun c9 => ?_) (fun c9 => absurd (by decide) c9)
  refine lv_iconst (v := 0) hx hb dX0_measure_35 (by decide) ?_
  refine lv_istore_n (lv' := [(3, .int 0), (2, .int 0), (0, .ref h0), (1, .int 0)]) hx hb dX0_measure_36 rfl hl (by decide) rfl (fun ls hl => ?_)
  refine lv_iload_n hx hb dX0_measure_37 rfl (lv_at hl 1 rfl) ?_
  refine lv_if_lt (tgt := 50) hx hb dX0_measure_38 (by decide) (fun c9 => absurd c9 (by decide)) (fun c9 => ?_)
  refine lv_iload_n hx hb dX0_measure_41 rfl (lv_at hl 1 rfl) ?_
  refine lv_iload_n hx hb dX0_measure_42 rfl (lv_at hl 3 rfl) ?_
  refine lv_icmp_ge (tgt := 50) hx hb dX0_measure_43 (by decide) (fun c9 => ?_) (fun c9 => absurd (by decide) c9)
  refine lv_iconst (v := 0) hx hb dX0_measure_50 (by decide) ?_
  refine lv_istore (lv' := [(4, .int 0), (3, .int 0), (2, .int 0), (0, .ref h0), (1, .int 0)]) hx hb dX0_measure_51 hl (by decide) rfl (fun ls hl => ?_)
  refine lv_aload_n hx hb dX0_measure_53 rfl (lv_at hl 3 rfl) ?_
  refine x_get E iX0 hP 0 rfl rfl 0 (by decide) wq9 rfl dX0_measure_54 ?_
  refine lv_iload_n hx hb dX0_measure_57 rfl (lv_at hl 4 rfl) ?_
  refine x_iald (v := 0) E hP 3 rfl (by decide) rfl dX0_measure_58 ?_
  refine lv_bipush (v := 7) hx hb dX0_measure_59 (by decide) ?_
  refine lv_icmp_lt (tgt := 68) hx hb dX0_measure_61 (by decide) (fun c9 => ?_) (fun c9 => absurd (by decide) c9)
  refine lv_iconst (v := 0) hx hb dX0_measure_68 (by decide) ?_
  refine lv_istore (lv' := [(5, .int 0), (4, .int 0), (3, .int 0), (2, .int 0), (0, .ref h0), (1, .int 0)]) hx hb dX0_measure_69 hl (by decide) rfl (fun ls hl => ?_)
  refine lv_aload_n hx hb dX0_measure_71 rfl (lv_at hl 4 rfl) ?_
  refine x_get E iX0 hP 0 rfl rfl 6 (by decide) wq15 rfl dX0_measure_72 ?_
  refine lv_iload_n hx hb dX0_measure_75 rfl (lv_at hl 5 rfl) ?_
  refine lv_iload hx hb dX0_measure_76 (lv_at hl 0 rfl) ?_
  refine lv_if_eq (tgt := 98) hx hb dX0_measure_78 (by decide) (fun c9 => ?_) (fun c9 => absurd (by decide) c9)
  refine lv_iconst (v := 0) hx hb dX0_measure_98 (by decide) ?_
  refine x_iast (ws' := [(h0, .inr (0, [.ref h3, .ref h2, .ref h1, v0_3, .ref h6, .ref h7, .ref h4, .ref h5, v0_8, v0_9, v0_10, v0_11, v0_12, v0_13])), (h1, .inl (cyI, 512, .inl (upd (fun _ => 0) 0 0))), (h2, .inl (cyI, 512, .inl (upd (fun _ => 0) 0 0))), (h3, .inl (cyI, 512, .inl (upd (fun _ => 0) 0 0))), (h4, .inl (cyI, 512, .inl (upd f4 0 0))), (h5, .inl (cyI, 512, .inl f5)), (h6, .inl (cyI, 512, .inl f6)), (h7, .inl (cyI, 512, .inl f7))]) E hP hD hS 4 rfl (by decide) rfl rfl dX0_measure_99 (fun H locs hP hD hS => ?_)
  refine lv_aload_n hx hb dX0_measure_100 rfl (lv_at hl 4 rfl) ?_
  refine x_get E iX0 hP 0 rfl rfl 7 (by decide) wq16 rfl dX0_measure_101 ?_
  refine lv_iload_n hx hb dX0_measure_104 rfl (lv_at hl 5 rfl) ?_
  refine lv_iload hx hb dX0_measure_105 (lv_at hl 0 rfl) ?_
  refine lv_if_eq (tgt := 127) hx hb dX0_measure_107 (by decide) (fun c9 => ?_) (fun c9 => absurd (by decide) c9)
  refine lv_iconst (v := 0) hx hb dX0_measure_127 (by decide) ?_
  refine x_iast (ws' := [(h0, .inr (0, [.ref h3, .ref h2, .ref h1, v0_3, .ref h6, .ref h7, .ref h4, .ref h5, v0_8, v0_9, v0_10, v0_11, v0_12, v0_13])), (h1, .inl (cyI, 512, .inl (upd (fun _ => 0) 0 0))), (h2, .inl (cyI, 512, .inl (upd (fun _ => 0) 0 0))), (h3, .inl (cyI, 512, .inl (upd (fun _ => 0) 0 0))), (h4, .inl (cyI, 512, .inl (upd f4 0 0))), (h5, .inl (cyI, 512, .inl (upd f5 0 0))), (h6, .inl (cyI, 512, .inl f6)), (h7, .inl (cyI, 512, .inl f7))]) E hP hD hS 5 rfl (by decide) rfl rfl dX0_measure_128 (fun H locs hP hD hS => ?_)
  refine lv_aload_n hx hb dX0_measure_129 rfl (lv_at hl 4 rfl) ?_
  refine x_get E iX0 hP 0 rfl rfl 4 (by decide) wq13 rfl dX0_measure_130 ?_
  refine lv_iload_n hx hb dX0_measure_133 rfl (lv_at hl 5 rfl) ?_
  refine lv_iconst (v := 1) hx hb dX0_measure_134 (by decide) ?_
  refine x_iast (ws' := [(h0, .inr (0, [.ref h3, .ref h2, .ref h1, v0_3, .ref h6, .ref h7, .ref h4, .ref h5, v0_8, v0_9, v0_10, v0_11, v0_12, v0_13])), (h1, .inl (cyI, 512, .inl (upd (fun _ => 0) 0 0))), (h2, .inl (cyI, 512, .inl (upd (fun _ => 0) 0 0))), (h3, .inl (cyI, 512, .inl (upd (fun _ => 0) 0 0))), (h4, .inl (cyI, 512, .inl (upd f4 0 0))), (h5, .inl (cyI, 512, .inl (upd f5 0 0))), (h6, .inl (cyI, 512, .inl (upd f6 0 1))), (h7, .inl (cyI, 512, .inl f7))]) E hP hD hS 6 rfl (by decide) rfl rfl dX0_measure_135 (fun H locs hP hD hS => ?_)
  refine lv_aload_n hx hb dX0_measure_136 rfl (lv_at hl 4 rfl) ?_
  refine x_get E iX0 hP 0 rfl rfl 5 (by decide) wq14 rfl dX0_measure_137 ?_
  refine lv_iload_n hx hb dX0_measure_140 rfl (lv_at hl 5 rfl) ?_
  refine lv_iconst (v := 0) hx hb dX0_measure_141 (by decide) ?_
  refine x_iast (ws' := [(h0, .inr (0, [.ref h3, .ref h2, .ref h1, v0_3, .ref h6, .ref h7, .ref h4, .ref h5, v0_8, v0_9, v0_10, v0_11, v0_12, v0_13])), (h1, .inl (cyI, 512, .inl (upd (fun _ => 0) 0 0))), (h2, .inl (cyI, 512, .inl (upd (fun _ => 0) 0 0))), (h3, .inl (cyI, 512, .inl (upd (fun _ => 0) 0 0))), (h4, .inl (cyI, 512, .inl (upd f4 0 0))), (h5, .inl (cyI, 512, .inl (upd f5 0 0))), (h6, .inl (cyI, 512, .inl (upd f6 0 1))), (h7, .inl (cyI, 512, .inl (upd f7 0 0)))]) E hP hD hS 7 rfl (by decide) rfl rfl dX0_measure_142 (fun H locs hP hD hS => ?_)
  refine lv_aload_n hx hb dX0_measure_143 rfl (lv_at hl 4 rfl) ?_
  refine x_get E iX0 hP 0 rfl rfl 0 (by decide) wq9 rfl dX0_measure_144 ?_
  refine lv_iload_n hx hb dX0_measure_147 rfl (lv_at hl 5 rfl) ?_
  refine x_iald (v := 0) E hP 3 rfl (by decide) rfl dX0_measure_148 ?_
  refine lv_tableIn (tgt := 208) (off := 59) hx hb dX0_measure_149 (by decide) (by decide) (by decide) (by decide) ?_
  refine lv_aload_n hx hb dX0_measure_208 rfl (lv_at hl 4 rfl) ?_
  refine x_get E iX0 hP 0 rfl rfl 4 (by decide) wq13 rfl dX0_measure_209 ?_
  refine lv_iload_n hx hb dX0_measure_212 rfl (lv_at hl 5 rfl) ?_
  refine lv_iconst (v := 0) hx hb dX0_measure_213 (by decide) ?_
  refine x_iast (ws' := [(h0, .inr (0, [.ref h3, .ref h2, .ref h1, v0_3, .ref h6, .ref h7, .ref h4, .ref h5, v0_8, v0_9, v0_10, v0_11, v0_12, v0_13])), (h1, .inl (cyI, 512, .inl (upd (fun _ => 0) 0 0))), (h2, .inl (cyI, 512, .inl (upd (fun _ => 0) 0 0))), (h3, .inl (cyI, 512, .inl (upd (fun _ => 0) 0 0))), (h4, .inl (cyI, 512, .inl (upd f4 0 0))), (h5, .inl (cyI, 512, .inl (upd f5 0 0))), (h6, .inl (cyI, 512, .inl (upd (upd f6 0 1) 0 0))), (h7, .inl (cyI, 512, .inl (upd f7 0 0)))]) E hP hD hS 6 rfl (by decide) rfl rfl dX0_measure_214 (fun H locs hP hD hS => ?_)
  refine lv_goto (tgt := 400) hx hb dX0_measure_215 (by decide) ?_
  exact x_vret E hr hlk hP hD hS () [0, 1, 2, 3, 4, 5, 6, 7] (by decide) rfl dX0_measure_400

set_option maxHeartbeats 4000000 in
set_option maxRecDepth 100000 in
theorem mX0_node (l : Launch) (D : va_G) (cyI cyJ : ClassId) (Z : xZ) (h0 : Nat) (h1 : Nat) (h2 : Nat) (h3 : Nat) (h4 : Nat) (h5 : Nat) (h6 : Nat) (h7 : Nat) (h8 : Nat) (h9 : Nat) (h10 : Nat) (h11 : Nat) (v0_10 : Value) (v0_13 : Value) (f5 : Nat → Int32) (f7 : Nat → Int32) (f8 : Nat → Int32) (f9 : Nat → Int32) (f10 : Nat → Int32) (f11 : Nat → Int32) : MetI l yX0_node (Cond.code yX0_node cX0_node 8 (some .int)) { frames := 1, cells := 0, slots := 0, locals := 25 } D cyI cyJ Z [.ref h0, .int 0, .int 0, .int 0, .int 0] [(h0, .inr (0, [.ref h2, .ref h3, .ref h4, .ref h5, .ref h10, .ref h11, .ref h8, .ref h9, .ref h6, .ref h7, v0_10, .ref h1, .int 0, v0_13])), (h1, .inl (cyI, 512, .inl (fun _ => -1))), (h2, .inl (cyI, 512, .inl (fun _ => 0))), (h3, .inl (cyI, 512, .inl (fun _ => 0))), (h4, .inl (cyI, 512, .inl (fun _ => 0))), (h5, .inl (cyI, 512, .inl f5)), (h6, .inl (cyI, 512, .inl (fun _ => 0))), (h7, .inl (cyI, 512, .inl f7)), (h8, .inl (cyI, 512, .inl f8)), (h9, .inl (cyI, 512, .inl f9)), (h10, .inl (cyI, 512, .inl f10)), (h11, .inl (cyI, 512, .inl f11))] (fun _ : Unit => 0) (fun _ : Unit => ([(h0, .inr (0, [.ref h2, .ref h3, .ref h4, .ref h5, .ref h10, .ref h11, .ref h8, .ref h9, .ref h6, .ref h7, v0_10, .ref h1, .int 1, v0_13])), (h1, .inl (cyI, 512, .inl (upd (fun _ => -1) 0 0))), (h2, .inl (cyI, 512, .inl (upd (fun _ => 0) 0 0))), (h3, .inl (cyI, 512, .inl (upd (fun _ => 0) 0 0))), (h4, .inl (cyI, 512, .inl (upd (fun _ => 0) 0 0))), (h5, .inl (cyI, 512, .inl (upd f5 0 0))), (h6, .inl (cyI, 512, .inl (upd (fun _ => 0) 0 0))), (h7, .inl (cyI, 512, .inl (upd f7 0 (-1)))), (h8, .inl (cyI, 512, .inl (upd f8 0 0))), (h9, .inl (cyI, 512, .inl (upd f9 0 0))), (h10, .inl (cyI, 512, .inl (upd (upd f10 0 1) 0 0))), (h11, .inl (cyI, 512, .inl (upd f11 0 0)))] : va_W)) 0 0 := by
  refine met_i (by decide) rfl ?_
  intro p e s m below meth c A ls E hr hlk hP hD hA hl
  have hS : va_S A s.heap s.heap [] := va_S.rf
  have hx := E.1.1
  have hb := E.1.2.1
  have hl : lv_has ls 8 [(0, .ref h0), (1, .int 0), (2, .int 0), (3, .int 0), (4, .int 0)] := hl
  refine lv_iload_n hx hb dX0_node_0 rfl (lv_at hl 1 rfl) ?_
  refine lv_sipush (v := 7919) hx hb dX0_node_1 (by decide) ?_
  refine lv_imul hx hb dX0_node_4 ?_
  refine x_topi (z := 0) (by decide) ?_
  refine lv_iload_n hx hb dX0_node_5 rfl (lv_at hl 2 rfl) ?_
  refine lv_iadd hx hb dX0_node_6 ?_
  refine x_topi (z := 0) (by decide) ?_
  refine lv_sipush (v := 31337) hx hb dX0_node_7 (by decide) ?_
  refine lv_imul hx hb dX0_node_10 ?_
  refine x_topi (z := 0) (by decide) ?_
  refine lv_iload_n hx hb dX0_node_11 rfl (lv_at hl 3 rfl) ?_
  refine lv_iadd hx hb dX0_node_12 ?_
  refine x_topi (z := 0) (by decide) ?_
  refine lv_istore (lv' := [(5, .int 0), (0, .ref h0), (1, .int 0), (2, .int 0), (3, .int 0), (4, .int 0)]) hx hb dX0_node_13 hl (by decide) rfl (fun ls hl => ?_)
  refine lv_iload hx hb dX0_node_15 (lv_at hl 0 rfl) ?_
  refine lv_iload hx hb dX0_node_17 (lv_at hl 0 rfl) ?_
  refine lv_bipush (v := 15) hx hb dX0_node_19 (by decide) ?_
  refine lv_iushr (v := 0) hx hb dX0_node_21 (by decide) ?_
  refine lv_ixor hx hb dX0_node_22 ?_
  refine x_topi (z := 0) (by decide) ?_
  refine lv_istore (lv' := [(5, .int 0), (0, .ref h0), (1, .int 0), (2, .int 0), (3, .int 0), (4, .int 0)]) hx hb dX0_node_23 hl (by decide) rfl (fun ls hl => ?_)
  refine lv_aload_n hx hb dX0_node_25 rfl (lv_at hl 1 rfl) ?_
  refine x_get E iX0 hP 0 rfl rfl 11 (by decide) wq20 rfl dX0_node_26 ?_
  refine lv_iload hx hb dX0_node_29 (lv_at hl 0 rfl) ?_
  refine lv_aload_n hx hb dX0_node_31 rfl (lv_at hl 1 rfl) ?_
  refine x_get E iX0 hP 0 rfl rfl 11 (by decide) wq20 rfl dX0_node_32 ?_
  refine x_alen (v := 512) E hP 1 rfl (by decide) dX0_node_35 ?_
  refine lv_iconst (v := 1) hx hb dX0_node_36 (by decide) ?_
  refine lv_isub hx hb dX0_node_37 ?_
  refine x_topi (z := 511) (by decide) ?_
  refine lv_iand hx hb dX0_node_38 ?_
  refine x_topi (z := 0) (by decide) ?_
  refine x_iald (v := (-1)) E hP 1 rfl (by decide) rfl dX0_node_39 ?_
  refine lv_istore (lv' := [(6, .int (-1)), (5, .int 0), (0, .ref h0), (1, .int 0), (2, .int 0), (3, .int 0), (4, .int 0)]) hx hb dX0_node_40 hl (by decide) rfl (fun ls hl => ?_)
  refine lv_iconst (v := 0) hx hb dX0_node_42 (by decide) ?_
  refine lv_istore (lv' := [(7, .int 0), (6, .int (-1)), (5, .int 0), (0, .ref h0), (1, .int 0), (2, .int 0), (3, .int 0), (4, .int 0)]) hx hb dX0_node_43 hl (by decide) rfl (fun ls hl => ?_)
  refine lv_iload hx hb dX0_node_45 (lv_at hl 0 rfl) ?_
  refine lv_aload_n hx hb dX0_node_47 rfl (lv_at hl 3 rfl) ?_
  refine x_get E iX0 hP 0 rfl rfl 12 (by decide) wq23 rfl dX0_node_48 ?_
  refine lv_icmp_ge (tgt := 119) hx hb dX0_node_51 (by decide) (fun c9 => ?_) (fun c9 => absurd (by decide) c9)
  refine lv_aload_n hx hb dX0_node_119 rfl (lv_at hl 3 rfl) ?_
  refine x_get E iX0 hP 0 rfl rfl 12 (by decide) wq23 rfl dX0_node_120 ?_
  refine lv_aload_n hx hb dX0_node_123 rfl (lv_at hl 3 rfl) ?_
  refine x_get E iX0 hP 0 rfl rfl 0 (by decide) wq9 rfl dX0_node_124 ?_
  refine x_alen (v := 512) E hP 2 rfl (by decide) dX0_node_127 ?_
  refine lv_icmp_lt (tgt := 135) hx hb dX0_node_128 (by decide) (fun c9 => ?_) (fun c9 => absurd (by decide) c9)
  refine lv_aload_n hx hb dX0_node_135 rfl (lv_at hl 3 rfl) ?_
  refine x_get E iX0 hP 0 rfl rfl 12 (by decide) wq23 rfl dX0_node_136 ?_
  refine lv_istore (lv' := [(7, .int 0), (6, .int (-1)), (5, .int 0), (0, .ref h0), (1, .int 0), (2, .int 0), (3, .int 0), (4, .int 0)]) hx hb dX0_node_139 hl (by decide) rfl (fun ls hl => ?_)
  refine lv_aload_n hx hb dX0_node_141 rfl (lv_at hl 3 rfl) ?_
  refine lv_dup hx hb dX0_node_142 rfl ?_
  refine x_get E iX0 hP 0 rfl rfl 12 (by decide) wq23 rfl dX0_node_143 ?_
  refine lv_iconst (v := 1) hx hb dX0_node_146 (by decide) ?_
  refine lv_iadd hx hb dX0_node_147 ?_
  refine x_topi (z := 1) (by decide) ?_
  refine x_put (ws' := [(h0, .inr (0, [.ref h2, .ref h3, .ref h4, .ref h5, .ref h10, .ref h11, .ref h8, .ref h9, .ref h6, .ref h7, v0_10, .ref h1, .int 1, v0_13])), (h1, .inl (cyI, 512, .inl (fun _ => -1))), (h2, .inl (cyI, 512, .inl (fun _ => 0))), (h3, .inl (cyI, 512, .inl (fun _ => 0))), (h4, .inl (cyI, 512, .inl (fun _ => 0))), (h5, .inl (cyI, 512, .inl f5)), (h6, .inl (cyI, 512, .inl (fun _ => 0))), (h7, .inl (cyI, 512, .inl f7)), (h8, .inl (cyI, 512, .inl f8)), (h9, .inl (cyI, 512, .inl f9)), (h10, .inl (cyI, 512, .inl f10)), (h11, .inl (cyI, 512, .inl f11))]) E iX0 tyX0 tyX0_ok nmX0 hP hD hS 0 rfl rfl 12 (by decide) wq23 rfl rfl rfl rfl rfl dX0_node_148 (fun H locs hP hD hS => ?_)
  refine lv_aload_n hx hb dX0_node_151 rfl (lv_at hl 3 rfl) ?_
  refine x_get E iX0 hP 0 rfl rfl 0 (by decide) wq9 rfl dX0_node_152 ?_
  refine lv_iload hx hb dX0_node_155 (lv_at hl 0 rfl) ?_
  refine lv_iload_n hx hb dX0_node_157 rfl (lv_at hl 4 rfl) ?_
  refine x_iast (ws' := [(h0, .inr (0, [.ref h2, .ref h3, .ref h4, .ref h5, .ref h10, .ref h11, .ref h8, .ref h9, .ref h6, .ref h7, v0_10, .ref h1, .int 1, v0_13])), (h1, .inl (cyI, 512, .inl (fun _ => -1))), (h2, .inl (cyI, 512, .inl (upd (fun _ => 0) 0 0))), (h3, .inl (cyI, 512, .inl (fun _ => 0))), (h4, .inl (cyI, 512, .inl (fun _ => 0))), (h5, .inl (cyI, 512, .inl f5)), (h6, .inl (cyI, 512, .inl (fun _ => 0))), (h7, .inl (cyI, 512, .inl f7)), (h8, .inl (cyI, 512, .inl f8)), (h9, .inl (cyI, 512, .inl f9)), (h10, .inl (cyI, 512, .inl f10)), (h11, .inl (cyI, 512, .inl f11))]) E hP hD hS 2 rfl (by decide) rfl rfl dX0_node_158 (fun H locs hP hD hS => ?_)
  refine lv_aload_n hx hb dX0_node_159 rfl (lv_at hl 3 rfl) ?_
  refine x_get E iX0 hP 0 rfl rfl 1 (by decide) wq10 rfl dX0_node_160 ?_
  refine lv_iload hx hb dX0_node_163 (lv_at hl 0 rfl) ?_
  refine lv_iload_n hx hb dX0_node_165 rfl (lv_at hl 5 rfl) ?_
  refine x_iast (ws' := [(h0, .inr (0, [.ref h2, .ref h3, .ref h4, .ref h5, .ref h10, .ref h11, .ref h8, .ref h9, .ref h6, .ref h7, v0_10, .ref h1, .int 1, v0_13])), (h1, .inl (cyI, 512, .inl (fun _ => -1))), (h2, .inl (cyI, 512, .inl (upd (fun _ => 0) 0 0))), (h3, .inl (cyI, 512, .inl (upd (fun _ => 0) 0 0))), (h4, .inl (cyI, 512, .inl (fun _ => 0))), (h5, .inl (cyI, 512, .inl f5)), (h6, .inl (cyI, 512, .inl (fun _ => 0))), (h7, .inl (cyI, 512, .inl f7)), (h8, .inl (cyI, 512, .inl f8)), (h9, .inl (cyI, 512, .inl f9)), (h10, .inl (cyI, 512, .inl f10)), (h11, .inl (cyI, 512, .inl f11))]) E hP hD hS 3 rfl (by decide) rfl rfl dX0_node_166 (fun H locs hP hD hS => ?_)
  refine lv_aload_n hx hb dX0_node_167 rfl (lv_at hl 3 rfl) ?_
  refine x_get E iX0 hP 0 rfl rfl 2 (by decide) wq11 rfl dX0_node_168 ?_
  refine lv_iload hx hb dX0_node_171 (lv_at hl 0 rfl) ?_
  refine lv_iload_n hx hb dX0_node_173 rfl (lv_at hl 6 rfl) ?_
  refine x_iast (ws' := [(h0, .inr (0, [.ref h2, .ref h3, .ref h4, .ref h5, .ref h10, .ref h11, .ref h8, .ref h9, .ref h6, .ref h7, v0_10, .ref h1, .int 1, v0_13])), (h1, .inl (cyI, 512, .inl (fun _ => -1))), (h2, .inl (cyI, 512, .inl (upd (fun _ => 0) 0 0))), (h3, .inl (cyI, 512, .inl (upd (fun _ => 0) 0 0))), (h4, .inl (cyI, 512, .inl (upd (fun _ => 0) 0 0))), (h5, .inl (cyI, 512, .inl f5)), (h6, .inl (cyI, 512, .inl (fun _ => 0))), (h7, .inl (cyI, 512, .inl f7)), (h8, .inl (cyI, 512, .inl f8)), (h9, .inl (cyI, 512, .inl f9)), (h10, .inl (cyI, 512, .inl f10)), (h11, .inl (cyI, 512, .inl f11))]) E hP hD hS 4 rfl (by decide) rfl rfl dX0_node_174 (fun H locs hP hD hS => ?_)
  refine lv_aload_n hx hb dX0_node_175 rfl (lv_at hl 3 rfl) ?_
  refine x_get E iX0 hP 0 rfl rfl 3 (by decide) wq12 rfl dX0_node_176 ?_
  refine lv_iload hx hb dX0_node_179 (lv_at hl 0 rfl) ?_
  refine lv_iload hx hb dX0_node_181 (lv_at hl 7 rfl) ?_
  refine x_iast (ws' := [(h0, .inr (0, [.ref h2, .ref h3, .ref h4, .ref h5, .ref h10, .ref h11, .ref h8, .ref h9, .ref h6, .ref h7, v0_10, .ref h1, .int 1, v0_13])), (h1, .inl (cyI, 512, .inl (fun _ => -1))), (h2, .inl (cyI, 512, .inl (upd (fun _ => 0) 0 0))), (h3, .inl (cyI, 512, .inl (upd (fun _ => 0) 0 0))), (h4, .inl (cyI, 512, .inl (upd (fun _ => 0) 0 0))), (h5, .inl (cyI, 512, .inl (upd f5 0 0))), (h6, .inl (cyI, 512, .inl (fun _ => 0))), (h7, .inl (cyI, 512, .inl f7)), (h8, .inl (cyI, 512, .inl f8)), (h9, .inl (cyI, 512, .inl f9)), (h10, .inl (cyI, 512, .inl f10)), (h11, .inl (cyI, 512, .inl f11))]) E hP hD hS 5 rfl (by decide) rfl rfl dX0_node_183 (fun H locs hP hD hS => ?_)
  refine lv_aload_n hx hb dX0_node_184 rfl (lv_at hl 3 rfl) ?_
  refine x_get E iX0 hP 0 rfl rfl 8 (by decide) wq17 rfl dX0_node_185 ?_
  refine lv_iload hx hb dX0_node_188 (lv_at hl 0 rfl) ?_
  refine lv_iload hx hb dX0_node_190 (lv_at hl 2 rfl) ?_
  refine x_iast (ws' := [(h0, .inr (0, [.ref h2, .ref h3, .ref h4, .ref h5, .ref h10, .ref h11, .ref h8, .ref h9, .ref h6, .ref h7, v0_10, .ref h1, .int 1, v0_13])), (h1, .inl (cyI, 512, .inl (fun _ => -1))), (h2, .inl (cyI, 512, .inl (upd (fun _ => 0) 0 0))), (h3, .inl (cyI, 512, .inl (upd (fun _ => 0) 0 0))), (h4, .inl (cyI, 512, .inl (upd (fun _ => 0) 0 0))), (h5, .inl (cyI, 512, .inl (upd f5 0 0))), (h6, .inl (cyI, 512, .inl (upd (fun _ => 0) 0 0))), (h7, .inl (cyI, 512, .inl f7)), (h8, .inl (cyI, 512, .inl f8)), (h9, .inl (cyI, 512, .inl f9)), (h10, .inl (cyI, 512, .inl f10)), (h11, .inl (cyI, 512, .inl f11))]) E hP hD hS 6 rfl (by decide) rfl rfl dX0_node_192 (fun H locs hP hD hS => ?_)
  refine lv_aload_n hx hb dX0_node_193 rfl (lv_at hl 3 rfl) ?_
  refine lv_iload hx hb dX0_node_194 (lv_at hl 0 rfl) ?_
  refine x_Vv (rest := []) (ws' := fun _ => [(h2, .inl (cyI, 512, .inl (upd (fun _ => 0) 0 0))), (h3, .inl (cyI, 512, .inl (upd (fun _ => 0) 0 0))), (h4, .inl (cyI, 512, .inl (upd (fun _ => 0) 0 0))), (h5, .inl (cyI, 512, .inl (upd f5 0 0))), (h8, .inl (cyI, 512, .inl f8)), (h9, .inl (cyI, 512, .inl f9)), (h10, .inl (cyI, 512, .inl f10)), (h11, .inl (cyI, 512, .inl f11)), (h0, .inr (0, [.ref h2, .ref h3, .ref h4, .ref h5, .ref h10, .ref h11, .ref h8, .ref h9, .ref h6, .ref h7, v0_10, .ref h1, .int 1, v0_13])), (h6, .inl (cyI, 512, .inl (upd (fun _ => 0) 0 0))), (h1, .inl (cyI, 512, .inl (upd (fun _ => -1) 0 0))), (h7, .inl (cyI, 512, .inl (upd f7 0 (-1))))]) (wr := [(h2, .inl (cyI, 512, .inl (upd (fun _ => 0) 0 0))), (h3, .inl (cyI, 512, .inl (upd (fun _ => 0) 0 0))), (h4, .inl (cyI, 512, .inl (upd (fun _ => 0) 0 0))), (h5, .inl (cyI, 512, .inl (upd f5 0 0))), (h8, .inl (cyI, 512, .inl f8)), (h9, .inl (cyI, 512, .inl f9)), (h10, .inl (cyI, 512, .inl f10)), (h11, .inl (cyI, 512, .inl f11))]) E (mX0_link l D cyI cyJ Z h0 h6 h1 h7 (.ref h2) (.ref h3) (.ref h4) (.ref h5) (.ref h10) (.ref h11) (.ref h8) (.ref h9) v0_10 (.int 1) v0_13 f7) kX0_link wq24 wq25 wq26 ⟨rfl, rfl, Nat.le_of_ble_eq_true rfl, Nat.le_of_ble_eq_true rfl⟩ hP hD hS hA [0, 6, 1, 7] [2, 3, 4, 5, 8, 9, 10, 11] rfl rfl (by decide) (fun _ => rfl) 0 rfl rfl rfl hl.1 rfl (Nat.le_of_ble_eq_true rfl) dX0_node_196 ⟨rfl, rfl⟩ ⟨Nat.le_of_ble_eq_true rfl, Nat.le_of_ble_eq_true rfl⟩ (fun _ H locs hP hD hS => ?_)
  refine lv_aload_n hx hb dX0_node_199 rfl (lv_at hl 3 rfl) ?_
  refine lv_iload hx hb dX0_node_200 (lv_at hl 0 rfl) ?_
  refine x_Vv (rest := []) (ws' := fun _ => [(h5, .inl (cyI, 512, .inl (upd f5 0 0))), (h6, .inl (cyI, 512, .inl (upd (fun _ => 0) 0 0))), (h1, .inl (cyI, 512, .inl (upd (fun _ => -1) 0 0))), (h7, .inl (cyI, 512, .inl (upd f7 0 (-1)))), (h0, .inr (0, [.ref h2, .ref h3, .ref h4, .ref h5, .ref h10, .ref h11, .ref h8, .ref h9, .ref h6, .ref h7, v0_10, .ref h1, .int 1, v0_13])), (h4, .inl (cyI, 512, .inl (upd (fun _ => 0) 0 0))), (h3, .inl (cyI, 512, .inl (upd (fun _ => 0) 0 0))), (h2, .inl (cyI, 512, .inl (upd (fun _ => 0) 0 0))), (h8, .inl (cyI, 512, .inl (upd f8 0 0))), (h9, .inl (cyI, 512, .inl (upd f9 0 0))), (h10, .inl (cyI, 512, .inl (upd (upd f10 0 1) 0 0))), (h11, .inl (cyI, 512, .inl (upd f11 0 0)))]) (wr := [(h5, .inl (cyI, 512, .inl (upd f5 0 0))), (h6, .inl (cyI, 512, .inl (upd (fun _ => 0) 0 0))), (h1, .inl (cyI, 512, .inl (upd (fun _ => -1) 0 0))), (h7, .inl (cyI, 512, .inl (upd f7 0 (-1))))]) E (mX0_measure l D cyI cyJ Z h0 h4 h3 h2 h8 h9 h10 h11 (.ref h5) (.ref h6) (.ref h7) v0_10 (.ref h1) (.int 1) v0_13 f8 f9 f10 f11) kX0_measure wq27 wq28 wq29 ⟨rfl, rfl, Nat.le_of_ble_eq_true rfl, Nat.le_of_ble_eq_true rfl⟩ hP hD hS hA [8, 2, 1, 0, 4, 5, 6, 7] [3, 9, 10, 11] rfl rfl (by decide) (fun _ => rfl) 8 rfl rfl rfl hl.1 rfl (Nat.le_of_ble_eq_true rfl) dX0_node_202 ⟨rfl, rfl⟩ ⟨Nat.le_of_ble_eq_true rfl, Nat.le_of_ble_eq_true rfl⟩ (fun _ H locs hP hD hS => ?_)
  refine lv_iload hx hb dX0_node_205 (lv_at hl 0 rfl) ?_
  exact x_iret E hr hlk hP hD hS () rfl [4, 2, 7, 6, 5, 0, 1, 3, 8, 9, 10, 11] (by decide) rfl rfl dX0_node_207

set_option maxHeartbeats 4000000 in
set_option maxRecDepth 100000 in
theorem mX0_link_1 (l : Launch) (D : va_G) (cyI cyJ : ClassId) (Z : xZ) (h0 : Nat) (h1 : Nat) (h2 : Nat) (h3 : Nat) (v0_0 : Value) (v0_1 : Value) (v0_2 : Value) (v0_3 : Value) (v0_4 : Value) (v0_5 : Value) (v0_6 : Value) (v0_7 : Value) (v0_10 : Value) (v0_12 : Value) (v0_13 : Value) (f3 : Nat → Int32) : MetV l yX0_link (Cond.code yX0_link cX0_link 3 none) { frames := 0, cells := 0, slots := 0, locals := 0 } D cyI cyJ Z [.ref h0, .int 1] [(h0, .inr (0, [v0_0, v0_1, v0_2, v0_3, v0_4, v0_5, v0_6, v0_7, .ref h1, .ref h3, v0_10, .ref h2, v0_12, v0_13])), (h1, .inl (cyI, 512, .inl (upd (upd (fun _ => 0) 0 0) 1 248155107))), (h2, .inl (cyI, 512, .inl (upd (fun _ => -1) 0 0))), (h3, .inl (cyI, 512, .inl f3))] (fun _ : Unit => ([(h0, .inr (0, [v0_0, v0_1, v0_2, v0_3, v0_4, v0_5, v0_6, v0_7, .ref h1, .ref h3, v0_10, .ref h2, v0_12, v0_13])), (h1, .inl (cyI, 512, .inl (upd (upd (fun _ => 0) 0 0) 1 248155107))), (h2, .inl (cyI, 512, .inl (upd (upd (fun _ => -1) 0 0) 483 1))), (h3, .inl (cyI, 512, .inl (upd f3 1 (-1))))] : va_W)) 0 0 := by
  refine met_v (by decide) rfl ?_
  intro p e s m below meth c A ls E hr hlk hnm hP hD hA hl
  have hS : va_S A s.heap s.heap [] := va_S.rf
  have hx := E.1.1
  have hb := E.1.2.1
  have hl : lv_has ls 3 [(0, .ref h0), (1, .int 1)] := hl
  refine lv_aload_n hx hb dX0_link_0 rfl (lv_at hl 0 rfl) ?_
  refine x_get E iX0 hP 0 rfl rfl 8 (by decide) wq17 rfl dX0_link_1 ?_
  refine lv_iload_n hx hb dX0_link_4 rfl (lv_at hl 1 rfl) ?_
  refine x_iald (v := 248155107) E hP 1 rfl (by decide) rfl dX0_link_5 ?_
  refine lv_aload_n hx hb dX0_link_6 rfl (lv_at hl 0 rfl) ?_
  refine x_get E iX0 hP 0 rfl rfl 11 (by decide) wq20 rfl dX0_link_7 ?_
  refine x_alen (v := 512) E hP 2 rfl (by decide) dX0_link_10 ?_
  refine lv_iconst (v := 1) hx hb dX0_link_11 (by decide) ?_
  refine lv_isub hx hb dX0_link_12 ?_
  refine x_topi (z := 511) (by decide) ?_
  refine lv_iand hx hb dX0_link_13 ?_
  refine x_topi (z := 483) (by decide) ?_
  refine lv_istore_n (lv' := [(2, .int 483), (0, .ref h0), (1, .int 1)]) hx hb dX0_link_14 rfl hl (by decide) rfl (fun ls hl => ?_)
  refine lv_aload_n hx hb dX0_link_15 rfl (lv_at hl 1 rfl) ?_
  refine x_get E iX0 hP 0 rfl rfl 9 (by decide) wq18 rfl dX0_link_16 ?_
  refine lv_iload_n hx hb dX0_link_19 rfl (lv_at hl 2 rfl) ?_
  refine lv_aload_n hx hb dX0_link_20 rfl (lv_at hl 1 rfl) ?_
  refine x_get E iX0 hP 0 rfl rfl 11 (by decide) wq20 rfl dX0_link_21 ?_
  refine lv_iload_n hx hb dX0_link_24 rfl (lv_at hl 0 rfl) ?_
  refine x_iald (v := (-1)) E hP 2 rfl (by decide) rfl dX0_link_25 ?_
  refine x_iast (ws' := [(h0, .inr (0, [v0_0, v0_1, v0_2, v0_3, v0_4, v0_5, v0_6, v0_7, .ref h1, .ref h3, v0_10, .ref h2, v0_12, v0_13])), (h1, .inl (cyI, 512, .inl (upd (upd (fun _ => 0) 0 0) 1 248155107))), (h2, .inl (cyI, 512, .inl (upd (fun _ => -1) 0 0))), (h3, .inl (cyI, 512, .inl (upd f3 1 (-1))))]) E hP hD hS 3 rfl (by decide) rfl rfl dX0_link_26 (fun H locs hP hD hS => ?_)
  refine lv_aload_n hx hb dX0_link_27 rfl (lv_at hl 1 rfl) ?_
  refine x_get E iX0 hP 0 rfl rfl 11 (by decide) wq20 rfl dX0_link_28 ?_
  refine lv_iload_n hx hb dX0_link_31 rfl (lv_at hl 0 rfl) ?_
  refine lv_iload_n hx hb dX0_link_32 rfl (lv_at hl 2 rfl) ?_
  refine x_iast (ws' := [(h0, .inr (0, [v0_0, v0_1, v0_2, v0_3, v0_4, v0_5, v0_6, v0_7, .ref h1, .ref h3, v0_10, .ref h2, v0_12, v0_13])), (h1, .inl (cyI, 512, .inl (upd (upd (fun _ => 0) 0 0) 1 248155107))), (h2, .inl (cyI, 512, .inl (upd (upd (fun _ => -1) 0 0) 483 1))), (h3, .inl (cyI, 512, .inl (upd f3 1 (-1))))]) E hP hD hS 2 rfl (by decide) rfl rfl dX0_link_33 (fun H locs hP hD hS => ?_)
  exact x_vret E hr hlk hP hD hS () [0, 1, 2, 3] (by decide) rfl dX0_link_34

set_option maxHeartbeats 4000000 in
set_option maxRecDepth 100000 in
theorem mX0_measure_1 (l : Launch) (D : va_G) (cyI cyJ : ClassId) (Z : xZ) (h0 : Nat) (h1 : Nat) (h2 : Nat) (h3 : Nat) (h4 : Nat) (h5 : Nat) (h6 : Nat) (h7 : Nat) (v0_3 : Value) (v0_8 : Value) (v0_9 : Value) (v0_10 : Value) (v0_11 : Value) (v0_12 : Value) (v0_13 : Value) (f4 : Nat → Int32) (f5 : Nat → Int32) (f6 : Nat → Int32) (f7 : Nat → Int32) : MetV l yX0_measure (Cond.code yX0_measure cX0_measure 6 none) { frames := 0, cells := 0, slots := 0, locals := 0 } D cyI cyJ Z [.ref h0, .int 1] [(h0, .inr (0, [.ref h3, .ref h2, .ref h1, v0_3, .ref h6, .ref h7, .ref h4, .ref h5, v0_8, v0_9, v0_10, v0_11, v0_12, v0_13])), (h1, .inl (cyI, 512, .inl (upd (upd (fun _ => 0) 0 0) 1 111))), (h2, .inl (cyI, 512, .inl (upd (upd (fun _ => 0) 0 0) 1 0))), (h3, .inl (cyI, 512, .inl (upd (upd (fun _ => 0) 0 0) 1 1))), (h4, .inl (cyI, 512, .inl f4)), (h5, .inl (cyI, 512, .inl f5)), (h6, .inl (cyI, 512, .inl f6)), (h7, .inl (cyI, 512, .inl f7))] (fun _ : Unit => ([(h0, .inr (0, [.ref h3, .ref h2, .ref h1, v0_3, .ref h6, .ref h7, .ref h4, .ref h5, v0_8, v0_9, v0_10, v0_11, v0_12, v0_13])), (h1, .inl (cyI, 512, .inl (upd (upd (fun _ => 0) 0 0) 1 111))), (h2, .inl (cyI, 512, .inl (upd (upd (fun _ => 0) 0 0) 1 0))), (h3, .inl (cyI, 512, .inl (upd (upd (fun _ => 0) 0 0) 1 1))), (h4, .inl (cyI, 512, .inl (upd f4 1 0))), (h5, .inl (cyI, 512, .inl (upd f5 1 0))), (h6, .inl (cyI, 512, .inl (upd f6 1 1))), (h7, .inl (cyI, 512, .inl (upd f7 1 0)))] : va_W)) 0 0 := by
  refine met_v (by decide) rfl ?_
  intro p e s m below meth c A ls E hr hlk hnm hP hD hA hl
  have hS : va_S A s.heap s.heap [] := va_S.rf
  have hx := E.1.1
  have hb := E.1.2.1
  have hl : lv_has ls 6 [(0, .ref h0), (1, .int 1)] := hl
  refine lv_aload_n hx hb dX0_measure_0 rfl (lv_at hl 0 rfl) ?_
  refine x_get E iX0 hP 0 rfl rfl 2 (by decide) wq11 rfl dX0_measure_1 ?_
  refine lv_iload_n hx hb dX0_measure_4 rfl (lv_at hl 1 rfl) ?_
  refine x_iald (v := 111) E hP 1 rfl (by decide) rfl dX0_measure_5 ?_
  refine lv_istore_n (lv' := [(2, .int 111), (0, .ref h0), (1, .int 1)]) hx hb dX0_measure_6 rfl hl (by decide) rfl (fun ls hl => ?_)
  refine lv_aload_n hx hb dX0_measure_7 rfl (lv_at hl 1 rfl) ?_
  refine x_get E iX0 hP 0 rfl rfl 1 (by decide) wq10 rfl dX0_measure_8 ?_
  refine lv_iload_n hx hb dX0_measure_11 rfl (lv_at hl 2 rfl) ?_
  refine x_iald (v := 0) E hP 2 rfl (by decide) rfl dX0_measure_12 ?_
  refine lv_if_lt (tgt := 35) hx hb dX0_measure_13 (by decide) (fun c9 => absurd c9 (by decide)) (fun c9 => ?_)
  refine lv_aload_n hx hb dX0_measure_16 rfl (lv_at hl 1 rfl) ?_
  refine x_get E iX0 hP 0 rfl rfl 1 (by decide) wq10 rfl dX0_measure_17 ?_
  refine lv_iload_n hx hb dX0_measure_20 rfl (lv_at hl 2 rfl) ?_
  refine x_iald (v := 0) E hP 2 rfl (by decide) rfl dX0_measure_21 ?_
  refine lv_iload_n hx hb dX0_measure_22 rfl (lv_at hl 2 rfl) ?_
  refine lv_icmp_ge (tgt := 35) hx hb dX0_measure_23 (by decide) (fun c9 => absurd c9 (by decide)) (fun c9 => ?_)
  refine lv_aload_n hx hb dX0_measure_26 rfl (lv_at hl 1 rfl) ?_
  refine x_get E iX0 hP 0 rfl rfl 1 (by decide) wq10 rfl dX0_measure_27 ?_
  refine lv_iload_n hx hb dX0_measure_30 rfl (lv_at hl 2 rfl) ?_
  refine x_iald (v := 0) E hP 2 rfl (by decide) rfl dX0_measure_31 ?_
  refine lv_goto (tgt := 36) hx hb dX0_measure_32 (by decide) ?_
  refine lv_istore_n (lv' := [(3, .int 0), (2, .int 111), (0, .ref h0), (1, .int 1)]) hx hb dX0_measure_36 rfl hl (by decide) rfl (fun ls hl => ?_)
  refine lv_iload_n hx hb dX0_measure_37 rfl (lv_at hl 1 rfl) ?_
  refine lv_if_lt (tgt := 50) hx hb dX0_measure_38 (by decide) (fun c9 => absurd c9 (by decide)) (fun c9 => ?_)
  refine lv_iload_n hx hb dX0_measure_41 rfl (lv_at hl 1 rfl) ?_
  refine lv_iload_n hx hb dX0_measure_42 rfl (lv_at hl 3 rfl) ?_
  refine lv_icmp_ge (tgt := 50) hx hb dX0_measure_43 (by decide) (fun c9 => ?_) (fun c9 => absurd (by decide) c9)
  refine lv_iconst (v := 0) hx hb dX0_measure_50 (by decide) ?_
  refine lv_istore (lv' := [(4, .int 0), (3, .int 0), (2, .int 111), (0, .ref h0), (1, .int 1)]) hx hb dX0_measure_51 hl (by decide) rfl (fun ls hl => ?_)
  refine lv_aload_n hx hb dX0_measure_53 rfl (lv_at hl 3 rfl) ?_
  refine x_get E iX0 hP 0 rfl rfl 0 (by decide) wq9 rfl dX0_measure_54 ?_
  refine lv_iload_n hx hb dX0_measure_57 rfl (lv_at hl 4 rfl) ?_
  refine x_iald (v := 1) E hP 3 rfl (by decide) rfl dX0_measure_58 ?_
  refine lv_bipush (v := 7) hx hb dX0_measure_59 (by decide) ?_
  refine lv_icmp_lt (tgt := 68) hx hb dX0_measure_61 (by decide) (fun c9 => ?_) (fun c9 => absurd (by decide) c9)
  refine lv_iconst (v := 0) hx hb dX0_measure_68 (by decide) ?_
  refine lv_istore (lv' := [(5, .int 0), (4, .int 0), (3, .int 0), (2, .int 111), (0, .ref h0), (1, .int 1)]) hx hb dX0_measure_69 hl (by decide) rfl (fun ls hl => ?_)
  refine lv_aload_n hx hb dX0_measure_71 rfl (lv_at hl 4 rfl) ?_
  refine x_get E iX0 hP 0 rfl rfl 6 (by decide) wq15 rfl dX0_measure_72 ?_
  refine lv_iload_n hx hb dX0_measure_75 rfl (lv_at hl 5 rfl) ?_
  refine lv_iload hx hb dX0_measure_76 (lv_at hl 0 rfl) ?_
  refine lv_if_eq (tgt := 98) hx hb dX0_measure_78 (by decide) (fun c9 => ?_) (fun c9 => absurd (by decide) c9)
  refine lv_iconst (v := 0) hx hb dX0_measure_98 (by decide) ?_
  refine x_iast (ws' := [(h0, .inr (0, [.ref h3, .ref h2, .ref h1, v0_3, .ref h6, .ref h7, .ref h4, .ref h5, v0_8, v0_9, v0_10, v0_11, v0_12, v0_13])), (h1, .inl (cyI, 512, .inl (upd (upd (fun _ => 0) 0 0) 1 111))), (h2, .inl (cyI, 512, .inl (upd (upd (fun _ => 0) 0 0) 1 0))), (h3, .inl (cyI, 512, .inl (upd (upd (fun _ => 0) 0 0) 1 1))), (h4, .inl (cyI, 512, .inl (upd f4 1 0))), (h5, .inl (cyI, 512, .inl f5)), (h6, .inl (cyI, 512, .inl f6)), (h7, .inl (cyI, 512, .inl f7))]) E hP hD hS 4 rfl (by decide) rfl rfl dX0_measure_99 (fun H locs hP hD hS => ?_)
  refine lv_aload_n hx hb dX0_measure_100 rfl (lv_at hl 4 rfl) ?_
  refine x_get E iX0 hP 0 rfl rfl 7 (by decide) wq16 rfl dX0_measure_101 ?_
  refine lv_iload_n hx hb dX0_measure_104 rfl (lv_at hl 5 rfl) ?_
  refine lv_iload hx hb dX0_measure_105 (lv_at hl 0 rfl) ?_
  refine lv_if_eq (tgt := 127) hx hb dX0_measure_107 (by decide) (fun c9 => ?_) (fun c9 => absurd (by decide) c9)
  refine lv_iconst (v := 0) hx hb dX0_measure_127 (by decide) ?_
  refine x_iast (ws' := [(h0, .inr (0, [.ref h3, .ref h2, .ref h1, v0_3, .ref h6, .ref h7, .ref h4, .ref h5, v0_8, v0_9, v0_10, v0_11, v0_12, v0_13])), (h1, .inl (cyI, 512, .inl (upd (upd (fun _ => 0) 0 0) 1 111))), (h2, .inl (cyI, 512, .inl (upd (upd (fun _ => 0) 0 0) 1 0))), (h3, .inl (cyI, 512, .inl (upd (upd (fun _ => 0) 0 0) 1 1))), (h4, .inl (cyI, 512, .inl (upd f4 1 0))), (h5, .inl (cyI, 512, .inl (upd f5 1 0))), (h6, .inl (cyI, 512, .inl f6)), (h7, .inl (cyI, 512, .inl f7))]) E hP hD hS 5 rfl (by decide) rfl rfl dX0_measure_128 (fun H locs hP hD hS => ?_)
  refine lv_aload_n hx hb dX0_measure_129 rfl (lv_at hl 4 rfl) ?_
  refine x_get E iX0 hP 0 rfl rfl 4 (by decide) wq13 rfl dX0_measure_130 ?_
  refine lv_iload_n hx hb dX0_measure_133 rfl (lv_at hl 5 rfl) ?_
  refine lv_iconst (v := 1) hx hb dX0_measure_134 (by decide) ?_
  refine x_iast (ws' := [(h0, .inr (0, [.ref h3, .ref h2, .ref h1, v0_3, .ref h6, .ref h7, .ref h4, .ref h5, v0_8, v0_9, v0_10, v0_11, v0_12, v0_13])), (h1, .inl (cyI, 512, .inl (upd (upd (fun _ => 0) 0 0) 1 111))), (h2, .inl (cyI, 512, .inl (upd (upd (fun _ => 0) 0 0) 1 0))), (h3, .inl (cyI, 512, .inl (upd (upd (fun _ => 0) 0 0) 1 1))), (h4, .inl (cyI, 512, .inl (upd f4 1 0))), (h5, .inl (cyI, 512, .inl (upd f5 1 0))), (h6, .inl (cyI, 512, .inl (upd f6 1 1))), (h7, .inl (cyI, 512, .inl f7))]) E hP hD hS 6 rfl (by decide) rfl rfl dX0_measure_135 (fun H locs hP hD hS => ?_)
  refine lv_aload_n hx hb dX0_measure_136 rfl (lv_at hl 4 rfl) ?_
  refine x_get E iX0 hP 0 rfl rfl 5 (by decide) wq14 rfl dX0_measure_137 ?_
  refine lv_iload_n hx hb dX0_measure_140 rfl (lv_at hl 5 rfl) ?_
  refine lv_iconst (v := 0) hx hb dX0_measure_141 (by decide) ?_
  refine x_iast (ws' := [(h0, .inr (0, [.ref h3, .ref h2, .ref h1, v0_3, .ref h6, .ref h7, .ref h4, .ref h5, v0_8, v0_9, v0_10, v0_11, v0_12, v0_13])), (h1, .inl (cyI, 512, .inl (upd (upd (fun _ => 0) 0 0) 1 111))), (h2, .inl (cyI, 512, .inl (upd (upd (fun _ => 0) 0 0) 1 0))), (h3, .inl (cyI, 512, .inl (upd (upd (fun _ => 0) 0 0) 1 1))), (h4, .inl (cyI, 512, .inl (upd f4 1 0))), (h5, .inl (cyI, 512, .inl (upd f5 1 0))), (h6, .inl (cyI, 512, .inl (upd f6 1 1))), (h7, .inl (cyI, 512, .inl (upd f7 1 0)))]) E hP hD hS 7 rfl (by decide) rfl rfl dX0_measure_142 (fun H locs hP hD hS => ?_)
  refine lv_aload_n hx hb dX0_measure_143 rfl (lv_at hl 4 rfl) ?_
  refine x_get E iX0 hP 0 rfl rfl 0 (by decide) wq9 rfl dX0_measure_144 ?_
  refine lv_iload_n hx hb dX0_measure_147 rfl (lv_at hl 5 rfl) ?_
  refine x_iald (v := 1) E hP 3 rfl (by decide) rfl dX0_measure_148 ?_
  refine lv_tableIn (tgt := 400) (off := 251) hx hb dX0_measure_149 (by decide) (by decide) (by decide) (by decide) ?_
  exact x_vret E hr hlk hP hD hS () [0, 1, 2, 3, 4, 5, 6, 7] (by decide) rfl dX0_measure_400

set_option maxHeartbeats 4000000 in
set_option maxRecDepth 100000 in
theorem mX0_node_1 (l : Launch) (D : va_G) (cyI cyJ : ClassId) (Z : xZ) (h0 : Nat) (h1 : Nat) (h2 : Nat) (h3 : Nat) (h4 : Nat) (h5 : Nat) (h6 : Nat) (h7 : Nat) (h8 : Nat) (h9 : Nat) (h10 : Nat) (h11 : Nat) (v0_10 : Value) (v0_13 : Value) (f5 : Nat → Int32) (f7 : Nat → Int32) (f8 : Nat → Int32) (f9 : Nat → Int32) (f10 : Nat → Int32) (f11 : Nat → Int32) : MetI l yX0_node (Cond.code yX0_node cX0_node 8 (some .int)) { frames := 1, cells := 0, slots := 0, locals := 25 } D cyI cyJ Z [.ref h0, .int 1, .int 0, .int 111, .int 0] [(h0, .inr (0, [.ref h2, .ref h3, .ref h4, .ref h5, .ref h10, .ref h11, .ref h8, .ref h9, .ref h6, .ref h7, v0_10, .ref h1, .int 1, v0_13])), (h1, .inl (cyI, 512, .inl (upd (fun _ => -1) 0 0))), (h2, .inl (cyI, 512, .inl (upd (fun _ => 0) 0 0))), (h3, .inl (cyI, 512, .inl (upd (fun _ => 0) 0 0))), (h4, .inl (cyI, 512, .inl (upd (fun _ => 0) 0 0))), (h5, .inl (cyI, 512, .inl f5)), (h6, .inl (cyI, 512, .inl (upd (fun _ => 0) 0 0))), (h7, .inl (cyI, 512, .inl f7)), (h8, .inl (cyI, 512, .inl f8)), (h9, .inl (cyI, 512, .inl f9)), (h10, .inl (cyI, 512, .inl f10)), (h11, .inl (cyI, 512, .inl f11))] (fun _ : Unit => 1) (fun _ : Unit => ([(h0, .inr (0, [.ref h2, .ref h3, .ref h4, .ref h5, .ref h10, .ref h11, .ref h8, .ref h9, .ref h6, .ref h7, v0_10, .ref h1, .int 2, v0_13])), (h1, .inl (cyI, 512, .inl (upd (upd (fun _ => -1) 0 0) 483 1))), (h2, .inl (cyI, 512, .inl (upd (upd (fun _ => 0) 0 0) 1 1))), (h3, .inl (cyI, 512, .inl (upd (upd (fun _ => 0) 0 0) 1 0))), (h4, .inl (cyI, 512, .inl (upd (upd (fun _ => 0) 0 0) 1 111))), (h5, .inl (cyI, 512, .inl (upd f5 1 0))), (h6, .inl (cyI, 512, .inl (upd (upd (fun _ => 0) 0 0) 1 248155107))), (h7, .inl (cyI, 512, .inl (upd f7 1 (-1)))), (h8, .inl (cyI, 512, .inl (upd f8 1 0))), (h9, .inl (cyI, 512, .inl (upd f9 1 0))), (h10, .inl (cyI, 512, .inl (upd f10 1 1))), (h11, .inl (cyI, 512, .inl (upd f11 1 0)))] : va_W)) 0 0 := by
  refine met_i (by decide) rfl ?_
  intro p e s m below meth c A ls E hr hlk hP hD hA hl
  have hS : va_S A s.heap s.heap [] := va_S.rf
  have hx := E.1.1
  have hb := E.1.2.1
  have hl : lv_has ls 8 [(0, .ref h0), (1, .int 1), (2, .int 0), (3, .int 111), (4, .int 0)] := hl
  refine lv_iload_n hx hb dX0_node_0 rfl (lv_at hl 1 rfl) ?_
  refine lv_sipush (v := 7919) hx hb dX0_node_1 (by decide) ?_
  refine lv_imul hx hb dX0_node_4 ?_
  refine x_topi (z := 7919) (by decide) ?_
  refine lv_iload_n hx hb dX0_node_5 rfl (lv_at hl 2 rfl) ?_
  refine lv_iadd hx hb dX0_node_6 ?_
  refine x_topi (z := 7919) (by decide) ?_
  refine lv_sipush (v := 31337) hx hb dX0_node_7 (by decide) ?_
  refine lv_imul hx hb dX0_node_10 ?_
  refine x_topi (z := 248157703) (by decide) ?_
  refine lv_iload_n hx hb dX0_node_11 rfl (lv_at hl 3 rfl) ?_
  refine lv_iadd hx hb dX0_node_12 ?_
  refine x_topi (z := 248157814) (by decide) ?_
  refine lv_istore (lv' := [(5, .int 248157814), (0, .ref h0), (1, .int 1), (2, .int 0), (3, .int 111), (4, .int 0)]) hx hb dX0_node_13 hl (by decide) rfl (fun ls hl => ?_)
  refine lv_iload hx hb dX0_node_15 (lv_at hl 0 rfl) ?_
  refine lv_iload hx hb dX0_node_17 (lv_at hl 0 rfl) ?_
  refine lv_bipush (v := 15) hx hb dX0_node_19 (by decide) ?_
  refine lv_iushr (v := 7573) hx hb dX0_node_21 (by decide) ?_
  refine lv_ixor hx hb dX0_node_22 ?_
  refine x_topi (z := 248155107) (by decide) ?_
  refine lv_istore (lv' := [(5, .int 248155107), (0, .ref h0), (1, .int 1), (2, .int 0), (3, .int 111), (4, .int 0)]) hx hb dX0_node_23 hl (by decide) rfl (fun ls hl => ?_)
  refine lv_aload_n hx hb dX0_node_25 rfl (lv_at hl 1 rfl) ?_
  refine x_get E iX0 hP 0 rfl rfl 11 (by decide) wq20 rfl dX0_node_26 ?_
  refine lv_iload hx hb dX0_node_29 (lv_at hl 0 rfl) ?_
  refine lv_aload_n hx hb dX0_node_31 rfl (lv_at hl 1 rfl) ?_
  refine x_get E iX0 hP 0 rfl rfl 11 (by decide) wq20 rfl dX0_node_32 ?_
  refine x_alen (v := 512) E hP 1 rfl (by decide) dX0_node_35 ?_
  refine lv_iconst (v := 1) hx hb dX0_node_36 (by decide) ?_
  refine lv_isub hx hb dX0_node_37 ?_
  refine x_topi (z := 511) (by decide) ?_
  refine lv_iand hx hb dX0_node_38 ?_
  refine x_topi (z := 483) (by decide) ?_
  refine x_iald (v := (-1)) E hP 1 rfl (by decide) rfl dX0_node_39 ?_
  refine lv_istore (lv' := [(6, .int (-1)), (5, .int 248155107), (0, .ref h0), (1, .int 1), (2, .int 0), (3, .int 111), (4, .int 0)]) hx hb dX0_node_40 hl (by decide) rfl (fun ls hl => ?_)
  refine lv_iconst (v := 0) hx hb dX0_node_42 (by decide) ?_
  refine lv_istore (lv' := [(7, .int 0), (6, .int (-1)), (5, .int 248155107), (0, .ref h0), (1, .int 1), (2, .int 0), (3, .int 111), (4, .int 0)]) hx hb dX0_node_43 hl (by decide) rfl (fun ls hl => ?_)
  refine lv_iload hx hb dX0_node_45 (lv_at hl 0 rfl) ?_
  refine lv_aload_n hx hb dX0_node_47 rfl (lv_at hl 3 rfl) ?_
  refine x_get E iX0 hP 0 rfl rfl 12 (by decide) wq23 rfl dX0_node_48 ?_
  refine lv_icmp_ge (tgt := 119) hx hb dX0_node_51 (by decide) (fun c9 => absurd c9 (by decide)) (fun c9 => ?_)
  refine lv_iload hx hb dX0_node_54 (lv_at hl 1 rfl) ?_
  refine lv_if_lt (tgt := 119) hx hb dX0_node_56 (by decide) (fun c9 => ?_) (fun c9 => absurd (by decide) c9)
  refine lv_aload_n hx hb dX0_node_119 rfl (lv_at hl 3 rfl) ?_
  refine x_get E iX0 hP 0 rfl rfl 12 (by decide) wq23 rfl dX0_node_120 ?_
  refine lv_aload_n hx hb dX0_node_123 rfl (lv_at hl 3 rfl) ?_
  refine x_get E iX0 hP 0 rfl rfl 0 (by decide) wq9 rfl dX0_node_124 ?_
  refine x_alen (v := 512) E hP 2 rfl (by decide) dX0_node_127 ?_
  refine lv_icmp_lt (tgt := 135) hx hb dX0_node_128 (by decide) (fun c9 => ?_) (fun c9 => absurd (by decide) c9)
  refine lv_aload_n hx hb dX0_node_135 rfl (lv_at hl 3 rfl) ?_
  refine x_get E iX0 hP 0 rfl rfl 12 (by decide) wq23 rfl dX0_node_136 ?_
  refine lv_istore (lv' := [(7, .int 1), (6, .int (-1)), (5, .int 248155107), (0, .ref h0), (1, .int 1), (2, .int 0), (3, .int 111), (4, .int 0)]) hx hb dX0_node_139 hl (by decide) rfl (fun ls hl => ?_)
  refine lv_aload_n hx hb dX0_node_141 rfl (lv_at hl 3 rfl) ?_
  refine lv_dup hx hb dX0_node_142 rfl ?_
  refine x_get E iX0 hP 0 rfl rfl 12 (by decide) wq23 rfl dX0_node_143 ?_
  refine lv_iconst (v := 1) hx hb dX0_node_146 (by decide) ?_
  refine lv_iadd hx hb dX0_node_147 ?_
  refine x_topi (z := 2) (by decide) ?_
  refine x_put (ws' := [(h0, .inr (0, [.ref h2, .ref h3, .ref h4, .ref h5, .ref h10, .ref h11, .ref h8, .ref h9, .ref h6, .ref h7, v0_10, .ref h1, .int 2, v0_13])), (h1, .inl (cyI, 512, .inl (upd (fun _ => -1) 0 0))), (h2, .inl (cyI, 512, .inl (upd (fun _ => 0) 0 0))), (h3, .inl (cyI, 512, .inl (upd (fun _ => 0) 0 0))), (h4, .inl (cyI, 512, .inl (upd (fun _ => 0) 0 0))), (h5, .inl (cyI, 512, .inl f5)), (h6, .inl (cyI, 512, .inl (upd (fun _ => 0) 0 0))), (h7, .inl (cyI, 512, .inl f7)), (h8, .inl (cyI, 512, .inl f8)), (h9, .inl (cyI, 512, .inl f9)), (h10, .inl (cyI, 512, .inl f10)), (h11, .inl (cyI, 512, .inl f11))]) E iX0 tyX0 tyX0_ok nmX0 hP hD hS 0 rfl rfl 12 (by decide) wq23 rfl rfl rfl rfl rfl dX0_node_148 (fun H locs hP hD hS => ?_)
  refine lv_aload_n hx hb dX0_node_151 rfl (lv_at hl 3 rfl) ?_
  refine x_get E iX0 hP 0 rfl rfl 0 (by decide) wq9 rfl dX0_node_152 ?_
  refine lv_iload hx hb dX0_node_155 (lv_at hl 0 rfl) ?_
  refine lv_iload_n hx hb dX0_node_157 rfl (lv_at hl 4 rfl) ?_
  refine x_iast (ws' := [(h0, .inr (0, [.ref h2, .ref h3, .ref h4, .ref h5, .ref h10, .ref h11, .ref h8, .ref h9, .ref h6, .ref h7, v0_10, .ref h1, .int 2, v0_13])), (h1, .inl (cyI, 512, .inl (upd (fun _ => -1) 0 0))), (h2, .inl (cyI, 512, .inl (upd (upd (fun _ => 0) 0 0) 1 1))), (h3, .inl (cyI, 512, .inl (upd (fun _ => 0) 0 0))), (h4, .inl (cyI, 512, .inl (upd (fun _ => 0) 0 0))), (h5, .inl (cyI, 512, .inl f5)), (h6, .inl (cyI, 512, .inl (upd (fun _ => 0) 0 0))), (h7, .inl (cyI, 512, .inl f7)), (h8, .inl (cyI, 512, .inl f8)), (h9, .inl (cyI, 512, .inl f9)), (h10, .inl (cyI, 512, .inl f10)), (h11, .inl (cyI, 512, .inl f11))]) E hP hD hS 2 rfl (by decide) rfl rfl dX0_node_158 (fun H locs hP hD hS => ?_)
  refine lv_aload_n hx hb dX0_node_159 rfl (lv_at hl 3 rfl) ?_
  refine x_get E iX0 hP 0 rfl rfl 1 (by decide) wq10 rfl dX0_node_160 ?_
  refine lv_iload hx hb dX0_node_163 (lv_at hl 0 rfl) ?_
  refine lv_iload_n hx hb dX0_node_165 rfl (lv_at hl 5 rfl) ?_
  refine x_iast (ws' := [(h0, .inr (0, [.ref h2, .ref h3, .ref h4, .ref h5, .ref h10, .ref h11, .ref h8, .ref h9, .ref h6, .ref h7, v0_10, .ref h1, .int 2, v0_13])), (h1, .inl (cyI, 512, .inl (upd (fun _ => -1) 0 0))), (h2, .inl (cyI, 512, .inl (upd (upd (fun _ => 0) 0 0) 1 1))), (h3, .inl (cyI, 512, .inl (upd (upd (fun _ => 0) 0 0) 1 0))), (h4, .inl (cyI, 512, .inl (upd (fun _ => 0) 0 0))), (h5, .inl (cyI, 512, .inl f5)), (h6, .inl (cyI, 512, .inl (upd (fun _ => 0) 0 0))), (h7, .inl (cyI, 512, .inl f7)), (h8, .inl (cyI, 512, .inl f8)), (h9, .inl (cyI, 512, .inl f9)), (h10, .inl (cyI, 512, .inl f10)), (h11, .inl (cyI, 512, .inl f11))]) E hP hD hS 3 rfl (by decide) rfl rfl dX0_node_166 (fun H locs hP hD hS => ?_)
  refine lv_aload_n hx hb dX0_node_167 rfl (lv_at hl 3 rfl) ?_
  refine x_get E iX0 hP 0 rfl rfl 2 (by decide) wq11 rfl dX0_node_168 ?_
  refine lv_iload hx hb dX0_node_171 (lv_at hl 0 rfl) ?_
  refine lv_iload_n hx hb dX0_node_173 rfl (lv_at hl 6 rfl) ?_
  refine x_iast (ws' := [(h0, .inr (0, [.ref h2, .ref h3, .ref h4, .ref h5, .ref h10, .ref h11, .ref h8, .ref h9, .ref h6, .ref h7, v0_10, .ref h1, .int 2, v0_13])), (h1, .inl (cyI, 512, .inl (upd (fun _ => -1) 0 0))), (h2, .inl (cyI, 512, .inl (upd (upd (fun _ => 0) 0 0) 1 1))), (h3, .inl (cyI, 512, .inl (upd (upd (fun _ => 0) 0 0) 1 0))), (h4, .inl (cyI, 512, .inl (upd (upd (fun _ => 0) 0 0) 1 111))), (h5, .inl (cyI, 512, .inl f5)), (h6, .inl (cyI, 512, .inl (upd (fun _ => 0) 0 0))), (h7, .inl (cyI, 512, .inl f7)), (h8, .inl (cyI, 512, .inl f8)), (h9, .inl (cyI, 512, .inl f9)), (h10, .inl (cyI, 512, .inl f10)), (h11, .inl (cyI, 512, .inl f11))]) E hP hD hS 4 rfl (by decide) rfl rfl dX0_node_174 (fun H locs hP hD hS => ?_)
  refine lv_aload_n hx hb dX0_node_175 rfl (lv_at hl 3 rfl) ?_
  refine x_get E iX0 hP 0 rfl rfl 3 (by decide) wq12 rfl dX0_node_176 ?_
  refine lv_iload hx hb dX0_node_179 (lv_at hl 0 rfl) ?_
  refine lv_iload hx hb dX0_node_181 (lv_at hl 7 rfl) ?_
  refine x_iast (ws' := [(h0, .inr (0, [.ref h2, .ref h3, .ref h4, .ref h5, .ref h10, .ref h11, .ref h8, .ref h9, .ref h6, .ref h7, v0_10, .ref h1, .int 2, v0_13])), (h1, .inl (cyI, 512, .inl (upd (fun _ => -1) 0 0))), (h2, .inl (cyI, 512, .inl (upd (upd (fun _ => 0) 0 0) 1 1))), (h3, .inl (cyI, 512, .inl (upd (upd (fun _ => 0) 0 0) 1 0))), (h4, .inl (cyI, 512, .inl (upd (upd (fun _ => 0) 0 0) 1 111))), (h5, .inl (cyI, 512, .inl (upd f5 1 0))), (h6, .inl (cyI, 512, .inl (upd (fun _ => 0) 0 0))), (h7, .inl (cyI, 512, .inl f7)), (h8, .inl (cyI, 512, .inl f8)), (h9, .inl (cyI, 512, .inl f9)), (h10, .inl (cyI, 512, .inl f10)), (h11, .inl (cyI, 512, .inl f11))]) E hP hD hS 5 rfl (by decide) rfl rfl dX0_node_183 (fun H locs hP hD hS => ?_)
  refine lv_aload_n hx hb dX0_node_184 rfl (lv_at hl 3 rfl) ?_
  refine x_get E iX0 hP 0 rfl rfl 8 (by decide) wq17 rfl dX0_node_185 ?_
  refine lv_iload hx hb dX0_node_188 (lv_at hl 0 rfl) ?_
  refine lv_iload hx hb dX0_node_190 (lv_at hl 2 rfl) ?_
  refine x_iast (ws' := [(h0, .inr (0, [.ref h2, .ref h3, .ref h4, .ref h5, .ref h10, .ref h11, .ref h8, .ref h9, .ref h6, .ref h7, v0_10, .ref h1, .int 2, v0_13])), (h1, .inl (cyI, 512, .inl (upd (fun _ => -1) 0 0))), (h2, .inl (cyI, 512, .inl (upd (upd (fun _ => 0) 0 0) 1 1))), (h3, .inl (cyI, 512, .inl (upd (upd (fun _ => 0) 0 0) 1 0))), (h4, .inl (cyI, 512, .inl (upd (upd (fun _ => 0) 0 0) 1 111))), (h5, .inl (cyI, 512, .inl (upd f5 1 0))), (h6, .inl (cyI, 512, .inl (upd (upd (fun _ => 0) 0 0) 1 248155107))), (h7, .inl (cyI, 512, .inl f7)), (h8, .inl (cyI, 512, .inl f8)), (h9, .inl (cyI, 512, .inl f9)), (h10, .inl (cyI, 512, .inl f10)), (h11, .inl (cyI, 512, .inl f11))]) E hP hD hS 6 rfl (by decide) rfl rfl dX0_node_192 (fun H locs hP hD hS => ?_)
  refine lv_aload_n hx hb dX0_node_193 rfl (lv_at hl 3 rfl) ?_
  refine lv_iload hx hb dX0_node_194 (lv_at hl 0 rfl) ?_
  refine x_Vv (rest := []) (ws' := fun _ => [(h2, .inl (cyI, 512, .inl (upd (upd (fun _ => 0) 0 0) 1 1))), (h3, .inl (cyI, 512, .inl (upd (upd (fun _ => 0) 0 0) 1 0))), (h4, .inl (cyI, 512, .inl (upd (upd (fun _ => 0) 0 0) 1 111))), (h5, .inl (cyI, 512, .inl (upd f5 1 0))), (h8, .inl (cyI, 512, .inl f8)), (h9, .inl (cyI, 512, .inl f9)), (h10, .inl (cyI, 512, .inl f10)), (h11, .inl (cyI, 512, .inl f11)), (h0, .inr (0, [.ref h2, .ref h3, .ref h4, .ref h5, .ref h10, .ref h11, .ref h8, .ref h9, .ref h6, .ref h7, v0_10, .ref h1, .int 2, v0_13])), (h6, .inl (cyI, 512, .inl (upd (upd (fun _ => 0) 0 0) 1 248155107))), (h1, .inl (cyI, 512, .inl (upd (upd (fun _ => -1) 0 0) 483 1))), (h7, .inl (cyI, 512, .inl (upd f7 1 (-1))))]) (wr := [(h2, .inl (cyI, 512, .inl (upd (upd (fun _ => 0) 0 0) 1 1))), (h3, .inl (cyI, 512, .inl (upd (upd (fun _ => 0) 0 0) 1 0))), (h4, .inl (cyI, 512, .inl (upd (upd (fun _ => 0) 0 0) 1 111))), (h5, .inl (cyI, 512, .inl (upd f5 1 0))), (h8, .inl (cyI, 512, .inl f8)), (h9, .inl (cyI, 512, .inl f9)), (h10, .inl (cyI, 512, .inl f10)), (h11, .inl (cyI, 512, .inl f11))]) E (mX0_link_1 l D cyI cyJ Z h0 h6 h1 h7 (.ref h2) (.ref h3) (.ref h4) (.ref h5) (.ref h10) (.ref h11) (.ref h8) (.ref h9) v0_10 (.int 2) v0_13 f7) kX0_link wq24 wq25 wq26 ⟨rfl, rfl, Nat.le_of_ble_eq_true rfl, Nat.le_of_ble_eq_true rfl⟩ hP hD hS hA [0, 6, 1, 7] [2, 3, 4, 5, 8, 9, 10, 11] rfl rfl (by decide) (fun _ => rfl) 0 rfl rfl rfl hl.1 rfl (Nat.le_of_ble_eq_true rfl) dX0_node_196 ⟨rfl, rfl⟩ ⟨Nat.le_of_ble_eq_true rfl, Nat.le_of_ble_eq_true rfl⟩ (fun _ H locs hP hD hS => ?_)
  refine lv_aload_n hx hb dX0_node_199 rfl (lv_at hl 3 rfl) ?_
  refine lv_iload hx hb dX0_node_200 (lv_at hl 0 rfl) ?_
  refine x_Vv (rest := []) (ws' := fun _ => [(h5, .inl (cyI, 512, .inl (upd f5 1 0))), (h6, .inl (cyI, 512, .inl (upd (upd (fun _ => 0) 0 0) 1 248155107))), (h1, .inl (cyI, 512, .inl (upd (upd (fun _ => -1) 0 0) 483 1))), (h7, .inl (cyI, 512, .inl (upd f7 1 (-1)))), (h0, .inr (0, [.ref h2, .ref h3, .ref h4, .ref h5, .ref h10, .ref h11, .ref h8, .ref h9, .ref h6, .ref h7, v0_10, .ref h1, .int 2, v0_13])), (h4, .inl (cyI, 512, .inl (upd (upd (fun _ => 0) 0 0) 1 111))), (h3, .inl (cyI, 512, .inl (upd (upd (fun _ => 0) 0 0) 1 0))), (h2, .inl (cyI, 512, .inl (upd (upd (fun _ => 0) 0 0) 1 1))), (h8, .inl (cyI, 512, .inl (upd f8 1 0))), (h9, .inl (cyI, 512, .inl (upd f9 1 0))), (h10, .inl (cyI, 512, .inl (upd f10 1 1))), (h11, .inl (cyI, 512, .inl (upd f11 1 0)))]) (wr := [(h5, .inl (cyI, 512, .inl (upd f5 1 0))), (h6, .inl (cyI, 512, .inl (upd (upd (fun _ => 0) 0 0) 1 248155107))), (h1, .inl (cyI, 512, .inl (upd (upd (fun _ => -1) 0 0) 483 1))), (h7, .inl (cyI, 512, .inl (upd f7 1 (-1))))]) E (mX0_measure_1 l D cyI cyJ Z h0 h4 h3 h2 h8 h9 h10 h11 (.ref h5) (.ref h6) (.ref h7) v0_10 (.ref h1) (.int 2) v0_13 f8 f9 f10 f11) kX0_measure wq27 wq28 wq29 ⟨rfl, rfl, Nat.le_of_ble_eq_true rfl, Nat.le_of_ble_eq_true rfl⟩ hP hD hS hA [8, 2, 1, 0, 4, 5, 6, 7] [3, 9, 10, 11] rfl rfl (by decide) (fun _ => rfl) 8 rfl rfl rfl hl.1 rfl (Nat.le_of_ble_eq_true rfl) dX0_node_202 ⟨rfl, rfl⟩ ⟨Nat.le_of_ble_eq_true rfl, Nat.le_of_ble_eq_true rfl⟩ (fun _ H locs hP hD hS => ?_)
  refine lv_iload hx hb dX0_node_205 (lv_at hl 0 rfl) ?_
  exact x_iret E hr hlk hP hD hS () rfl [4, 2, 7, 6, 5, 0, 1, 3, 8, 9, 10, 11] (by decide) rfl rfl dX0_node_207

set_option maxHeartbeats 4000000 in
set_option maxRecDepth 100000 in
theorem mX0_link_2 (l : Launch) (D : va_G) (cyI cyJ : ClassId) (Z : xZ) (h0 : Nat) (h1 : Nat) (h2 : Nat) (h3 : Nat) (v0_0 : Value) (v0_1 : Value) (v0_2 : Value) (v0_3 : Value) (v0_4 : Value) (v0_5 : Value) (v0_6 : Value) (v0_7 : Value) (v0_10 : Value) (v0_12 : Value) (v0_13 : Value) (f3 : Nat → Int32) : MetV l yX0_link (Cond.code yX0_link cX0_link 3 none) { frames := 0, cells := 0, slots := 0, locals := 0 } D cyI cyJ Z [.ref h0, .int 2] [(h0, .inr (0, [v0_0, v0_1, v0_2, v0_3, v0_4, v0_5, v0_6, v0_7, .ref h1, .ref h3, v0_10, .ref h2, v0_12, v0_13])), (h1, .inl (cyI, 512, .inl (upd (upd (upd (fun _ => 0) 0 0) 1 248155107) 2 248155109))), (h2, .inl (cyI, 512, .inl (upd (upd (fun _ => -1) 0 0) 483 1))), (h3, .inl (cyI, 512, .inl f3))] (fun _ : Unit => ([(h0, .inr (0, [v0_0, v0_1, v0_2, v0_3, v0_4, v0_5, v0_6, v0_7, .ref h1, .ref h3, v0_10, .ref h2, v0_12, v0_13])), (h1, .inl (cyI, 512, .inl (upd (upd (upd (fun _ => 0) 0 0) 1 248155107) 2 248155109))), (h2, .inl (cyI, 512, .inl (upd (upd (upd (fun _ => -1) 0 0) 483 1) 485 2))), (h3, .inl (cyI, 512, .inl (upd f3 2 (-1))))] : va_W)) 0 0 := by
  refine met_v (by decide) rfl ?_
  intro p e s m below meth c A ls E hr hlk hnm hP hD hA hl
  have hS : va_S A s.heap s.heap [] := va_S.rf
  have hx := E.1.1
  have hb := E.1.2.1
  have hl : lv_has ls 3 [(0, .ref h0), (1, .int 2)] := hl
  refine lv_aload_n hx hb dX0_link_0 rfl (lv_at hl 0 rfl) ?_
  refine x_get E iX0 hP 0 rfl rfl 8 (by decide) wq17 rfl dX0_link_1 ?_
  refine lv_iload_n hx hb dX0_link_4 rfl (lv_at hl 1 rfl) ?_
  refine x_iald (v := 248155109) E hP 1 rfl (by decide) rfl dX0_link_5 ?_
  refine lv_aload_n hx hb dX0_link_6 rfl (lv_at hl 0 rfl) ?_
  refine x_get E iX0 hP 0 rfl rfl 11 (by decide) wq20 rfl dX0_link_7 ?_
  refine x_alen (v := 512) E hP 2 rfl (by decide) dX0_link_10 ?_
  refine lv_iconst (v := 1) hx hb dX0_link_11 (by decide) ?_
  refine lv_isub hx hb dX0_link_12 ?_
  refine x_topi (z := 511) (by decide) ?_
  refine lv_iand hx hb dX0_link_13 ?_
  refine x_topi (z := 485) (by decide) ?_
  refine lv_istore_n (lv' := [(2, .int 485), (0, .ref h0), (1, .int 2)]) hx hb dX0_link_14 rfl hl (by decide) rfl (fun ls hl => ?_)
  refine lv_aload_n hx hb dX0_link_15 rfl (lv_at hl 1 rfl) ?_
  refine x_get E iX0 hP 0 rfl rfl 9 (by decide) wq18 rfl dX0_link_16 ?_
  refine lv_iload_n hx hb dX0_link_19 rfl (lv_at hl 2 rfl) ?_
  refine lv_aload_n hx hb dX0_link_20 rfl (lv_at hl 1 rfl) ?_
  refine x_get E iX0 hP 0 rfl rfl 11 (by decide) wq20 rfl dX0_link_21 ?_
  refine lv_iload_n hx hb dX0_link_24 rfl (lv_at hl 0 rfl) ?_
  refine x_iald (v := (-1)) E hP 2 rfl (by decide) rfl dX0_link_25 ?_
  refine x_iast (ws' := [(h0, .inr (0, [v0_0, v0_1, v0_2, v0_3, v0_4, v0_5, v0_6, v0_7, .ref h1, .ref h3, v0_10, .ref h2, v0_12, v0_13])), (h1, .inl (cyI, 512, .inl (upd (upd (upd (fun _ => 0) 0 0) 1 248155107) 2 248155109))), (h2, .inl (cyI, 512, .inl (upd (upd (fun _ => -1) 0 0) 483 1))), (h3, .inl (cyI, 512, .inl (upd f3 2 (-1))))]) E hP hD hS 3 rfl (by decide) rfl rfl dX0_link_26 (fun H locs hP hD hS => ?_)
  refine lv_aload_n hx hb dX0_link_27 rfl (lv_at hl 1 rfl) ?_
  refine x_get E iX0 hP 0 rfl rfl 11 (by decide) wq20 rfl dX0_link_28 ?_
  refine lv_iload_n hx hb dX0_link_31 rfl (lv_at hl 0 rfl) ?_
  refine lv_iload_n hx hb dX0_link_32 rfl (lv_at hl 2 rfl) ?_
  refine x_iast (ws' := [(h0, .inr (0, [v0_0, v0_1, v0_2, v0_3, v0_4, v0_5, v0_6, v0_7, .ref h1, .ref h3, v0_10, .ref h2, v0_12, v0_13])), (h1, .inl (cyI, 512, .inl (upd (upd (upd (fun _ => 0) 0 0) 1 248155107) 2 248155109))), (h2, .inl (cyI, 512, .inl (upd (upd (upd (fun _ => -1) 0 0) 483 1) 485 2))), (h3, .inl (cyI, 512, .inl (upd f3 2 (-1))))]) E hP hD hS 2 rfl (by decide) rfl rfl dX0_link_33 (fun H locs hP hD hS => ?_)
  exact x_vret E hr hlk hP hD hS () [0, 1, 2, 3] (by decide) rfl dX0_link_34

set_option maxHeartbeats 4000000 in
set_option maxRecDepth 100000 in
theorem mX0_measure_2 (l : Launch) (D : va_G) (cyI cyJ : ClassId) (Z : xZ) (h0 : Nat) (h1 : Nat) (h2 : Nat) (h3 : Nat) (h4 : Nat) (h5 : Nat) (h6 : Nat) (h7 : Nat) (v0_3 : Value) (v0_8 : Value) (v0_9 : Value) (v0_10 : Value) (v0_11 : Value) (v0_12 : Value) (v0_13 : Value) (f4 : Nat → Int32) (f5 : Nat → Int32) (f6 : Nat → Int32) (f7 : Nat → Int32) : MetV l yX0_measure (Cond.code yX0_measure cX0_measure 6 none) { frames := 0, cells := 0, slots := 0, locals := 0 } D cyI cyJ Z [.ref h0, .int 2] [(h0, .inr (0, [.ref h3, .ref h2, .ref h1, v0_3, .ref h6, .ref h7, .ref h4, .ref h5, v0_8, v0_9, v0_10, v0_11, v0_12, v0_13])), (h1, .inl (cyI, 512, .inl (upd (upd (upd (fun _ => 0) 0 0) 1 111) 2 105))), (h2, .inl (cyI, 512, .inl (upd (upd (upd (fun _ => 0) 0 0) 1 0) 2 0))), (h3, .inl (cyI, 512, .inl (upd (upd (upd (fun _ => 0) 0 0) 1 1) 2 1))), (h4, .inl (cyI, 512, .inl f4)), (h5, .inl (cyI, 512, .inl f5)), (h6, .inl (cyI, 512, .inl f6)), (h7, .inl (cyI, 512, .inl f7))] (fun _ : Unit => ([(h0, .inr (0, [.ref h3, .ref h2, .ref h1, v0_3, .ref h6, .ref h7, .ref h4, .ref h5, v0_8, v0_9, v0_10, v0_11, v0_12, v0_13])), (h1, .inl (cyI, 512, .inl (upd (upd (upd (fun _ => 0) 0 0) 1 111) 2 105))), (h2, .inl (cyI, 512, .inl (upd (upd (upd (fun _ => 0) 0 0) 1 0) 2 0))), (h3, .inl (cyI, 512, .inl (upd (upd (upd (fun _ => 0) 0 0) 1 1) 2 1))), (h4, .inl (cyI, 512, .inl (upd f4 2 0))), (h5, .inl (cyI, 512, .inl (upd f5 2 0))), (h6, .inl (cyI, 512, .inl (upd f6 2 1))), (h7, .inl (cyI, 512, .inl (upd f7 2 0)))] : va_W)) 0 0 := by
  refine met_v (by decide) rfl ?_
  intro p e s m below meth c A ls E hr hlk hnm hP hD hA hl
  have hS : va_S A s.heap s.heap [] := va_S.rf
  have hx := E.1.1
  have hb := E.1.2.1
  have hl : lv_has ls 6 [(0, .ref h0), (1, .int 2)] := hl
  refine lv_aload_n hx hb dX0_measure_0 rfl (lv_at hl 0 rfl) ?_
  refine x_get E iX0 hP 0 rfl rfl 2 (by decide) wq11 rfl dX0_measure_1 ?_
  refine lv_iload_n hx hb dX0_measure_4 rfl (lv_at hl 1 rfl) ?_
  refine x_iald (v := 105) E hP 1 rfl (by decide) rfl dX0_measure_5 ?_
  refine lv_istore_n (lv' := [(2, .int 105), (0, .ref h0), (1, .int 2)]) hx hb dX0_measure_6 rfl hl (by decide) rfl (fun ls hl => ?_)
  refine lv_aload_n hx hb dX0_measure_7 rfl (lv_at hl 1 rfl) ?_
  refine x_get E iX0 hP 0 rfl rfl 1 (by decide) wq10 rfl dX0_measure_8 ?_
  refine lv_iload_n hx hb dX0_measure_11 rfl (lv_at hl 2 rfl) ?_
  refine x_iald (v := 0) E hP 2 rfl (by decide) rfl dX0_measure_12 ?_
  refine lv_if_lt (tgt := 35) hx hb dX0_measure_13 (by decide) (fun c9 => absurd c9 (by decide)) (fun c9 => ?_)
  refine lv_aload_n hx hb dX0_measure_16 rfl (lv_at hl 1 rfl) ?_
  refine x_get E iX0 hP 0 rfl rfl 1 (by decide) wq10 rfl dX0_measure_17 ?_
  refine lv_iload_n hx hb dX0_measure_20 rfl (lv_at hl 2 rfl) ?_
  refine x_iald (v := 0) E hP 2 rfl (by decide) rfl dX0_measure_21 ?_
  refine lv_iload_n hx hb dX0_measure_22 rfl (lv_at hl 2 rfl) ?_
  refine lv_icmp_ge (tgt := 35) hx hb dX0_measure_23 (by decide) (fun c9 => absurd c9 (by decide)) (fun c9 => ?_)
  refine lv_aload_n hx hb dX0_measure_26 rfl (lv_at hl 1 rfl) ?_
  refine x_get E iX0 hP 0 rfl rfl 1 (by decide) wq10 rfl dX0_measure_27 ?_
  refine lv_iload_n hx hb dX0_measure_30 rfl (lv_at hl 2 rfl) ?_
  refine x_iald (v := 0) E hP 2 rfl (by decide) rfl dX0_measure_31 ?_
  refine lv_goto (tgt := 36) hx hb dX0_measure_32 (by decide) ?_
  refine lv_istore_n (lv' := [(3, .int 0), (2, .int 105), (0, .ref h0), (1, .int 2)]) hx hb dX0_measure_36 rfl hl (by decide) rfl (fun ls hl => ?_)
  refine lv_iload_n hx hb dX0_measure_37 rfl (lv_at hl 1 rfl) ?_
  refine lv_if_lt (tgt := 50) hx hb dX0_measure_38 (by decide) (fun c9 => absurd c9 (by decide)) (fun c9 => ?_)
  refine lv_iload_n hx hb dX0_measure_41 rfl (lv_at hl 1 rfl) ?_
  refine lv_iload_n hx hb dX0_measure_42 rfl (lv_at hl 3 rfl) ?_
  refine lv_icmp_ge (tgt := 50) hx hb dX0_measure_43 (by decide) (fun c9 => ?_) (fun c9 => absurd (by decide) c9)
  refine lv_iconst (v := 0) hx hb dX0_measure_50 (by decide) ?_
  refine lv_istore (lv' := [(4, .int 0), (3, .int 0), (2, .int 105), (0, .ref h0), (1, .int 2)]) hx hb dX0_measure_51 hl (by decide) rfl (fun ls hl => ?_)
  refine lv_aload_n hx hb dX0_measure_53 rfl (lv_at hl 3 rfl) ?_
  refine x_get E iX0 hP 0 rfl rfl 0 (by decide) wq9 rfl dX0_measure_54 ?_
  refine lv_iload_n hx hb dX0_measure_57 rfl (lv_at hl 4 rfl) ?_
  refine x_iald (v := 1) E hP 3 rfl (by decide) rfl dX0_measure_58 ?_
  refine lv_bipush (v := 7) hx hb dX0_measure_59 (by decide) ?_
  refine lv_icmp_lt (tgt := 68) hx hb dX0_measure_61 (by decide) (fun c9 => ?_) (fun c9 => absurd (by decide) c9)
  refine lv_iconst (v := 0) hx hb dX0_measure_68 (by decide) ?_
  refine lv_istore (lv' := [(5, .int 0), (4, .int 0), (3, .int 0), (2, .int 105), (0, .ref h0), (1, .int 2)]) hx hb dX0_measure_69 hl (by decide) rfl (fun ls hl => ?_)
  refine lv_aload_n hx hb dX0_measure_71 rfl (lv_at hl 4 rfl) ?_
  refine x_get E iX0 hP 0 rfl rfl 6 (by decide) wq15 rfl dX0_measure_72 ?_
  refine lv_iload_n hx hb dX0_measure_75 rfl (lv_at hl 5 rfl) ?_
  refine lv_iload hx hb dX0_measure_76 (lv_at hl 0 rfl) ?_
  refine lv_if_eq (tgt := 98) hx hb dX0_measure_78 (by decide) (fun c9 => ?_) (fun c9 => absurd (by decide) c9)
  refine lv_iconst (v := 0) hx hb dX0_measure_98 (by decide) ?_
  refine x_iast (ws' := [(h0, .inr (0, [.ref h3, .ref h2, .ref h1, v0_3, .ref h6, .ref h7, .ref h4, .ref h5, v0_8, v0_9, v0_10, v0_11, v0_12, v0_13])), (h1, .inl (cyI, 512, .inl (upd (upd (upd (fun _ => 0) 0 0) 1 111) 2 105))), (h2, .inl (cyI, 512, .inl (upd (upd (upd (fun _ => 0) 0 0) 1 0) 2 0))), (h3, .inl (cyI, 512, .inl (upd (upd (upd (fun _ => 0) 0 0) 1 1) 2 1))), (h4, .inl (cyI, 512, .inl (upd f4 2 0))), (h5, .inl (cyI, 512, .inl f5)), (h6, .inl (cyI, 512, .inl f6)), (h7, .inl (cyI, 512, .inl f7))]) E hP hD hS 4 rfl (by decide) rfl rfl dX0_measure_99 (fun H locs hP hD hS => ?_)
  refine lv_aload_n hx hb dX0_measure_100 rfl (lv_at hl 4 rfl) ?_
  refine x_get E iX0 hP 0 rfl rfl 7 (by decide) wq16 rfl dX0_measure_101 ?_
  refine lv_iload_n hx hb dX0_measure_104 rfl (lv_at hl 5 rfl) ?_
  refine lv_iload hx hb dX0_measure_105 (lv_at hl 0 rfl) ?_
  refine lv_if_eq (tgt := 127) hx hb dX0_measure_107 (by decide) (fun c9 => ?_) (fun c9 => absurd (by decide) c9)
  refine lv_iconst (v := 0) hx hb dX0_measure_127 (by decide) ?_
  refine x_iast (ws' := [(h0, .inr (0, [.ref h3, .ref h2, .ref h1, v0_3, .ref h6, .ref h7, .ref h4, .ref h5, v0_8, v0_9, v0_10, v0_11, v0_12, v0_13])), (h1, .inl (cyI, 512, .inl (upd (upd (upd (fun _ => 0) 0 0) 1 111) 2 105))), (h2, .inl (cyI, 512, .inl (upd (upd (upd (fun _ => 0) 0 0) 1 0) 2 0))), (h3, .inl (cyI, 512, .inl (upd (upd (upd (fun _ => 0) 0 0) 1 1) 2 1))), (h4, .inl (cyI, 512, .inl (upd f4 2 0))), (h5, .inl (cyI, 512, .inl (upd f5 2 0))), (h6, .inl (cyI, 512, .inl f6)), (h7, .inl (cyI, 512, .inl f7))]) E hP hD hS 5 rfl (by decide) rfl rfl dX0_measure_128 (fun H locs hP hD hS => ?_)
  refine lv_aload_n hx hb dX0_measure_129 rfl (lv_at hl 4 rfl) ?_
  refine x_get E iX0 hP 0 rfl rfl 4 (by decide) wq13 rfl dX0_measure_130 ?_
  refine lv_iload_n hx hb dX0_measure_133 rfl (lv_at hl 5 rfl) ?_
  refine lv_iconst (v := 1) hx hb dX0_measure_134 (by decide) ?_
  refine x_iast (ws' := [(h0, .inr (0, [.ref h3, .ref h2, .ref h1, v0_3, .ref h6, .ref h7, .ref h4, .ref h5, v0_8, v0_9, v0_10, v0_11, v0_12, v0_13])), (h1, .inl (cyI, 512, .inl (upd (upd (upd (fun _ => 0) 0 0) 1 111) 2 105))), (h2, .inl (cyI, 512, .inl (upd (upd (upd (fun _ => 0) 0 0) 1 0) 2 0))), (h3, .inl (cyI, 512, .inl (upd (upd (upd (fun _ => 0) 0 0) 1 1) 2 1))), (h4, .inl (cyI, 512, .inl (upd f4 2 0))), (h5, .inl (cyI, 512, .inl (upd f5 2 0))), (h6, .inl (cyI, 512, .inl (upd f6 2 1))), (h7, .inl (cyI, 512, .inl f7))]) E hP hD hS 6 rfl (by decide) rfl rfl dX0_measure_135 (fun H locs hP hD hS => ?_)
  refine lv_aload_n hx hb dX0_measure_136 rfl (lv_at hl 4 rfl) ?_
  refine x_get E iX0 hP 0 rfl rfl 5 (by decide) wq14 rfl dX0_measure_137 ?_
  refine lv_iload_n hx hb dX0_measure_140 rfl (lv_at hl 5 rfl) ?_
  refine lv_iconst (v := 0) hx hb dX0_measure_141 (by decide) ?_
  refine x_iast (ws' := [(h0, .inr (0, [.ref h3, .ref h2, .ref h1, v0_3, .ref h6, .ref h7, .ref h4, .ref h5, v0_8, v0_9, v0_10, v0_11, v0_12, v0_13])), (h1, .inl (cyI, 512, .inl (upd (upd (upd (fun _ => 0) 0 0) 1 111) 2 105))), (h2, .inl (cyI, 512, .inl (upd (upd (upd (fun _ => 0) 0 0) 1 0) 2 0))), (h3, .inl (cyI, 512, .inl (upd (upd (upd (fun _ => 0) 0 0) 1 1) 2 1))), (h4, .inl (cyI, 512, .inl (upd f4 2 0))), (h5, .inl (cyI, 512, .inl (upd f5 2 0))), (h6, .inl (cyI, 512, .inl (upd f6 2 1))), (h7, .inl (cyI, 512, .inl (upd f7 2 0)))]) E hP hD hS 7 rfl (by decide) rfl rfl dX0_measure_142 (fun H locs hP hD hS => ?_)
  refine lv_aload_n hx hb dX0_measure_143 rfl (lv_at hl 4 rfl) ?_
  refine x_get E iX0 hP 0 rfl rfl 0 (by decide) wq9 rfl dX0_measure_144 ?_
  refine lv_iload_n hx hb dX0_measure_147 rfl (lv_at hl 5 rfl) ?_
  refine x_iald (v := 1) E hP 3 rfl (by decide) rfl dX0_measure_148 ?_
  refine lv_tableIn (tgt := 400) (off := 251) hx hb dX0_measure_149 (by decide) (by decide) (by decide) (by decide) ?_
  exact x_vret E hr hlk hP hD hS () [0, 1, 2, 3, 4, 5, 6, 7] (by decide) rfl dX0_measure_400

set_option maxHeartbeats 4000000 in
set_option maxRecDepth 100000 in
theorem mX0_node_2 (l : Launch) (D : va_G) (cyI cyJ : ClassId) (Z : xZ) (h0 : Nat) (h1 : Nat) (h2 : Nat) (h3 : Nat) (h4 : Nat) (h5 : Nat) (h6 : Nat) (h7 : Nat) (h8 : Nat) (h9 : Nat) (h10 : Nat) (h11 : Nat) (v0_10 : Value) (v0_13 : Value) (f5 : Nat → Int32) (f7 : Nat → Int32) (f8 : Nat → Int32) (f9 : Nat → Int32) (f10 : Nat → Int32) (f11 : Nat → Int32) : MetI l yX0_node (Cond.code yX0_node cX0_node 8 (some .int)) { frames := 1, cells := 0, slots := 0, locals := 25 } D cyI cyJ Z [.ref h0, .int 1, .int 0, .int 105, .int 0] [(h0, .inr (0, [.ref h2, .ref h3, .ref h4, .ref h5, .ref h10, .ref h11, .ref h8, .ref h9, .ref h6, .ref h7, v0_10, .ref h1, .int 2, v0_13])), (h1, .inl (cyI, 512, .inl (upd (upd (fun _ => -1) 0 0) 483 1))), (h2, .inl (cyI, 512, .inl (upd (upd (fun _ => 0) 0 0) 1 1))), (h3, .inl (cyI, 512, .inl (upd (upd (fun _ => 0) 0 0) 1 0))), (h4, .inl (cyI, 512, .inl (upd (upd (fun _ => 0) 0 0) 1 111))), (h5, .inl (cyI, 512, .inl f5)), (h6, .inl (cyI, 512, .inl (upd (upd (fun _ => 0) 0 0) 1 248155107))), (h7, .inl (cyI, 512, .inl f7)), (h8, .inl (cyI, 512, .inl f8)), (h9, .inl (cyI, 512, .inl f9)), (h10, .inl (cyI, 512, .inl f10)), (h11, .inl (cyI, 512, .inl f11))] (fun _ : Unit => 2) (fun _ : Unit => ([(h0, .inr (0, [.ref h2, .ref h3, .ref h4, .ref h5, .ref h10, .ref h11, .ref h8, .ref h9, .ref h6, .ref h7, v0_10, .ref h1, .int 3, v0_13])), (h1, .inl (cyI, 512, .inl (upd (upd (upd (fun _ => -1) 0 0) 483 1) 485 2))), (h2, .inl (cyI, 512, .inl (upd (upd (upd (fun _ => 0) 0 0) 1 1) 2 1))), (h3, .inl (cyI, 512, .inl (upd (upd (upd (fun _ => 0) 0 0) 1 0) 2 0))), (h4, .inl (cyI, 512, .inl (upd (upd (upd (fun _ => 0) 0 0) 1 111) 2 105))), (h5, .inl (cyI, 512, .inl (upd f5 2 0))), (h6, .inl (cyI, 512, .inl (upd (upd (upd (fun _ => 0) 0 0) 1 248155107) 2 248155109))), (h7, .inl (cyI, 512, .inl (upd f7 2 (-1)))), (h8, .inl (cyI, 512, .inl (upd f8 2 0))), (h9, .inl (cyI, 512, .inl (upd f9 2 0))), (h10, .inl (cyI, 512, .inl (upd f10 2 1))), (h11, .inl (cyI, 512, .inl (upd f11 2 0)))] : va_W)) 0 0 := by
  refine met_i (by decide) rfl ?_
  intro p e s m below meth c A ls E hr hlk hP hD hA hl
  have hS : va_S A s.heap s.heap [] := va_S.rf
  have hx := E.1.1
  have hb := E.1.2.1
  have hl : lv_has ls 8 [(0, .ref h0), (1, .int 1), (2, .int 0), (3, .int 105), (4, .int 0)] := hl
  refine lv_iload_n hx hb dX0_node_0 rfl (lv_at hl 1 rfl) ?_
  refine lv_sipush (v := 7919) hx hb dX0_node_1 (by decide) ?_
  refine lv_imul hx hb dX0_node_4 ?_
  refine x_topi (z := 7919) (by decide) ?_
  refine lv_iload_n hx hb dX0_node_5 rfl (lv_at hl 2 rfl) ?_
  refine lv_iadd hx hb dX0_node_6 ?_
  refine x_topi (z := 7919) (by decide) ?_
  refine lv_sipush (v := 31337) hx hb dX0_node_7 (by decide) ?_
  refine lv_imul hx hb dX0_node_10 ?_
  refine x_topi (z := 248157703) (by decide) ?_
  refine lv_iload_n hx hb dX0_node_11 rfl (lv_at hl 3 rfl) ?_
  refine lv_iadd hx hb dX0_node_12 ?_
  refine x_topi (z := 248157808) (by decide) ?_
  refine lv_istore (lv' := [(5, .int 248157808), (0, .ref h0), (1, .int 1), (2, .int 0), (3, .int 105), (4, .int 0)]) hx hb dX0_node_13 hl (by decide) rfl (fun ls hl => ?_)
  refine lv_iload hx hb dX0_node_15 (lv_at hl 0 rfl) ?_
  refine lv_iload hx hb dX0_node_17 (lv_at hl 0 rfl) ?_
  refine lv_bipush (v := 15) hx hb dX0_node_19 (by decide) ?_
  refine lv_iushr (v := 7573) hx hb dX0_node_21 (by decide) ?_
  refine lv_ixor hx hb dX0_node_22 ?_
  refine x_topi (z := 248155109) (by decide) ?_
  refine lv_istore (lv' := [(5, .int 248155109), (0, .ref h0), (1, .int 1), (2, .int 0), (3, .int 105), (4, .int 0)]) hx hb dX0_node_23 hl (by decide) rfl (fun ls hl => ?_)
  refine lv_aload_n hx hb dX0_node_25 rfl (lv_at hl 1 rfl) ?_
  refine x_get E iX0 hP 0 rfl rfl 11 (by decide) wq20 rfl dX0_node_26 ?_
  refine lv_iload hx hb dX0_node_29 (lv_at hl 0 rfl) ?_
  refine lv_aload_n hx hb dX0_node_31 rfl (lv_at hl 1 rfl) ?_
  refine x_get E iX0 hP 0 rfl rfl 11 (by decide) wq20 rfl dX0_node_32 ?_
  refine x_alen (v := 512) E hP 1 rfl (by decide) dX0_node_35 ?_
  refine lv_iconst (v := 1) hx hb dX0_node_36 (by decide) ?_
  refine lv_isub hx hb dX0_node_37 ?_
  refine x_topi (z := 511) (by decide) ?_
  refine lv_iand hx hb dX0_node_38 ?_
  refine x_topi (z := 485) (by decide) ?_
  refine x_iald (v := (-1)) E hP 1 rfl (by decide) rfl dX0_node_39 ?_
  refine lv_istore (lv' := [(6, .int (-1)), (5, .int 248155109), (0, .ref h0), (1, .int 1), (2, .int 0), (3, .int 105), (4, .int 0)]) hx hb dX0_node_40 hl (by decide) rfl (fun ls hl => ?_)
  refine lv_iconst (v := 0) hx hb dX0_node_42 (by decide) ?_
  refine lv_istore (lv' := [(7, .int 0), (6, .int (-1)), (5, .int 248155109), (0, .ref h0), (1, .int 1), (2, .int 0), (3, .int 105), (4, .int 0)]) hx hb dX0_node_43 hl (by decide) rfl (fun ls hl => ?_)
  refine lv_iload hx hb dX0_node_45 (lv_at hl 0 rfl) ?_
  refine lv_aload_n hx hb dX0_node_47 rfl (lv_at hl 3 rfl) ?_
  refine x_get E iX0 hP 0 rfl rfl 12 (by decide) wq23 rfl dX0_node_48 ?_
  refine lv_icmp_ge (tgt := 119) hx hb dX0_node_51 (by decide) (fun c9 => absurd c9 (by decide)) (fun c9 => ?_)
  refine lv_iload hx hb dX0_node_54 (lv_at hl 1 rfl) ?_
  refine lv_if_lt (tgt := 119) hx hb dX0_node_56 (by decide) (fun c9 => ?_) (fun c9 => absurd (by decide) c9)
  refine lv_aload_n hx hb dX0_node_119 rfl (lv_at hl 3 rfl) ?_
  refine x_get E iX0 hP 0 rfl rfl 12 (by decide) wq23 rfl dX0_node_120 ?_
  refine lv_aload_n hx hb dX0_node_123 rfl (lv_at hl 3 rfl) ?_
  refine x_get E iX0 hP 0 rfl rfl 0 (by decide) wq9 rfl dX0_node_124 ?_
  refine x_alen (v := 512) E hP 2 rfl (by decide) dX0_node_127 ?_
  refine lv_icmp_lt (tgt := 135) hx hb dX0_node_128 (by decide) (fun c9 => ?_) (fun c9 => absurd (by decide) c9)
  refine lv_aload_n hx hb dX0_node_135 rfl (lv_at hl 3 rfl) ?_
  refine x_get E iX0 hP 0 rfl rfl 12 (by decide) wq23 rfl dX0_node_136 ?_
  refine lv_istore (lv' := [(7, .int 2), (6, .int (-1)), (5, .int 248155109), (0, .ref h0), (1, .int 1), (2, .int 0), (3, .int 105), (4, .int 0)]) hx hb dX0_node_139 hl (by decide) rfl (fun ls hl => ?_)
  refine lv_aload_n hx hb dX0_node_141 rfl (lv_at hl 3 rfl) ?_
  refine lv_dup hx hb dX0_node_142 rfl ?_
  refine x_get E iX0 hP 0 rfl rfl 12 (by decide) wq23 rfl dX0_node_143 ?_
  refine lv_iconst (v := 1) hx hb dX0_node_146 (by decide) ?_
  refine lv_iadd hx hb dX0_node_147 ?_
  refine x_topi (z := 3) (by decide) ?_
  refine x_put (ws' := [(h0, .inr (0, [.ref h2, .ref h3, .ref h4, .ref h5, .ref h10, .ref h11, .ref h8, .ref h9, .ref h6, .ref h7, v0_10, .ref h1, .int 3, v0_13])), (h1, .inl (cyI, 512, .inl (upd (upd (fun _ => -1) 0 0) 483 1))), (h2, .inl (cyI, 512, .inl (upd (upd (fun _ => 0) 0 0) 1 1))), (h3, .inl (cyI, 512, .inl (upd (upd (fun _ => 0) 0 0) 1 0))), (h4, .inl (cyI, 512, .inl (upd (upd (fun _ => 0) 0 0) 1 111))), (h5, .inl (cyI, 512, .inl f5)), (h6, .inl (cyI, 512, .inl (upd (upd (fun _ => 0) 0 0) 1 248155107))), (h7, .inl (cyI, 512, .inl f7)), (h8, .inl (cyI, 512, .inl f8)), (h9, .inl (cyI, 512, .inl f9)), (h10, .inl (cyI, 512, .inl f10)), (h11, .inl (cyI, 512, .inl f11))]) E iX0 tyX0 tyX0_ok nmX0 hP hD hS 0 rfl rfl 12 (by decide) wq23 rfl rfl rfl rfl rfl dX0_node_148 (fun H locs hP hD hS => ?_)
  refine lv_aload_n hx hb dX0_node_151 rfl (lv_at hl 3 rfl) ?_
  refine x_get E iX0 hP 0 rfl rfl 0 (by decide) wq9 rfl dX0_node_152 ?_
  refine lv_iload hx hb dX0_node_155 (lv_at hl 0 rfl) ?_
  refine lv_iload_n hx hb dX0_node_157 rfl (lv_at hl 4 rfl) ?_
  refine x_iast (ws' := [(h0, .inr (0, [.ref h2, .ref h3, .ref h4, .ref h5, .ref h10, .ref h11, .ref h8, .ref h9, .ref h6, .ref h7, v0_10, .ref h1, .int 3, v0_13])), (h1, .inl (cyI, 512, .inl (upd (upd (fun _ => -1) 0 0) 483 1))), (h2, .inl (cyI, 512, .inl (upd (upd (upd (fun _ => 0) 0 0) 1 1) 2 1))), (h3, .inl (cyI, 512, .inl (upd (upd (fun _ => 0) 0 0) 1 0))), (h4, .inl (cyI, 512, .inl (upd (upd (fun _ => 0) 0 0) 1 111))), (h5, .inl (cyI, 512, .inl f5)), (h6, .inl (cyI, 512, .inl (upd (upd (fun _ => 0) 0 0) 1 248155107))), (h7, .inl (cyI, 512, .inl f7)), (h8, .inl (cyI, 512, .inl f8)), (h9, .inl (cyI, 512, .inl f9)), (h10, .inl (cyI, 512, .inl f10)), (h11, .inl (cyI, 512, .inl f11))]) E hP hD hS 2 rfl (by decide) rfl rfl dX0_node_158 (fun H locs hP hD hS => ?_)
  refine lv_aload_n hx hb dX0_node_159 rfl (lv_at hl 3 rfl) ?_
  refine x_get E iX0 hP 0 rfl rfl 1 (by decide) wq10 rfl dX0_node_160 ?_
  refine lv_iload hx hb dX0_node_163 (lv_at hl 0 rfl) ?_
  refine lv_iload_n hx hb dX0_node_165 rfl (lv_at hl 5 rfl) ?_
  refine x_iast (ws' := [(h0, .inr (0, [.ref h2, .ref h3, .ref h4, .ref h5, .ref h10, .ref h11, .ref h8, .ref h9, .ref h6, .ref h7, v0_10, .ref h1, .int 3, v0_13])), (h1, .inl (cyI, 512, .inl (upd (upd (fun _ => -1) 0 0) 483 1))), (h2, .inl (cyI, 512, .inl (upd (upd (upd (fun _ => 0) 0 0) 1 1) 2 1))), (h3, .inl (cyI, 512, .inl (upd (upd (upd (fun _ => 0) 0 0) 1 0) 2 0))), (h4, .inl (cyI, 512, .inl (upd (upd (fun _ => 0) 0 0) 1 111))), (h5, .inl (cyI, 512, .inl f5)), (h6, .inl (cyI, 512, .inl (upd (upd (fun _ => 0) 0 0) 1 248155107))), (h7, .inl (cyI, 512, .inl f7)), (h8, .inl (cyI, 512, .inl f8)), (h9, .inl (cyI, 512, .inl f9)), (h10, .inl (cyI, 512, .inl f10)), (h11, .inl (cyI, 512, .inl f11))]) E hP hD hS 3 rfl (by decide) rfl rfl dX0_node_166 (fun H locs hP hD hS => ?_)
  refine lv_aload_n hx hb dX0_node_167 rfl (lv_at hl 3 rfl) ?_
  refine x_get E iX0 hP 0 rfl rfl 2 (by decide) wq11 rfl dX0_node_168 ?_
  refine lv_iload hx hb dX0_node_171 (lv_at hl 0 rfl) ?_
  refine lv_iload_n hx hb dX0_node_173 rfl (lv_at hl 6 rfl) ?_
  refine x_iast (ws' := [(h0, .inr (0, [.ref h2, .ref h3, .ref h4, .ref h5, .ref h10, .ref h11, .ref h8, .ref h9, .ref h6, .ref h7, v0_10, .ref h1, .int 3, v0_13])), (h1, .inl (cyI, 512, .inl (upd (upd (fun _ => -1) 0 0) 483 1))), (h2, .inl (cyI, 512, .inl (upd (upd (upd (fun _ => 0) 0 0) 1 1) 2 1))), (h3, .inl (cyI, 512, .inl (upd (upd (upd (fun _ => 0) 0 0) 1 0) 2 0))), (h4, .inl (cyI, 512, .inl (upd (upd (upd (fun _ => 0) 0 0) 1 111) 2 105))), (h5, .inl (cyI, 512, .inl f5)), (h6, .inl (cyI, 512, .inl (upd (upd (fun _ => 0) 0 0) 1 248155107))), (h7, .inl (cyI, 512, .inl f7)), (h8, .inl (cyI, 512, .inl f8)), (h9, .inl (cyI, 512, .inl f9)), (h10, .inl (cyI, 512, .inl f10)), (h11, .inl (cyI, 512, .inl f11))]) E hP hD hS 4 rfl (by decide) rfl rfl dX0_node_174 (fun H locs hP hD hS => ?_)
  refine lv_aload_n hx hb dX0_node_175 rfl (lv_at hl 3 rfl) ?_
  refine x_get E iX0 hP 0 rfl rfl 3 (by decide) wq12 rfl dX0_node_176 ?_
  refine lv_iload hx hb dX0_node_179 (lv_at hl 0 rfl) ?_
  refine lv_iload hx hb dX0_node_181 (lv_at hl 7 rfl) ?_
  refine x_iast (ws' := [(h0, .inr (0, [.ref h2, .ref h3, .ref h4, .ref h5, .ref h10, .ref h11, .ref h8, .ref h9, .ref h6, .ref h7, v0_10, .ref h1, .int 3, v0_13])), (h1, .inl (cyI, 512, .inl (upd (upd (fun _ => -1) 0 0) 483 1))), (h2, .inl (cyI, 512, .inl (upd (upd (upd (fun _ => 0) 0 0) 1 1) 2 1))), (h3, .inl (cyI, 512, .inl (upd (upd (upd (fun _ => 0) 0 0) 1 0) 2 0))), (h4, .inl (cyI, 512, .inl (upd (upd (upd (fun _ => 0) 0 0) 1 111) 2 105))), (h5, .inl (cyI, 512, .inl (upd f5 2 0))), (h6, .inl (cyI, 512, .inl (upd (upd (fun _ => 0) 0 0) 1 248155107))), (h7, .inl (cyI, 512, .inl f7)), (h8, .inl (cyI, 512, .inl f8)), (h9, .inl (cyI, 512, .inl f9)), (h10, .inl (cyI, 512, .inl f10)), (h11, .inl (cyI, 512, .inl f11))]) E hP hD hS 5 rfl (by decide) rfl rfl dX0_node_183 (fun H locs hP hD hS => ?_)
  refine lv_aload_n hx hb dX0_node_184 rfl (lv_at hl 3 rfl) ?_
  refine x_get E iX0 hP 0 rfl rfl 8 (by decide) wq17 rfl dX0_node_185 ?_
  refine lv_iload hx hb dX0_node_188 (lv_at hl 0 rfl) ?_
  refine lv_iload hx hb dX0_node_190 (lv_at hl 2 rfl) ?_
  refine x_iast (ws' := [(h0, .inr (0, [.ref h2, .ref h3, .ref h4, .ref h5, .ref h10, .ref h11, .ref h8, .ref h9, .ref h6, .ref h7, v0_10, .ref h1, .int 3, v0_13])), (h1, .inl (cyI, 512, .inl (upd (upd (fun _ => -1) 0 0) 483 1))), (h2, .inl (cyI, 512, .inl (upd (upd (upd (fun _ => 0) 0 0) 1 1) 2 1))), (h3, .inl (cyI, 512, .inl (upd (upd (upd (fun _ => 0) 0 0) 1 0) 2 0))), (h4, .inl (cyI, 512, .inl (upd (upd (upd (fun _ => 0) 0 0) 1 111) 2 105))), (h5, .inl (cyI, 512, .inl (upd f5 2 0))), (h6, .inl (cyI, 512, .inl (upd (upd (upd (fun _ => 0) 0 0) 1 248155107) 2 248155109))), (h7, .inl (cyI, 512, .inl f7)), (h8, .inl (cyI, 512, .inl f8)), (h9, .inl (cyI, 512, .inl f9)), (h10, .inl (cyI, 512, .inl f10)), (h11, .inl (cyI, 512, .inl f11))]) E hP hD hS 6 rfl (by decide) rfl rfl dX0_node_192 (fun H locs hP hD hS => ?_)
  refine lv_aload_n hx hb dX0_node_193 rfl (lv_at hl 3 rfl) ?_
  refine lv_iload hx hb dX0_node_194 (lv_at hl 0 rfl) ?_
  refine x_Vv (rest := []) (ws' := fun _ => [(h2, .inl (cyI, 512, .inl (upd (upd (upd (fun _ => 0) 0 0) 1 1) 2 1))), (h3, .inl (cyI, 512, .inl (upd (upd (upd (fun _ => 0) 0 0) 1 0) 2 0))), (h4, .inl (cyI, 512, .inl (upd (upd (upd (fun _ => 0) 0 0) 1 111) 2 105))), (h5, .inl (cyI, 512, .inl (upd f5 2 0))), (h8, .inl (cyI, 512, .inl f8)), (h9, .inl (cyI, 512, .inl f9)), (h10, .inl (cyI, 512, .inl f10)), (h11, .inl (cyI, 512, .inl f11)), (h0, .inr (0, [.ref h2, .ref h3, .ref h4, .ref h5, .ref h10, .ref h11, .ref h8, .ref h9, .ref h6, .ref h7, v0_10, .ref h1, .int 3, v0_13])), (h6, .inl (cyI, 512, .inl (upd (upd (upd (fun _ => 0) 0 0) 1 248155107) 2 248155109))), (h1, .inl (cyI, 512, .inl (upd (upd (upd (fun _ => -1) 0 0) 483 1) 485 2))), (h7, .inl (cyI, 512, .inl (upd f7 2 (-1))))]) (wr := [(h2, .inl (cyI, 512, .inl (upd (upd (upd (fun _ => 0) 0 0) 1 1) 2 1))), (h3, .inl (cyI, 512, .inl (upd (upd (upd (fun _ => 0) 0 0) 1 0) 2 0))), (h4, .inl (cyI, 512, .inl (upd (upd (upd (fun _ => 0) 0 0) 1 111) 2 105))), (h5, .inl (cyI, 512, .inl (upd f5 2 0))), (h8, .inl (cyI, 512, .inl f8)), (h9, .inl (cyI, 512, .inl f9)), (h10, .inl (cyI, 512, .inl f10)), (h11, .inl (cyI, 512, .inl f11))]) E (mX0_link_2 l D cyI cyJ Z h0 h6 h1 h7 (.ref h2) (.ref h3) (.ref h4) (.ref h5) (.ref h10) (.ref h11) (.ref h8) (.ref h9) v0_10 (.int 3) v0_13 f7) kX0_link wq24 wq25 wq26 ⟨rfl, rfl, Nat.le_of_ble_eq_true rfl, Nat.le_of_ble_eq_true rfl⟩ hP hD hS hA [0, 6, 1, 7] [2, 3, 4, 5, 8, 9, 10, 11] rfl rfl (by decide) (fun _ => rfl) 0 rfl rfl rfl hl.1 rfl (Nat.le_of_ble_eq_true rfl) dX0_node_196 ⟨rfl, rfl⟩ ⟨Nat.le_of_ble_eq_true rfl, Nat.le_of_ble_eq_true rfl⟩ (fun _ H locs hP hD hS => ?_)
  refine lv_aload_n hx hb dX0_node_199 rfl (lv_at hl 3 rfl) ?_
  refine lv_iload hx hb dX0_node_200 (lv_at hl 0 rfl) ?_
  refine x_Vv (rest := []) (ws' := fun _ => [(h5, .inl (cyI, 512, .inl (upd f5 2 0))), (h6, .inl (cyI, 512, .inl (upd (upd (upd (fun _ => 0) 0 0) 1 248155107) 2 248155109))), (h1, .inl (cyI, 512, .inl (upd (upd (upd (fun _ => -1) 0 0) 483 1) 485 2))), (h7, .inl (cyI, 512, .inl (upd f7 2 (-1)))), (h0, .inr (0, [.ref h2, .ref h3, .ref h4, .ref h5, .ref h10, .ref h11, .ref h8, .ref h9, .ref h6, .ref h7, v0_10, .ref h1, .int 3, v0_13])), (h4, .inl (cyI, 512, .inl (upd (upd (upd (fun _ => 0) 0 0) 1 111) 2 105))), (h3, .inl (cyI, 512, .inl (upd (upd (upd (fun _ => 0) 0 0) 1 0) 2 0))), (h2, .inl (cyI, 512, .inl (upd (upd (upd (fun _ => 0) 0 0) 1 1) 2 1))), (h8, .inl (cyI, 512, .inl (upd f8 2 0))), (h9, .inl (cyI, 512, .inl (upd f9 2 0))), (h10, .inl (cyI, 512, .inl (upd f10 2 1))), (h11, .inl (cyI, 512, .inl (upd f11 2 0)))]) (wr := [(h5, .inl (cyI, 512, .inl (upd f5 2 0))), (h6, .inl (cyI, 512, .inl (upd (upd (upd (fun _ => 0) 0 0) 1 248155107) 2 248155109))), (h1, .inl (cyI, 512, .inl (upd (upd (upd (fun _ => -1) 0 0) 483 1) 485 2))), (h7, .inl (cyI, 512, .inl (upd f7 2 (-1))))]) E (mX0_measure_2 l D cyI cyJ Z h0 h4 h3 h2 h8 h9 h10 h11 (.ref h5) (.ref h6) (.ref h7) v0_10 (.ref h1) (.int 3) v0_13 f8 f9 f10 f11) kX0_measure wq27 wq28 wq29 ⟨rfl, rfl, Nat.le_of_ble_eq_true rfl, Nat.le_of_ble_eq_true rfl⟩ hP hD hS hA [8, 2, 1, 0, 4, 5, 6, 7] [3, 9, 10, 11] rfl rfl (by decide) (fun _ => rfl) 8 rfl rfl rfl hl.1 rfl (Nat.le_of_ble_eq_true rfl) dX0_node_202 ⟨rfl, rfl⟩ ⟨Nat.le_of_ble_eq_true rfl, Nat.le_of_ble_eq_true rfl⟩ (fun _ H locs hP hD hS => ?_)
  refine lv_iload hx hb dX0_node_205 (lv_at hl 0 rfl) ?_
  exact x_iret E hr hlk hP hD hS () rfl [4, 2, 7, 6, 5, 0, 1, 3, 8, 9, 10, 11] (by decide) rfl rfl dX0_node_207
