set_option maxHeartbeats 4000000 in
set_option maxRecDepth 100000 in
theorem mX11_lay (l : Launch) (D : va_G) (cyI cyJ : ClassId) (Z : xZ) (h0 : Nat) (p0 : Int32) (h1 : Nat) (v0_2 : Value) (v0_3 : Value) (v0_4 : Value) (v0_5 : Value) (v0_6 : Value) (v0_7 : Value) (v0_8 : Value) (v0_9 : Value) (v0_10 : Value) (v0_11 : Value) (v0_12 : Value) (v0_13 : Value) (v0_14 : Value) (v0_15 : Value) (f1 : Nat → Int32) : MetV l yX11_lay (Cond.code yX11_lay cX11_lay 3 none) { frames := 0, cells := 0, slots := 0, locals := 0 } D cyI cyJ Z [.ref h0, .int p0] [(h0, .inr (11, [.ref h1, .int 0, v0_2, v0_3, v0_4, v0_5, v0_6, v0_7, v0_8, v0_9, v0_10, v0_11, v0_12, v0_13, v0_14, v0_15])), (h1, .inl (cyI, 400, .inl f1))] (fun u : ((Nat → Nat) × (Nat → Nat → Int32)) => ([(h0, .inr (11, [.ref h1, .int 4, v0_2, v0_3, v0_4, v0_5, v0_6, v0_7, v0_8, v0_9, v0_10, v0_11, v0_12, v0_13, v0_14, v0_15])), (h1, .inl (cyI, 400, .inl (u.2 0)))] : va_W)) 0 0 := by
  refine met_v (by decide) rfl ?_
  intro p e s m below meth c A ls E hr hlk hnm hP hD hA hl
  have hS : va_S A s.heap s.heap [] := va_S.rf
  have hx := E.1.1
  have hb := E.1.2.1
  have hl : lv_has ls 3 [(0, .ref h0), (1, .int p0)] := hl
  refine lv_bipush (v := 24) hx hb dX11_lay_0 (by decide) ?_
  refine lv_istore_n (lv' := [(2, .int 24), (0, .ref h0), (1, .int p0)]) hx hb dX11_lay_2 rfl hl (by decide) rfl (fun ls hl => ?_)
  refine lv_iload_n hx hb dX11_lay_3 rfl (lv_at hl 0 rfl) ?_
  refine lv_if_lt (tgt := 51) hx hb dX11_lay_4 (by decide) (fun c9 => absurd c9 (by decide)) (fun c9 => ?_)
  refine lv_aload_n hx hb dX11_lay_7 rfl (lv_at hl 1 rfl) ?_
  refine x_get E iX11 hP 0 rfl rfl 1 (by decide) wq198 rfl dX11_lay_8 ?_
  refine lv_aload_n hx hb dX11_lay_11 rfl (lv_at hl 1 rfl) ?_
  refine x_get E iX11 hP 0 rfl rfl 0 (by decide) wq4 rfl dX11_lay_12 ?_
  refine x_alen (v := 400) E hP 1 rfl (by decide) dX11_lay_15 ?_
  refine lv_icmp_ge (tgt := 45) hx hb dX11_lay_16 (by decide) (fun c9 => absurd c9 (by decide)) (fun c9 => ?_)
  refine lv_aload_n hx hb dX11_lay_19 rfl (lv_at hl 1 rfl) ?_
  refine x_get E iX11 hP 0 rfl rfl 0 (by decide) wq4 rfl dX11_lay_20 ?_
  refine lv_aload_n hx hb dX11_lay_23 rfl (lv_at hl 1 rfl) ?_
  refine x_get E iX11 hP 0 rfl rfl 1 (by decide) wq198 rfl dX11_lay_24 ?_
  refine lv_iload_n hx hb dX11_lay_27 rfl (lv_at hl 2 rfl) ?_
  refine lv_iload_n hx hb dX11_lay_28 rfl (lv_at hl 0 rfl) ?_
  refine lv_iushr hx hb dX11_lay_29 rfl ?_
  refine lv_topi (fun t1 _ => ?_)
  refine lv_sipush (v := 255) hx hb dX11_lay_30 (by decide) ?_
  refine lv_iand hx hb dX11_lay_33 ?_
  refine lv_topi (fun t2 _ => ?_)
  refine x_iastG (wg := fun g3 => [(h0, .inr (11, [.ref h1, .int 0, v0_2, v0_3, v0_4, v0_5, v0_6, v0_7, v0_8, v0_9, v0_10, v0_11, v0_12, v0_13, v0_14, v0_15])), (h1, .inl (cyI, 400, .inl g3))]) E hP hD hS 1 rfl (by decide) (fun _ => rfl) dX11_lay_34 (fun g3 H locs hP hD hS => ?_)
  refine lv_aload_n hx hb dX11_lay_35 rfl (lv_at hl 1 rfl) ?_
  refine lv_dup hx hb dX11_lay_36 rfl ?_
  refine x_get E iX11 hP 0 rfl rfl 1 (by decide) wq198 rfl dX11_lay_37 ?_
  refine lv_iconst (v := 1) hx hb dX11_lay_40 (by decide) ?_
  refine lv_iadd hx hb dX11_lay_41 ?_
  refine x_topi (z := 1) (by decide) ?_
  refine x_put (ws' := [(h0, .inr (11, [.ref h1, .int 1, v0_2, v0_3, v0_4, v0_5, v0_6, v0_7, v0_8, v0_9, v0_10, v0_11, v0_12, v0_13, v0_14, v0_15])), (h1, .inl (cyI, 400, .inl g3))]) E iX11 tyX11 tyX11_ok nmX11 hP hD hS 0 rfl rfl 1 (by decide) wq198 rfl rfl rfl rfl rfl dX11_lay_42 (fun H locs hP hD hS => ?_)
  refine lv_iinc (v := 16) (lv' := [(2, .int 16), (0, .ref h0), (1, .int p0)]) hx hb dX11_lay_45 hl (k := 0) rfl (by decide) (by decide) rfl (fun ls hl => ?_)
  refine lv_goto (tgt := 3) hx hb dX11_lay_48 (by decide) ?_
  refine lv_iload_n hx hb dX11_lay_3 rfl (lv_at hl 0 rfl) ?_
  refine lv_if_lt (tgt := 51) hx hb dX11_lay_4 (by decide) (fun c9 => absurd c9 (by decide)) (fun c9 => ?_)
  refine lv_aload_n hx hb dX11_lay_7 rfl (lv_at hl 1 rfl) ?_
  refine x_get E iX11 hP 0 rfl rfl 1 (by decide) wq198 rfl dX11_lay_8 ?_
  refine lv_aload_n hx hb dX11_lay_11 rfl (lv_at hl 1 rfl) ?_
  refine x_get E iX11 hP 0 rfl rfl 0 (by decide) wq4 rfl dX11_lay_12 ?_
  refine x_alen (v := 400) E hP 1 rfl (by decide) dX11_lay_15 ?_
  refine lv_icmp_ge (tgt := 45) hx hb dX11_lay_16 (by decide) (fun c9 => absurd c9 (by decide)) (fun c9 => ?_)
  refine lv_aload_n hx hb dX11_lay_19 rfl (lv_at hl 1 rfl) ?_
  refine x_get E iX11 hP 0 rfl rfl 0 (by decide) wq4 rfl dX11_lay_20 ?_
  refine lv_aload_n hx hb dX11_lay_23 rfl (lv_at hl 1 rfl) ?_
  refine x_get E iX11 hP 0 rfl rfl 1 (by decide) wq198 rfl dX11_lay_24 ?_
  refine lv_iload_n hx hb dX11_lay_27 rfl (lv_at hl 2 rfl) ?_
  refine lv_iload_n hx hb dX11_lay_28 rfl (lv_at hl 0 rfl) ?_
  refine lv_iushr hx hb dX11_lay_29 rfl ?_
  refine lv_topi (fun t4 _ => ?_)
  refine lv_sipush (v := 255) hx hb dX11_lay_30 (by decide) ?_
  refine lv_iand hx hb dX11_lay_33 ?_
  refine lv_topi (fun t5 _ => ?_)
  refine x_iastG (wg := fun g6 => [(h0, .inr (11, [.ref h1, .int 1, v0_2, v0_3, v0_4, v0_5, v0_6, v0_7, v0_8, v0_9, v0_10, v0_11, v0_12, v0_13, v0_14, v0_15])), (h1, .inl (cyI, 400, .inl g6))]) E hP hD hS 1 rfl (by decide) (fun _ => rfl) dX11_lay_34 (fun g6 H locs hP hD hS => ?_)
  refine lv_aload_n hx hb dX11_lay_35 rfl (lv_at hl 1 rfl) ?_
  refine lv_dup hx hb dX11_lay_36 rfl ?_
  refine x_get E iX11 hP 0 rfl rfl 1 (by decide) wq198 rfl dX11_lay_37 ?_
  refine lv_iconst (v := 1) hx hb dX11_lay_40 (by decide) ?_
  refine lv_iadd hx hb dX11_lay_41 ?_
  refine x_topi (z := 2) (by decide) ?_
  refine x_put (ws' := [(h0, .inr (11, [.ref h1, .int 2, v0_2, v0_3, v0_4, v0_5, v0_6, v0_7, v0_8, v0_9, v0_10, v0_11, v0_12, v0_13, v0_14, v0_15])), (h1, .inl (cyI, 400, .inl g6))]) E iX11 tyX11 tyX11_ok nmX11 hP hD hS 0 rfl rfl 1 (by decide) wq198 rfl rfl rfl rfl rfl dX11_lay_42 (fun H locs hP hD hS => ?_)
  refine lv_iinc (v := 8) (lv' := [(2, .int 8), (0, .ref h0), (1, .int p0)]) hx hb dX11_lay_45 hl (k := 0) rfl (by decide) (by decide) rfl (fun ls hl => ?_)
  refine lv_goto (tgt := 3) hx hb dX11_lay_48 (by decide) ?_
  refine lv_iload_n hx hb dX11_lay_3 rfl (lv_at hl 0 rfl) ?_
  refine lv_if_lt (tgt := 51) hx hb dX11_lay_4 (by decide) (fun c9 => absurd c9 (by decide)) (fun c9 => ?_)
  refine lv_aload_n hx hb dX11_lay_7 rfl (lv_at hl 1 rfl) ?_
  refine x_get E iX11 hP 0 rfl rfl 1 (by decide) wq198 rfl dX11_lay_8 ?_
  refine lv_aload_n hx hb dX11_lay_11 rfl (lv_at hl 1 rfl) ?_
  refine x_get E iX11 hP 0 rfl rfl 0 (by decide) wq4 rfl dX11_lay_12 ?_
  refine x_alen (v := 400) E hP 1 rfl (by decide) dX11_lay_15 ?_
  refine lv_icmp_ge (tgt := 45) hx hb dX11_lay_16 (by decide) (fun c9 => absurd c9 (by decide)) (fun c9 => ?_)
  refine lv_aload_n hx hb dX11_lay_19 rfl (lv_at hl 1 rfl) ?_
  refine x_get E iX11 hP 0 rfl rfl 0 (by decide) wq4 rfl dX11_lay_20 ?_
  refine lv_aload_n hx hb dX11_lay_23 rfl (lv_at hl 1 rfl) ?_
  refine x_get E iX11 hP 0 rfl rfl 1 (by decide) wq198 rfl dX11_lay_24 ?_
  refine lv_iload_n hx hb dX11_lay_27 rfl (lv_at hl 2 rfl) ?_
  refine lv_iload_n hx hb dX11_lay_28 rfl (lv_at hl 0 rfl) ?_
  refine lv_iushr hx hb dX11_lay_29 rfl ?_
  refine lv_topi (fun t7 _ => ?_)
  refine lv_sipush (v := 255) hx hb dX11_lay_30 (by decide) ?_
  refine lv_iand hx hb dX11_lay_33 ?_
  refine lv_topi (fun t8 _ => ?_)
  refine x_iastG (wg := fun g9 => [(h0, .inr (11, [.ref h1, .int 2, v0_2, v0_3, v0_4, v0_5, v0_6, v0_7, v0_8, v0_9, v0_10, v0_11, v0_12, v0_13, v0_14, v0_15])), (h1, .inl (cyI, 400, .inl g9))]) E hP hD hS 1 rfl (by decide) (fun _ => rfl) dX11_lay_34 (fun g9 H locs hP hD hS => ?_)
  refine lv_aload_n hx hb dX11_lay_35 rfl (lv_at hl 1 rfl) ?_
  refine lv_dup hx hb dX11_lay_36 rfl ?_
  refine x_get E iX11 hP 0 rfl rfl 1 (by decide) wq198 rfl dX11_lay_37 ?_
  refine lv_iconst (v := 1) hx hb dX11_lay_40 (by decide) ?_
  refine lv_iadd hx hb dX11_lay_41 ?_
  refine x_topi (z := 3) (by decide) ?_
  refine x_put (ws' := [(h0, .inr (11, [.ref h1, .int 3, v0_2, v0_3, v0_4, v0_5, v0_6, v0_7, v0_8, v0_9, v0_10, v0_11, v0_12, v0_13, v0_14, v0_15])), (h1, .inl (cyI, 400, .inl g9))]) E iX11 tyX11 tyX11_ok nmX11 hP hD hS 0 rfl rfl 1 (by decide) wq198 rfl rfl rfl rfl rfl dX11_lay_42 (fun H locs hP hD hS => ?_)
  refine lv_iinc (v := 0) (lv' := [(2, .int 0), (0, .ref h0), (1, .int p0)]) hx hb dX11_lay_45 hl (k := 0) rfl (by decide) (by decide) rfl (fun ls hl => ?_)
  refine lv_goto (tgt := 3) hx hb dX11_lay_48 (by decide) ?_
  refine lv_iload_n hx hb dX11_lay_3 rfl (lv_at hl 0 rfl) ?_
  refine lv_if_lt (tgt := 51) hx hb dX11_lay_4 (by decide) (fun c9 => absurd c9 (by decide)) (fun c9 => ?_)
  refine lv_aload_n hx hb dX11_lay_7 rfl (lv_at hl 1 rfl) ?_
  refine x_get E iX11 hP 0 rfl rfl 1 (by decide) wq198 rfl dX11_lay_8 ?_
  refine lv_aload_n hx hb dX11_lay_11 rfl (lv_at hl 1 rfl) ?_
  refine x_get E iX11 hP 0 rfl rfl 0 (by decide) wq4 rfl dX11_lay_12 ?_
  refine x_alen (v := 400) E hP 1 rfl (by decide) dX11_lay_15 ?_
  refine lv_icmp_ge (tgt := 45) hx hb dX11_lay_16 (by decide) (fun c9 => absurd c9 (by decide)) (fun c9 => ?_)
  refine lv_aload_n hx hb dX11_lay_19 rfl (lv_at hl 1 rfl) ?_
  refine x_get E iX11 hP 0 rfl rfl 0 (by decide) wq4 rfl dX11_lay_20 ?_
  refine lv_aload_n hx hb dX11_lay_23 rfl (lv_at hl 1 rfl) ?_
  refine x_get E iX11 hP 0 rfl rfl 1 (by decide) wq198 rfl dX11_lay_24 ?_
  refine lv_iload_n hx hb dX11_lay_27 rfl (lv_at hl 2 rfl) ?_
  refine lv_iload_n hx hb dX11_lay_28 rfl (lv_at hl 0 rfl) ?_
  refine lv_iushr hx hb dX11_lay_29 rfl ?_
  refine lv_topi (fun t10 _ => ?_)
  refine lv_sipush (v := 255) hx hb dX11_lay_30 (by decide) ?_
  refine lv_iand hx hb dX11_lay_33 ?_
  refine lv_topi (fun t11 _ => ?_)
  refine x_iastG (wg := fun g12 => [(h0, .inr (11, [.ref h1, .int 3, v0_2, v0_3, v0_4, v0_5, v0_6, v0_7, v0_8, v0_9, v0_10, v0_11, v0_12, v0_13, v0_14, v0_15])), (h1, .inl (cyI, 400, .inl g12))]) E hP hD hS 1 rfl (by decide) (fun _ => rfl) dX11_lay_34 (fun g12 H locs hP hD hS => ?_)
  refine lv_aload_n hx hb dX11_lay_35 rfl (lv_at hl 1 rfl) ?_
  refine lv_dup hx hb dX11_lay_36 rfl ?_
  refine x_get E iX11 hP 0 rfl rfl 1 (by decide) wq198 rfl dX11_lay_37 ?_
  refine lv_iconst (v := 1) hx hb dX11_lay_40 (by decide) ?_
  refine lv_iadd hx hb dX11_lay_41 ?_
  refine x_topi (z := 4) (by decide) ?_
  refine x_put (ws' := [(h0, .inr (11, [.ref h1, .int 4, v0_2, v0_3, v0_4, v0_5, v0_6, v0_7, v0_8, v0_9, v0_10, v0_11, v0_12, v0_13, v0_14, v0_15])), (h1, .inl (cyI, 400, .inl g12))]) E iX11 tyX11 tyX11_ok nmX11 hP hD hS 0 rfl rfl 1 (by decide) wq198 rfl rfl rfl rfl rfl dX11_lay_42 (fun H locs hP hD hS => ?_)
  refine lv_iinc (v := (-8)) (lv' := [(2, .int (-8)), (0, .ref h0), (1, .int p0)]) hx hb dX11_lay_45 hl (k := 0) rfl (by decide) (by decide) rfl (fun ls hl => ?_)
  refine lv_goto (tgt := 3) hx hb dX11_lay_48 (by decide) ?_
  refine lv_iload_n hx hb dX11_lay_3 rfl (lv_at hl 0 rfl) ?_
  refine lv_if_lt (tgt := 51) hx hb dX11_lay_4 (by decide) (fun c9 => ?_) (fun c9 => absurd (by decide) c9)
  exact x_vret E hr hlk hP hD hS (fun k => [].getD k 0, fun k => [g12].getD k (fun _ => 0)) [0, 1] (by decide) rfl dX11_lay_51

set_option maxHeartbeats 4000000 in
set_option maxRecDepth 100000 in
theorem mX11_lay_1 (l : Launch) (D : va_G) (cyI cyJ : ClassId) (Z : xZ) (h0 : Nat) (p0 : Int32) (h1 : Nat) (v0_2 : Value) (v0_3 : Value) (v0_4 : Value) (v0_5 : Value) (v0_6 : Value) (v0_7 : Value) (v0_8 : Value) (v0_9 : Value) (v0_10 : Value) (v0_11 : Value) (v0_12 : Value) (v0_13 : Value) (v0_14 : Value) (v0_15 : Value) (f1 : Nat → Int32) : MetV l yX11_lay (Cond.code yX11_lay cX11_lay 3 none) { frames := 0, cells := 0, slots := 0, locals := 0 } D cyI cyJ Z [.ref h0, .int p0] [(h0, .inr (11, [.ref h1, .int 4, v0_2, v0_3, v0_4, v0_5, v0_6, v0_7, v0_8, v0_9, v0_10, v0_11, v0_12, v0_13, v0_14, v0_15])), (h1, .inl (cyI, 400, .inl f1))] (fun u : ((Nat → Nat) × (Nat → Nat → Int32)) => ([(h0, .inr (11, [.ref h1, .int 8, v0_2, v0_3, v0_4, v0_5, v0_6, v0_7, v0_8, v0_9, v0_10, v0_11, v0_12, v0_13, v0_14, v0_15])), (h1, .inl (cyI, 400, .inl (u.2 0)))] : va_W)) 0 0 := by
  refine met_v (by decide) rfl ?_
  intro p e s m below meth c A ls E hr hlk hnm hP hD hA hl
  have hS : va_S A s.heap s.heap [] := va_S.rf
  have hx := E.1.1
  have hb := E.1.2.1
  have hl : lv_has ls 3 [(0, .ref h0), (1, .int p0)] := hl
  refine lv_bipush (v := 24) hx hb dX11_lay_0 (by decide) ?_
  refine lv_istore_n (lv' := [(2, .int 24), (0, .ref h0), (1, .int p0)]) hx hb dX11_lay_2 rfl hl (by decide) rfl (fun ls hl => ?_)
  refine lv_iload_n hx hb dX11_lay_3 rfl (lv_at hl 0 rfl) ?_
  refine lv_if_lt (tgt := 51) hx hb dX11_lay_4 (by decide) (fun c9 => absurd c9 (by decide)) (fun c9 => ?_)
  refine lv_aload_n hx hb dX11_lay_7 rfl (lv_at hl 1 rfl) ?_
  refine x_get E iX11 hP 0 rfl rfl 1 (by decide) wq198 rfl dX11_lay_8 ?_
  refine lv_aload_n hx hb dX11_lay_11 rfl (lv_at hl 1 rfl) ?_
  refine x_get E iX11 hP 0 rfl rfl 0 (by decide) wq4 rfl dX11_lay_12 ?_
  refine x_alen (v := 400) E hP 1 rfl (by decide) dX11_lay_15 ?_
  refine lv_icmp_ge (tgt := 45) hx hb dX11_lay_16 (by decide) (fun c9 => absurd c9 (by decide)) (fun c9 => ?_)
  refine lv_aload_n hx hb dX11_lay_19 rfl (lv_at hl 1 rfl) ?_
  refine x_get E iX11 hP 0 rfl rfl 0 (by decide) wq4 rfl dX11_lay_20 ?_
  refine lv_aload_n hx hb dX11_lay_23 rfl (lv_at hl 1 rfl) ?_
  refine x_get E iX11 hP 0 rfl rfl 1 (by decide) wq198 rfl dX11_lay_24 ?_
  refine lv_iload_n hx hb dX11_lay_27 rfl (lv_at hl 2 rfl) ?_
  refine lv_iload_n hx hb dX11_lay_28 rfl (lv_at hl 0 rfl) ?_
  refine lv_iushr hx hb dX11_lay_29 rfl ?_
  refine lv_topi (fun t1 _ => ?_)
  refine lv_sipush (v := 255) hx hb dX11_lay_30 (by decide) ?_
  refine lv_iand hx hb dX11_lay_33 ?_
  refine lv_topi (fun t2 _ => ?_)
  refine x_iastG (wg := fun g3 => [(h0, .inr (11, [.ref h1, .int 4, v0_2, v0_3, v0_4, v0_5, v0_6, v0_7, v0_8, v0_9, v0_10, v0_11, v0_12, v0_13, v0_14, v0_15])), (h1, .inl (cyI, 400, .inl g3))]) E hP hD hS 1 rfl (by decide) (fun _ => rfl) dX11_lay_34 (fun g3 H locs hP hD hS => ?_)
  refine lv_aload_n hx hb dX11_lay_35 rfl (lv_at hl 1 rfl) ?_
  refine lv_dup hx hb dX11_lay_36 rfl ?_
  refine x_get E iX11 hP 0 rfl rfl 1 (by decide) wq198 rfl dX11_lay_37 ?_
  refine lv_iconst (v := 1) hx hb dX11_lay_40 (by decide) ?_
  refine lv_iadd hx hb dX11_lay_41 ?_
  refine x_topi (z := 5) (by decide) ?_
  refine x_put (ws' := [(h0, .inr (11, [.ref h1, .int 5, v0_2, v0_3, v0_4, v0_5, v0_6, v0_7, v0_8, v0_9, v0_10, v0_11, v0_12, v0_13, v0_14, v0_15])), (h1, .inl (cyI, 400, .inl g3))]) E iX11 tyX11 tyX11_ok nmX11 hP hD hS 0 rfl rfl 1 (by decide) wq198 rfl rfl rfl rfl rfl dX11_lay_42 (fun H locs hP hD hS => ?_)
  refine lv_iinc (v := 16) (lv' := [(2, .int 16), (0, .ref h0), (1, .int p0)]) hx hb dX11_lay_45 hl (k := 0) rfl (by decide) (by decide) rfl (fun ls hl => ?_)
  refine lv_goto (tgt := 3) hx hb dX11_lay_48 (by decide) ?_
  refine lv_iload_n hx hb dX11_lay_3 rfl (lv_at hl 0 rfl) ?_
  refine lv_if_lt (tgt := 51) hx hb dX11_lay_4 (by decide) (fun c9 => absurd c9 (by decide)) (fun c9 => ?_)
  refine lv_aload_n hx hb dX11_lay_7 rfl (lv_at hl 1 rfl) ?_
  refine x_get E iX11 hP 0 rfl rfl 1 (by decide) wq198 rfl dX11_lay_8 ?_
  refine lv_aload_n hx hb dX11_lay_11 rfl (lv_at hl 1 rfl) ?_
  refine x_get E iX11 hP 0 rfl rfl 0 (by decide) wq4 rfl dX11_lay_12 ?_
  refine x_alen (v := 400) E hP 1 rfl (by decide) dX11_lay_15 ?_
  refine lv_icmp_ge (tgt := 45) hx hb dX11_lay_16 (by decide) (fun c9 => absurd c9 (by decide)) (fun c9 => ?_)
  refine lv_aload_n hx hb dX11_lay_19 rfl (lv_at hl 1 rfl) ?_
  refine x_get E iX11 hP 0 rfl rfl 0 (by decide) wq4 rfl dX11_lay_20 ?_
  refine lv_aload_n hx hb dX11_lay_23 rfl (lv_at hl 1 rfl) ?_
  refine x_get E iX11 hP 0 rfl rfl 1 (by decide) wq198 rfl dX11_lay_24 ?_
  refine lv_iload_n hx hb dX11_lay_27 rfl (lv_at hl 2 rfl) ?_
  refine lv_iload_n hx hb dX11_lay_28 rfl (lv_at hl 0 rfl) ?_
  refine lv_iushr hx hb dX11_lay_29 rfl ?_
  refine lv_topi (fun t4 _ => ?_)
  refine lv_sipush (v := 255) hx hb dX11_lay_30 (by decide) ?_
  refine lv_iand hx hb dX11_lay_33 ?_
  refine lv_topi (fun t5 _ => ?_)
  refine x_iastG (wg := fun g6 => [(h0, .inr (11, [.ref h1, .int 5, v0_2, v0_3, v0_4, v0_5, v0_6, v0_7, v0_8, v0_9, v0_10, v0_11, v0_12, v0_13, v0_14, v0_15])), (h1, .inl (cyI, 400, .inl g6))]) E hP hD hS 1 rfl (by decide) (fun _ => rfl) dX11_lay_34 (fun g6 H locs hP hD hS => ?_)
  refine lv_aload_n hx hb dX11_lay_35 rfl (lv_at hl 1 rfl) ?_
  refine lv_dup hx hb dX11_lay_36 rfl ?_
  refine x_get E iX11 hP 0 rfl rfl 1 (by decide) wq198 rfl dX11_lay_37 ?_
  refine lv_iconst (v := 1) hx hb dX11_lay_40 (by decide) ?_
  refine lv_iadd hx hb dX11_lay_41 ?_
  refine x_topi (z := 6) (by decide) ?_
  refine x_put (ws' := [(h0, .inr (11, [.ref h1, .int 6, v0_2, v0_3, v0_4, v0_5, v0_6, v0_7, v0_8, v0_9, v0_10, v0_11, v0_12, v0_13, v0_14, v0_15])), (h1, .inl (cyI, 400, .inl g6))]) E iX11 tyX11 tyX11_ok nmX11 hP hD hS 0 rfl rfl 1 (by decide) wq198 rfl rfl rfl rfl rfl dX11_lay_42 (fun H locs hP hD hS => ?_)
  refine lv_iinc (v := 8) (lv' := [(2, .int 8), (0, .ref h0), (1, .int p0)]) hx hb dX11_lay_45 hl (k := 0) rfl (by decide) (by decide) rfl (fun ls hl => ?_)
  refine lv_goto (tgt := 3) hx hb dX11_lay_48 (by decide) ?_
  refine lv_iload_n hx hb dX11_lay_3 rfl (lv_at hl 0 rfl) ?_
  refine lv_if_lt (tgt := 51) hx hb dX11_lay_4 (by decide) (fun c9 => absurd c9 (by decide)) (fun c9 => ?_)
  refine lv_aload_n hx hb dX11_lay_7 rfl (lv_at hl 1 rfl) ?_
  refine x_get E iX11 hP 0 rfl rfl 1 (by decide) wq198 rfl dX11_lay_8 ?_
  refine lv_aload_n hx hb dX11_lay_11 rfl (lv_at hl 1 rfl) ?_
  refine x_get E iX11 hP 0 rfl rfl 0 (by decide) wq4 rfl dX11_lay_12 ?_
  refine x_alen (v := 400) E hP 1 rfl (by decide) dX11_lay_15 ?_
  refine lv_icmp_ge (tgt := 45) hx hb dX11_lay_16 (by decide) (fun c9 => absurd c9 (by decide)) (fun c9 => ?_)
  refine lv_aload_n hx hb dX11_lay_19 rfl (lv_at hl 1 rfl) ?_
  refine x_get E iX11 hP 0 rfl rfl 0 (by decide) wq4 rfl dX11_lay_20 ?_
  refine lv_aload_n hx hb dX11_lay_23 rfl (lv_at hl 1 rfl) ?_
  refine x_get E iX11 hP 0 rfl rfl 1 (by decide) wq198 rfl dX11_lay_24 ?_
  refine lv_iload_n hx hb dX11_lay_27 rfl (lv_at hl 2 rfl) ?_
  refine lv_iload_n hx hb dX11_lay_28 rfl (lv_at hl 0 rfl) ?_
  refine lv_iushr hx hb dX11_lay_29 rfl ?_
  refine lv_topi (fun t7 _ => ?_)
  refine lv_sipush (v := 255) hx hb dX11_lay_30 (by decide) ?_
  refine lv_iand hx hb dX11_lay_33 ?_
  refine lv_topi (fun t8 _ => ?_)
  refine x_iastG (wg := fun g9 => [(h0, .inr (11, [.ref h1, .int 6, v0_2, v0_3, v0_4, v0_5, v0_6, v0_7, v0_8, v0_9, v0_10, v0_11, v0_12, v0_13, v0_14, v0_15])), (h1, .inl (cyI, 400, .inl g9))]) E hP hD hS 1 rfl (by decide) (fun _ => rfl) dX11_lay_34 (fun g9 H locs hP hD hS => ?_)
  refine lv_aload_n hx hb dX11_lay_35 rfl (lv_at hl 1 rfl) ?_
  refine lv_dup hx hb dX11_lay_36 rfl ?_
  refine x_get E iX11 hP 0 rfl rfl 1 (by decide) wq198 rfl dX11_lay_37 ?_
  refine lv_iconst (v := 1) hx hb dX11_lay_40 (by decide) ?_
  refine lv_iadd hx hb dX11_lay_41 ?_
  refine x_topi (z := 7) (by decide) ?_
  refine x_put (ws' := [(h0, .inr (11, [.ref h1, .int 7, v0_2, v0_3, v0_4, v0_5, v0_6, v0_7, v0_8, v0_9, v0_10, v0_11, v0_12, v0_13, v0_14, v0_15])), (h1, .inl (cyI, 400, .inl g9))]) E iX11 tyX11 tyX11_ok nmX11 hP hD hS 0 rfl rfl 1 (by decide) wq198 rfl rfl rfl rfl rfl dX11_lay_42 (fun H locs hP hD hS => ?_)
  refine lv_iinc (v := 0) (lv' := [(2, .int 0), (0, .ref h0), (1, .int p0)]) hx hb dX11_lay_45 hl (k := 0) rfl (by decide) (by decide) rfl (fun ls hl => ?_)
  refine lv_goto (tgt := 3) hx hb dX11_lay_48 (by decide) ?_
  refine lv_iload_n hx hb dX11_lay_3 rfl (lv_at hl 0 rfl) ?_
  refine lv_if_lt (tgt := 51) hx hb dX11_lay_4 (by decide) (fun c9 => absurd c9 (by decide)) (fun c9 => ?_)
  refine lv_aload_n hx hb dX11_lay_7 rfl (lv_at hl 1 rfl) ?_
  refine x_get E iX11 hP 0 rfl rfl 1 (by decide) wq198 rfl dX11_lay_8 ?_
  refine lv_aload_n hx hb dX11_lay_11 rfl (lv_at hl 1 rfl) ?_
  refine x_get E iX11 hP 0 rfl rfl 0 (by decide) wq4 rfl dX11_lay_12 ?_
  refine x_alen (v := 400) E hP 1 rfl (by decide) dX11_lay_15 ?_
  refine lv_icmp_ge (tgt := 45) hx hb dX11_lay_16 (by decide) (fun c9 => absurd c9 (by decide)) (fun c9 => ?_)
  refine lv_aload_n hx hb dX11_lay_19 rfl (lv_at hl 1 rfl) ?_
  refine x_get E iX11 hP 0 rfl rfl 0 (by decide) wq4 rfl dX11_lay_20 ?_
  refine lv_aload_n hx hb dX11_lay_23 rfl (lv_at hl 1 rfl) ?_
  refine x_get E iX11 hP 0 rfl rfl 1 (by decide) wq198 rfl dX11_lay_24 ?_
  refine lv_iload_n hx hb dX11_lay_27 rfl (lv_at hl 2 rfl) ?_
  refine lv_iload_n hx hb dX11_lay_28 rfl (lv_at hl 0 rfl) ?_
  refine lv_iushr hx hb dX11_lay_29 rfl ?_
  refine lv_topi (fun t10 _ => ?_)
  refine lv_sipush (v := 255) hx hb dX11_lay_30 (by decide) ?_
  refine lv_iand hx hb dX11_lay_33 ?_
  refine lv_topi (fun t11 _ => ?_)
  refine x_iastG (wg := fun g12 => [(h0, .inr (11, [.ref h1, .int 7, v0_2, v0_3, v0_4, v0_5, v0_6, v0_7, v0_8, v0_9, v0_10, v0_11, v0_12, v0_13, v0_14, v0_15])), (h1, .inl (cyI, 400, .inl g12))]) E hP hD hS 1 rfl (by decide) (fun _ => rfl) dX11_lay_34 (fun g12 H locs hP hD hS => ?_)
  refine lv_aload_n hx hb dX11_lay_35 rfl (lv_at hl 1 rfl) ?_
  refine lv_dup hx hb dX11_lay_36 rfl ?_
  refine x_get E iX11 hP 0 rfl rfl 1 (by decide) wq198 rfl dX11_lay_37 ?_
  refine lv_iconst (v := 1) hx hb dX11_lay_40 (by decide) ?_
  refine lv_iadd hx hb dX11_lay_41 ?_
  refine x_topi (z := 8) (by decide) ?_
  refine x_put (ws' := [(h0, .inr (11, [.ref h1, .int 8, v0_2, v0_3, v0_4, v0_5, v0_6, v0_7, v0_8, v0_9, v0_10, v0_11, v0_12, v0_13, v0_14, v0_15])), (h1, .inl (cyI, 400, .inl g12))]) E iX11 tyX11 tyX11_ok nmX11 hP hD hS 0 rfl rfl 1 (by decide) wq198 rfl rfl rfl rfl rfl dX11_lay_42 (fun H locs hP hD hS => ?_)
  refine lv_iinc (v := (-8)) (lv' := [(2, .int (-8)), (0, .ref h0), (1, .int p0)]) hx hb dX11_lay_45 hl (k := 0) rfl (by decide) (by decide) rfl (fun ls hl => ?_)
  refine lv_goto (tgt := 3) hx hb dX11_lay_48 (by decide) ?_
  refine lv_iload_n hx hb dX11_lay_3 rfl (lv_at hl 0 rfl) ?_
  refine lv_if_lt (tgt := 51) hx hb dX11_lay_4 (by decide) (fun c9 => ?_) (fun c9 => absurd (by decide) c9)
  exact x_vret E hr hlk hP hD hS (fun k => [].getD k 0, fun k => [g12].getD k (fun _ => 0)) [0, 1] (by decide) rfl dX11_lay_51

set_option maxHeartbeats 4000000 in
set_option maxRecDepth 100000 in
theorem mX11_lay_2 (l : Launch) (D : va_G) (cyI cyJ : ClassId) (Z : xZ) (h0 : Nat) (p0 : Int32) (h1 : Nat) (v0_2 : Value) (v0_3 : Value) (v0_4 : Value) (v0_5 : Value) (v0_6 : Value) (v0_7 : Value) (v0_8 : Value) (v0_9 : Value) (v0_10 : Value) (v0_11 : Value) (v0_12 : Value) (v0_13 : Value) (v0_14 : Value) (v0_15 : Value) (f1 : Nat → Int32) : MetV l yX11_lay (Cond.code yX11_lay cX11_lay 3 none) { frames := 0, cells := 0, slots := 0, locals := 0 } D cyI cyJ Z [.ref h0, .int p0] [(h0, .inr (11, [.ref h1, .int 8, v0_2, v0_3, v0_4, v0_5, v0_6, v0_7, v0_8, v0_9, v0_10, v0_11, v0_12, v0_13, v0_14, v0_15])), (h1, .inl (cyI, 400, .inl f1))] (fun u : ((Nat → Nat) × (Nat → Nat → Int32)) => ([(h0, .inr (11, [.ref h1, .int 12, v0_2, v0_3, v0_4, v0_5, v0_6, v0_7, v0_8, v0_9, v0_10, v0_11, v0_12, v0_13, v0_14, v0_15])), (h1, .inl (cyI, 400, .inl (u.2 0)))] : va_W)) 0 0 := by
  refine met_v (by decide) rfl ?_
  intro p e s m below meth c A ls E hr hlk hnm hP hD hA hl
  have hS : va_S A s.heap s.heap [] := va_S.rf
  have hx := E.1.1
  have hb := E.1.2.1
  have hl : lv_has ls 3 [(0, .ref h0), (1, .int p0)] := hl
  refine lv_bipush (v := 24) hx hb dX11_lay_0 (by decide) ?_
  refine lv_istore_n (lv' := [(2, .int 24), (0, .ref h0), (1, .int p0)]) hx hb dX11_lay_2 rfl hl (by decide) rfl (fun ls hl => ?_)
  refine lv_iload_n hx hb dX11_lay_3 rfl (lv_at hl 0 rfl) ?_
  refine lv_if_lt (tgt := 51) hx hb dX11_lay_4 (by decide) (fun c9 => absurd c9 (by decide)) (fun c9 => ?_)
  refine lv_aload_n hx hb dX11_lay_7 rfl (lv_at hl 1 rfl) ?_
  refine x_get E iX11 hP 0 rfl rfl 1 (by decide) wq198 rfl dX11_lay_8 ?_
  refine lv_aload_n hx hb dX11_lay_11 rfl (lv_at hl 1 rfl) ?_
  refine x_get E iX11 hP 0 rfl rfl 0 (by decide) wq4 rfl dX11_lay_12 ?_
  refine x_alen (v := 400) E hP 1 rfl (by decide) dX11_lay_15 ?_
  refine lv_icmp_ge (tgt := 45) hx hb dX11_lay_16 (by decide) (fun c9 => absurd c9 (by decide)) (fun c9 => ?_)
  refine lv_aload_n hx hb dX11_lay_19 rfl (lv_at hl 1 rfl) ?_
  refine x_get E iX11 hP 0 rfl rfl 0 (by decide) wq4 rfl dX11_lay_20 ?_
  refine lv_aload_n hx hb dX11_lay_23 rfl (lv_at hl 1 rfl) ?_
  refine x_get E iX11 hP 0 rfl rfl 1 (by decide) wq198 rfl dX11_lay_24 ?_
  refine lv_iload_n hx hb dX11_lay_27 rfl (lv_at hl 2 rfl) ?_
  refine lv_iload_n hx hb dX11_lay_28 rfl (lv_at hl 0 rfl) ?_
  refine lv_iushr hx hb dX11_lay_29 rfl ?_
  refine lv_topi (fun t1 _ => ?_)
  refine lv_sipush (v := 255) hx hb dX11_lay_30 (by decide) ?_
  refine lv_iand hx hb dX11_lay_33 ?_
  refine lv_topi (fun t2 _ => ?_)
  refine x_iastG (wg := fun g3 => [(h0, .inr (11, [.ref h1, .int 8, v0_2, v0_3, v0_4, v0_5, v0_6, v0_7, v0_8, v0_9, v0_10, v0_11, v0_12, v0_13, v0_14, v0_15])), (h1, .inl (cyI, 400, .inl g3))]) E hP hD hS 1 rfl (by decide) (fun _ => rfl) dX11_lay_34 (fun g3 H locs hP hD hS => ?_)
  refine lv_aload_n hx hb dX11_lay_35 rfl (lv_at hl 1 rfl) ?_
  refine lv_dup hx hb dX11_lay_36 rfl ?_
  refine x_get E iX11 hP 0 rfl rfl 1 (by decide) wq198 rfl dX11_lay_37 ?_
  refine lv_iconst (v := 1) hx hb dX11_lay_40 (by decide) ?_
  refine lv_iadd hx hb dX11_lay_41 ?_
  refine x_topi (z := 9) (by decide) ?_
  refine x_put (ws' := [(h0, .inr (11, [.ref h1, .int 9, v0_2, v0_3, v0_4, v0_5, v0_6, v0_7, v0_8, v0_9, v0_10, v0_11, v0_12, v0_13, v0_14, v0_15])), (h1, .inl (cyI, 400, .inl g3))]) E iX11 tyX11 tyX11_ok nmX11 hP hD hS 0 rfl rfl 1 (by decide) wq198 rfl rfl rfl rfl rfl dX11_lay_42 (fun H locs hP hD hS => ?_)
  refine lv_iinc (v := 16) (lv' := [(2, .int 16), (0, .ref h0), (1, .int p0)]) hx hb dX11_lay_45 hl (k := 0) rfl (by decide) (by decide) rfl (fun ls hl => ?_)
  refine lv_goto (tgt := 3) hx hb dX11_lay_48 (by decide) ?_
  refine lv_iload_n hx hb dX11_lay_3 rfl (lv_at hl 0 rfl) ?_
  refine lv_if_lt (tgt := 51) hx hb dX11_lay_4 (by decide) (fun c9 => absurd c9 (by decide)) (fun c9 => ?_)
  refine lv_aload_n hx hb dX11_lay_7 rfl (lv_at hl 1 rfl) ?_
  refine x_get E iX11 hP 0 rfl rfl 1 (by decide) wq198 rfl dX11_lay_8 ?_
  refine lv_aload_n hx hb dX11_lay_11 rfl (lv_at hl 1 rfl) ?_
  refine x_get E iX11 hP 0 rfl rfl 0 (by decide) wq4 rfl dX11_lay_12 ?_
  refine x_alen (v := 400) E hP 1 rfl (by decide) dX11_lay_15 ?_
  refine lv_icmp_ge (tgt := 45) hx hb dX11_lay_16 (by decide) (fun c9 => absurd c9 (by decide)) (fun c9 => ?_)
  refine lv_aload_n hx hb dX11_lay_19 rfl (lv_at hl 1 rfl) ?_
  refine x_get E iX11 hP 0 rfl rfl 0 (by decide) wq4 rfl dX11_lay_20 ?_
  refine lv_aload_n hx hb dX11_lay_23 rfl (lv_at hl 1 rfl) ?_
  refine x_get E iX11 hP 0 rfl rfl 1 (by decide) wq198 rfl dX11_lay_24 ?_
  refine lv_iload_n hx hb dX11_lay_27 rfl (lv_at hl 2 rfl) ?_
  refine lv_iload_n hx hb dX11_lay_28 rfl (lv_at hl 0 rfl) ?_
  refine lv_iushr hx hb dX11_lay_29 rfl ?_
  refine lv_topi (fun t4 _ => ?_)
  refine lv_sipush (v := 255) hx hb dX11_lay_30 (by decide) ?_
  refine lv_iand hx hb dX11_lay_33 ?_
  refine lv_topi (fun t5 _ => ?_)
  refine x_iastG (wg := fun g6 => [(h0, .inr (11, [.ref h1, .int 9, v0_2, v0_3, v0_4, v0_5, v0_6, v0_7, v0_8, v0_9, v0_10, v0_11, v0_12, v0_13, v0_14, v0_15])), (h1, .inl (cyI, 400, .inl g6))]) E hP hD hS 1 rfl (by decide) (fun _ => rfl) dX11_lay_34 (fun g6 H locs hP hD hS => ?_)
  refine lv_aload_n hx hb dX11_lay_35 rfl (lv_at hl 1 rfl) ?_
  refine lv_dup hx hb dX11_lay_36 rfl ?_
  refine x_get E iX11 hP 0 rfl rfl 1 (by decide) wq198 rfl dX11_lay_37 ?_
  refine lv_iconst (v := 1) hx hb dX11_lay_40 (by decide) ?_
  refine lv_iadd hx hb dX11_lay_41 ?_
  refine x_topi (z := 10) (by decide) ?_
  refine x_put (ws' := [(h0, .inr (11, [.ref h1, .int 10, v0_2, v0_3, v0_4, v0_5, v0_6, v0_7, v0_8, v0_9, v0_10, v0_11, v0_12, v0_13, v0_14, v0_15])), (h1, .inl (cyI, 400, .inl g6))]) E iX11 tyX11 tyX11_ok nmX11 hP hD hS 0 rfl rfl 1 (by decide) wq198 rfl rfl rfl rfl rfl dX11_lay_42 (fun H locs hP hD hS => ?_)
  refine lv_iinc (v := 8) (lv' := [(2, .int 8), (0, .ref h0), (1, .int p0)]) hx hb dX11_lay_45 hl (k := 0) rfl (by decide) (by decide) rfl (fun ls hl => ?_)
  refine lv_goto (tgt := 3) hx hb dX11_lay_48 (by decide) ?_
  refine lv_iload_n hx hb dX11_lay_3 rfl (lv_at hl 0 rfl) ?_
  refine lv_if_lt (tgt := 51) hx hb dX11_lay_4 (by decide) (fun c9 => absurd c9 (by decide)) (fun c9 => ?_)
  refine lv_aload_n hx hb dX11_lay_7 rfl (lv_at hl 1 rfl) ?_
  refine x_get E iX11 hP 0 rfl rfl 1 (by decide) wq198 rfl dX11_lay_8 ?_
  refine lv_aload_n hx hb dX11_lay_11 rfl (lv_at hl 1 rfl) ?_
  refine x_get E iX11 hP 0 rfl rfl 0 (by decide) wq4 rfl dX11_lay_12 ?_
  refine x_alen (v := 400) E hP 1 rfl (by decide) dX11_lay_15 ?_
  refine lv_icmp_ge (tgt := 45) hx hb dX11_lay_16 (by decide) (fun c9 => absurd c9 (by decide)) (fun c9 => ?_)
  refine lv_aload_n hx hb dX11_lay_19 rfl (lv_at hl 1 rfl) ?_
  refine x_get E iX11 hP 0 rfl rfl 0 (by decide) wq4 rfl dX11_lay_20 ?_
  refine lv_aload_n hx hb dX11_lay_23 rfl (lv_at hl 1 rfl) ?_
  refine x_get E iX11 hP 0 rfl rfl 1 (by decide) wq198 rfl dX11_lay_24 ?_
  refine lv_iload_n hx hb dX11_lay_27 rfl (lv_at hl 2 rfl) ?_
  refine lv_iload_n hx hb dX11_lay_28 rfl (lv_at hl 0 rfl) ?_
  refine lv_iushr hx hb dX11_lay_29 rfl ?_
  refine lv_topi (fun t7 _ => ?_)
  refine lv_sipush (v := 255) hx hb dX11_lay_30 (by decide) ?_
  refine lv_iand hx hb dX11_lay_33 ?_
  refine lv_topi (fun t8 _ => ?_)
  refine x_iastG (wg := fun g9 => [(h0, .inr (11, [.ref h1, .int 10, v0_2, v0_3, v0_4, v0_5, v0_6, v0_7, v0_8, v0_9, v0_10, v0_11, v0_12, v0_13, v0_14, v0_15])), (h1, .inl (cyI, 400, .inl g9))]) E hP hD hS 1 rfl (by decide) (fun _ => rfl) dX11_lay_34 (fun g9 H locs hP hD hS => ?_)
  refine lv_aload_n hx hb dX11_lay_35 rfl (lv_at hl 1 rfl) ?_
  refine lv_dup hx hb dX11_lay_36 rfl ?_
  refine x_get E iX11 hP 0 rfl rfl 1 (by decide) wq198 rfl dX11_lay_37 ?_
  refine lv_iconst (v := 1) hx hb dX11_lay_40 (by decide) ?_
  refine lv_iadd hx hb dX11_lay_41 ?_
  refine x_topi (z := 11) (by decide) ?_
  refine x_put (ws' := [(h0, .inr (11, [.ref h1, .int 11, v0_2, v0_3, v0_4, v0_5, v0_6, v0_7, v0_8, v0_9, v0_10, v0_11, v0_12, v0_13, v0_14, v0_15])), (h1, .inl (cyI, 400, .inl g9))]) E iX11 tyX11 tyX11_ok nmX11 hP hD hS 0 rfl rfl 1 (by decide) wq198 rfl rfl rfl rfl rfl dX11_lay_42 (fun H locs hP hD hS => ?_)
  refine lv_iinc (v := 0) (lv' := [(2, .int 0), (0, .ref h0), (1, .int p0)]) hx hb dX11_lay_45 hl (k := 0) rfl (by decide) (by decide) rfl (fun ls hl => ?_)
  refine lv_goto (tgt := 3) hx hb dX11_lay_48 (by decide) ?_
  refine lv_iload_n hx hb dX11_lay_3 rfl (lv_at hl 0 rfl) ?_
  refine lv_if_lt (tgt := 51) hx hb dX11_lay_4 (by decide) (fun c9 => absurd c9 (by decide)) (fun c9 => ?_)
  refine lv_aload_n hx hb dX11_lay_7 rfl (lv_at hl 1 rfl) ?_
  refine x_get E iX11 hP 0 rfl rfl 1 (by decide) wq198 rfl dX11_lay_8 ?_
  refine lv_aload_n hx hb dX11_lay_11 rfl (lv_at hl 1 rfl) ?_
  refine x_get E iX11 hP 0 rfl rfl 0 (by decide) wq4 rfl dX11_lay_12 ?_
  refine x_alen (v := 400) E hP 1 rfl (by decide) dX11_lay_15 ?_
  refine lv_icmp_ge (tgt := 45) hx hb dX11_lay_16 (by decide) (fun c9 => absurd c9 (by decide)) (fun c9 => ?_)
  refine lv_aload_n hx hb dX11_lay_19 rfl (lv_at hl 1 rfl) ?_
  refine x_get E iX11 hP 0 rfl rfl 0 (by decide) wq4 rfl dX11_lay_20 ?_
  refine lv_aload_n hx hb dX11_lay_23 rfl (lv_at hl 1 rfl) ?_
  refine x_get E iX11 hP 0 rfl rfl 1 (by decide) wq198 rfl dX11_lay_24 ?_
  refine lv_iload_n hx hb dX11_lay_27 rfl (lv_at hl 2 rfl) ?_
  refine lv_iload_n hx hb dX11_lay_28 rfl (lv_at hl 0 rfl) ?_
  refine lv_iushr hx hb dX11_lay_29 rfl ?_
  refine lv_topi (fun t10 _ => ?_)
  refine lv_sipush (v := 255) hx hb dX11_lay_30 (by decide) ?_
  refine lv_iand hx hb dX11_lay_33 ?_
  refine lv_topi (fun t11 _ => ?_)
  refine x_iastG (wg := fun g12 => [(h0, .inr (11, [.ref h1, .int 11, v0_2, v0_3, v0_4, v0_5, v0_6, v0_7, v0_8, v0_9, v0_10, v0_11, v0_12, v0_13, v0_14, v0_15])), (h1, .inl (cyI, 400, .inl g12))]) E hP hD hS 1 rfl (by decide) (fun _ => rfl) dX11_lay_34 (fun g12 H locs hP hD hS => ?_)
  refine lv_aload_n hx hb dX11_lay_35 rfl (lv_at hl 1 rfl) ?_
  refine lv_dup hx hb dX11_lay_36 rfl ?_
  refine x_get E iX11 hP 0 rfl rfl 1 (by decide) wq198 rfl dX11_lay_37 ?_
  refine lv_iconst (v := 1) hx hb dX11_lay_40 (by decide) ?_
  refine lv_iadd hx hb dX11_lay_41 ?_
  refine x_topi (z := 12) (by decide) ?_
  refine x_put (ws' := [(h0, .inr (11, [.ref h1, .int 12, v0_2, v0_3, v0_4, v0_5, v0_6, v0_7, v0_8, v0_9, v0_10, v0_11, v0_12, v0_13, v0_14, v0_15])), (h1, .inl (cyI, 400, .inl g12))]) E iX11 tyX11 tyX11_ok nmX11 hP hD hS 0 rfl rfl 1 (by decide) wq198 rfl rfl rfl rfl rfl dX11_lay_42 (fun H locs hP hD hS => ?_)
  refine lv_iinc (v := (-8)) (lv' := [(2, .int (-8)), (0, .ref h0), (1, .int p0)]) hx hb dX11_lay_45 hl (k := 0) rfl (by decide) (by decide) rfl (fun ls hl => ?_)
  refine lv_goto (tgt := 3) hx hb dX11_lay_48 (by decide) ?_
  refine lv_iload_n hx hb dX11_lay_3 rfl (lv_at hl 0 rfl) ?_
  refine lv_if_lt (tgt := 51) hx hb dX11_lay_4 (by decide) (fun c9 => ?_) (fun c9 => absurd (by decide) c9)
  exact x_vret E hr hlk hP hD hS (fun k => [].getD k 0, fun k => [g12].getD k (fun _ => 0)) [0, 1] (by decide) rfl dX11_lay_51

set_option maxHeartbeats 4000000 in
set_option maxRecDepth 100000 in
theorem mX11_lay_3 (l : Launch) (D : va_G) (cyI cyJ : ClassId) (Z : xZ) (h0 : Nat) (p0 : Int32) (h1 : Nat) (v0_2 : Value) (v0_3 : Value) (v0_4 : Value) (v0_5 : Value) (v0_6 : Value) (v0_7 : Value) (v0_8 : Value) (v0_9 : Value) (v0_10 : Value) (v0_11 : Value) (v0_12 : Value) (v0_13 : Value) (v0_14 : Value) (v0_15 : Value) (f1 : Nat → Int32) : MetV l yX11_lay (Cond.code yX11_lay cX11_lay 3 none) { frames := 0, cells := 0, slots := 0, locals := 0 } D cyI cyJ Z [.ref h0, .int p0] [(h0, .inr (11, [.ref h1, .int 12, v0_2, v0_3, v0_4, v0_5, v0_6, v0_7, v0_8, v0_9, v0_10, v0_11, v0_12, v0_13, v0_14, v0_15])), (h1, .inl (cyI, 400, .inl f1))] (fun u : ((Nat → Nat) × (Nat → Nat → Int32)) => ([(h0, .inr (11, [.ref h1, .int 16, v0_2, v0_3, v0_4, v0_5, v0_6, v0_7, v0_8, v0_9, v0_10, v0_11, v0_12, v0_13, v0_14, v0_15])), (h1, .inl (cyI, 400, .inl (u.2 0)))] : va_W)) 0 0 := by
  refine met_v (by decide) rfl ?_
  intro p e s m below meth c A ls E hr hlk hnm hP hD hA hl
  have hS : va_S A s.heap s.heap [] := va_S.rf
  have hx := E.1.1
  have hb := E.1.2.1
  have hl : lv_has ls 3 [(0, .ref h0), (1, .int p0)] := hl
  refine lv_bipush (v := 24) hx hb dX11_lay_0 (by decide) ?_
  refine lv_istore_n (lv' := [(2, .int 24), (0, .ref h0), (1, .int p0)]) hx hb dX11_lay_2 rfl hl (by decide) rfl (fun ls hl => ?_)
  refine lv_iload_n hx hb dX11_lay_3 rfl (lv_at hl 0 rfl) ?_
  refine lv_if_lt (tgt := 51) hx hb dX11_lay_4 (by decide) (fun c9 => absurd c9 (by decide)) (fun c9 => ?_)
  refine lv_aload_n hx hb dX11_lay_7 rfl (lv_at hl 1 rfl) ?_
  refine x_get E iX11 hP 0 rfl rfl 1 (by decide) wq198 rfl dX11_lay_8 ?_
  refine lv_aload_n hx hb dX11_lay_11 rfl (lv_at hl 1 rfl) ?_
  refine x_get E iX11 hP 0 rfl rfl 0 (by decide) wq4 rfl dX11_lay_12 ?_
  refine x_alen (v := 400) E hP 1 rfl (by decide) dX11_lay_15 ?_
  refine lv_icmp_ge (tgt := 45) hx hb dX11_lay_16 (by decide) (fun c9 => absurd c9 (by decide)) (fun c9 => ?_)
  refine lv_aload_n hx hb dX11_lay_19 rfl (lv_at hl 1 rfl) ?_
  refine x_get E iX11 hP 0 rfl rfl 0 (by decide) wq4 rfl dX11_lay_20 ?_
  refine lv_aload_n hx hb dX11_lay_23 rfl (lv_at hl 1 rfl) ?_
  refine x_get E iX11 hP 0 rfl rfl 1 (by decide) wq198 rfl dX11_lay_24 ?_
  refine lv_iload_n hx hb dX11_lay_27 rfl (lv_at hl 2 rfl) ?_
  refine lv_iload_n hx hb dX11_lay_28 rfl (lv_at hl 0 rfl) ?_
  refine lv_iushr hx hb dX11_lay_29 rfl ?_
  refine lv_topi (fun t1 _ => ?_)
  refine lv_sipush (v := 255) hx hb dX11_lay_30 (by decide) ?_
  refine lv_iand hx hb dX11_lay_33 ?_
  refine lv_topi (fun t2 _ => ?_)
  refine x_iastG (wg := fun g3 => [(h0, .inr (11, [.ref h1, .int 12, v0_2, v0_3, v0_4, v0_5, v0_6, v0_7, v0_8, v0_9, v0_10, v0_11, v0_12, v0_13, v0_14, v0_15])), (h1, .inl (cyI, 400, .inl g3))]) E hP hD hS 1 rfl (by decide) (fun _ => rfl) dX11_lay_34 (fun g3 H locs hP hD hS => ?_)
  refine lv_aload_n hx hb dX11_lay_35 rfl (lv_at hl 1 rfl) ?_
  refine lv_dup hx hb dX11_lay_36 rfl ?_
  refine x_get E iX11 hP 0 rfl rfl 1 (by decide) wq198 rfl dX11_lay_37 ?_
  refine lv_iconst (v := 1) hx hb dX11_lay_40 (by decide) ?_
  refine lv_iadd hx hb dX11_lay_41 ?_
  refine x_topi (z := 13) (by decide) ?_
  refine x_put (ws' := [(h0, .inr (11, [.ref h1, .int 13, v0_2, v0_3, v0_4, v0_5, v0_6, v0_7, v0_8, v0_9, v0_10, v0_11, v0_12, v0_13, v0_14, v0_15])), (h1, .inl (cyI, 400, .inl g3))]) E iX11 tyX11 tyX11_ok nmX11 hP hD hS 0 rfl rfl 1 (by decide) wq198 rfl rfl rfl rfl rfl dX11_lay_42 (fun H locs hP hD hS => ?_)
  refine lv_iinc (v := 16) (lv' := [(2, .int 16), (0, .ref h0), (1, .int p0)]) hx hb dX11_lay_45 hl (k := 0) rfl (by decide) (by decide) rfl (fun ls hl => ?_)
  refine lv_goto (tgt := 3) hx hb dX11_lay_48 (by decide) ?_
  refine lv_iload_n hx hb dX11_lay_3 rfl (lv_at hl 0 rfl) ?_
  refine lv_if_lt (tgt := 51) hx hb dX11_lay_4 (by decide) (fun c9 => absurd c9 (by decide)) (fun c9 => ?_)
  refine lv_aload_n hx hb dX11_lay_7 rfl (lv_at hl 1 rfl) ?_
  refine x_get E iX11 hP 0 rfl rfl 1 (by decide) wq198 rfl dX11_lay_8 ?_
  refine lv_aload_n hx hb dX11_lay_11 rfl (lv_at hl 1 rfl) ?_
  refine x_get E iX11 hP 0 rfl rfl 0 (by decide) wq4 rfl dX11_lay_12 ?_
  refine x_alen (v := 400) E hP 1 rfl (by decide) dX11_lay_15 ?_
  refine lv_icmp_ge (tgt := 45) hx hb dX11_lay_16 (by decide) (fun c9 => absurd c9 (by decide)) (fun c9 => ?_)
  refine lv_aload_n hx hb dX11_lay_19 rfl (lv_at hl 1 rfl) ?_
  refine x_get E iX11 hP 0 rfl rfl 0 (by decide) wq4 rfl dX11_lay_20 ?_
  refine lv_aload_n hx hb dX11_lay_23 rfl (lv_at hl 1 rfl) ?_
  refine x_get E iX11 hP 0 rfl rfl 1 (by decide) wq198 rfl dX11_lay_24 ?_
  refine lv_iload_n hx hb dX11_lay_27 rfl (lv_at hl 2 rfl) ?_
  refine lv_iload_n hx hb dX11_lay_28 rfl (lv_at hl 0 rfl) ?_
  refine lv_iushr hx hb dX11_lay_29 rfl ?_
  refine lv_topi (fun t4 _ => ?_)
  refine lv_sipush (v := 255) hx hb dX11_lay_30 (by decide) ?_
  refine lv_iand hx hb dX11_lay_33 ?_
  refine lv_topi (fun t5 _ => ?_)
  refine x_iastG (wg := fun g6 => [(h0, .inr (11, [.ref h1, .int 13, v0_2, v0_3, v0_4, v0_5, v0_6, v0_7, v0_8, v0_9, v0_10, v0_11, v0_12, v0_13, v0_14, v0_15])), (h1, .inl (cyI, 400, .inl g6))]) E hP hD hS 1 rfl (by decide) (fun _ => rfl) dX11_lay_34 (fun g6 H locs hP hD hS => ?_)
  refine lv_aload_n hx hb dX11_lay_35 rfl (lv_at hl 1 rfl) ?_
  refine lv_dup hx hb dX11_lay_36 rfl ?_
  refine x_get E iX11 hP 0 rfl rfl 1 (by decide) wq198 rfl dX11_lay_37 ?_
  refine lv_iconst (v := 1) hx hb dX11_lay_40 (by decide) ?_
  refine lv_iadd hx hb dX11_lay_41 ?_
  refine x_topi (z := 14) (by decide) ?_
  refine x_put (ws' := [(h0, .inr (11, [.ref h1, .int 14, v0_2, v0_3, v0_4, v0_5, v0_6, v0_7, v0_8, v0_9, v0_10, v0_11, v0_12, v0_13, v0_14, v0_15])), (h1, .inl (cyI, 400, .inl g6))]) E iX11 tyX11 tyX11_ok nmX11 hP hD hS 0 rfl rfl 1 (by decide) wq198 rfl rfl rfl rfl rfl dX11_lay_42 (fun H locs hP hD hS => ?_)
  refine lv_iinc (v := 8) (lv' := [(2, .int 8), (0, .ref h0), (1, .int p0)]) hx hb dX11_lay_45 hl (k := 0) rfl (by decide) (by decide) rfl (fun ls hl => ?_)
  refine lv_goto (tgt := 3) hx hb dX11_lay_48 (by decide) ?_
  refine lv_iload_n hx hb dX11_lay_3 rfl (lv_at hl 0 rfl) ?_
  refine lv_if_lt (tgt := 51) hx hb dX11_lay_4 (by decide) (fun c9 => absurd c9 (by decide)) (fun c9 => ?_)
  refine lv_aload_n hx hb dX11_lay_7 rfl (lv_at hl 1 rfl) ?_
  refine x_get E iX11 hP 0 rfl rfl 1 (by decide) wq198 rfl dX11_lay_8 ?_
  refine lv_aload_n hx hb dX11_lay_11 rfl (lv_at hl 1 rfl) ?_
  refine x_get E iX11 hP 0 rfl rfl 0 (by decide) wq4 rfl dX11_lay_12 ?_
  refine x_alen (v := 400) E hP 1 rfl (by decide) dX11_lay_15 ?_
  refine lv_icmp_ge (tgt := 45) hx hb dX11_lay_16 (by decide) (fun c9 => absurd c9 (by decide)) (fun c9 => ?_)
  refine lv_aload_n hx hb dX11_lay_19 rfl (lv_at hl 1 rfl) ?_
  refine x_get E iX11 hP 0 rfl rfl 0 (by decide) wq4 rfl dX11_lay_20 ?_
  refine lv_aload_n hx hb dX11_lay_23 rfl (lv_at hl 1 rfl) ?_
  refine x_get E iX11 hP 0 rfl rfl 1 (by decide) wq198 rfl dX11_lay_24 ?_
  refine lv_iload_n hx hb dX11_lay_27 rfl (lv_at hl 2 rfl) ?_
  refine lv_iload_n hx hb dX11_lay_28 rfl (lv_at hl 0 rfl) ?_
  refine lv_iushr hx hb dX11_lay_29 rfl ?_
  refine lv_topi (fun t7 _ => ?_)
  refine lv_sipush (v := 255) hx hb dX11_lay_30 (by decide) ?_
  refine lv_iand hx hb dX11_lay_33 ?_
  refine lv_topi (fun t8 _ => ?_)
  refine x_iastG (wg := fun g9 => [(h0, .inr (11, [.ref h1, .int 14, v0_2, v0_3, v0_4, v0_5, v0_6, v0_7, v0_8, v0_9, v0_10, v0_11, v0_12, v0_13, v0_14, v0_15])), (h1, .inl (cyI, 400, .inl g9))]) E hP hD hS 1 rfl (by decide) (fun _ => rfl) dX11_lay_34 (fun g9 H locs hP hD hS => ?_)
  refine lv_aload_n hx hb dX11_lay_35 rfl (lv_at hl 1 rfl) ?_
  refine lv_dup hx hb dX11_lay_36 rfl ?_
  refine x_get E iX11 hP 0 rfl rfl 1 (by decide) wq198 rfl dX11_lay_37 ?_
  refine lv_iconst (v := 1) hx hb dX11_lay_40 (by decide) ?_
  refine lv_iadd hx hb dX11_lay_41 ?_
  refine x_topi (z := 15) (by decide) ?_
  refine x_put (ws' := [(h0, .inr (11, [.ref h1, .int 15, v0_2, v0_3, v0_4, v0_5, v0_6, v0_7, v0_8, v0_9, v0_10, v0_11, v0_12, v0_13, v0_14, v0_15])), (h1, .inl (cyI, 400, .inl g9))]) E iX11 tyX11 tyX11_ok nmX11 hP hD hS 0 rfl rfl 1 (by decide) wq198 rfl rfl rfl rfl rfl dX11_lay_42 (fun H locs hP hD hS => ?_)
  refine lv_iinc (v := 0) (lv' := [(2, .int 0), (0, .ref h0), (1, .int p0)]) hx hb dX11_lay_45 hl (k := 0) rfl (by decide) (by decide) rfl (fun ls hl => ?_)
  refine lv_goto (tgt := 3) hx hb dX11_lay_48 (by decide) ?_
  refine lv_iload_n hx hb dX11_lay_3 rfl (lv_at hl 0 rfl) ?_
  refine lv_if_lt (tgt := 51) hx hb dX11_lay_4 (by decide) (fun c9 => absurd c9 (by decide)) (fun c9 => ?_)
  refine lv_aload_n hx hb dX11_lay_7 rfl (lv_at hl 1 rfl) ?_
  refine x_get E iX11 hP 0 rfl rfl 1 (by decide) wq198 rfl dX11_lay_8 ?_
  refine lv_aload_n hx hb dX11_lay_11 rfl (lv_at hl 1 rfl) ?_
  refine x_get E iX11 hP 0 rfl rfl 0 (by decide) wq4 rfl dX11_lay_12 ?_
  refine x_alen (v := 400) E hP 1 rfl (by decide) dX11_lay_15 ?_
  refine lv_icmp_ge (tgt := 45) hx hb dX11_lay_16 (by decide) (fun c9 => absurd c9 (by decide)) (fun c9 => ?_)
  refine lv_aload_n hx hb dX11_lay_19 rfl (lv_at hl 1 rfl) ?_
  refine x_get E iX11 hP 0 rfl rfl 0 (by decide) wq4 rfl dX11_lay_20 ?_
  refine lv_aload_n hx hb dX11_lay_23 rfl (lv_at hl 1 rfl) ?_
  refine x_get E iX11 hP 0 rfl rfl 1 (by decide) wq198 rfl dX11_lay_24 ?_
  refine lv_iload_n hx hb dX11_lay_27 rfl (lv_at hl 2 rfl) ?_
  refine lv_iload_n hx hb dX11_lay_28 rfl (lv_at hl 0 rfl) ?_
  refine lv_iushr hx hb dX11_lay_29 rfl ?_
  refine lv_topi (fun t10 _ => ?_)
  refine lv_sipush (v := 255) hx hb dX11_lay_30 (by decide) ?_
  refine lv_iand hx hb dX11_lay_33 ?_
  refine lv_topi (fun t11 _ => ?_)
  refine x_iastG (wg := fun g12 => [(h0, .inr (11, [.ref h1, .int 15, v0_2, v0_3, v0_4, v0_5, v0_6, v0_7, v0_8, v0_9, v0_10, v0_11, v0_12, v0_13, v0_14, v0_15])), (h1, .inl (cyI, 400, .inl g12))]) E hP hD hS 1 rfl (by decide) (fun _ => rfl) dX11_lay_34 (fun g12 H locs hP hD hS => ?_)
  refine lv_aload_n hx hb dX11_lay_35 rfl (lv_at hl 1 rfl) ?_
  refine lv_dup hx hb dX11_lay_36 rfl ?_
  refine x_get E iX11 hP 0 rfl rfl 1 (by decide) wq198 rfl dX11_lay_37 ?_
  refine lv_iconst (v := 1) hx hb dX11_lay_40 (by decide) ?_
  refine lv_iadd hx hb dX11_lay_41 ?_
  refine x_topi (z := 16) (by decide) ?_
  refine x_put (ws' := [(h0, .inr (11, [.ref h1, .int 16, v0_2, v0_3, v0_4, v0_5, v0_6, v0_7, v0_8, v0_9, v0_10, v0_11, v0_12, v0_13, v0_14, v0_15])), (h1, .inl (cyI, 400, .inl g12))]) E iX11 tyX11 tyX11_ok nmX11 hP hD hS 0 rfl rfl 1 (by decide) wq198 rfl rfl rfl rfl rfl dX11_lay_42 (fun H locs hP hD hS => ?_)
  refine lv_iinc (v := (-8)) (lv' := [(2, .int (-8)), (0, .ref h0), (1, .int p0)]) hx hb dX11_lay_45 hl (k := 0) rfl (by decide) (by decide) rfl (fun ls hl => ?_)
  refine lv_goto (tgt := 3) hx hb dX11_lay_48 (by decide) ?_
  refine lv_iload_n hx hb dX11_lay_3 rfl (lv_at hl 0 rfl) ?_
  refine lv_if_lt (tgt := 51) hx hb dX11_lay_4 (by decide) (fun c9 => ?_) (fun c9 => absurd (by decide) c9)
  exact x_vret E hr hlk hP hD hS (fun k => [].getD k 0, fun k => [g12].getD k (fun _ => 0)) [0, 1] (by decide) rfl dX11_lay_51

set_option maxHeartbeats 4000000 in
set_option maxRecDepth 100000 in
theorem mX11_lay_4 (l : Launch) (D : va_G) (cyI cyJ : ClassId) (Z : xZ) (h0 : Nat) (p0 : Int32) (h1 : Nat) (v0_2 : Value) (v0_3 : Value) (v0_4 : Value) (v0_5 : Value) (v0_6 : Value) (v0_7 : Value) (v0_8 : Value) (v0_9 : Value) (v0_10 : Value) (v0_11 : Value) (v0_12 : Value) (v0_13 : Value) (v0_14 : Value) (v0_15 : Value) (f1 : Nat → Int32) : MetV l yX11_lay (Cond.code yX11_lay cX11_lay 3 none) { frames := 0, cells := 0, slots := 0, locals := 0 } D cyI cyJ Z [.ref h0, .int p0] [(h0, .inr (11, [.ref h1, .int 16, v0_2, v0_3, v0_4, v0_5, v0_6, v0_7, v0_8, v0_9, v0_10, v0_11, v0_12, v0_13, v0_14, v0_15])), (h1, .inl (cyI, 400, .inl f1))] (fun u : ((Nat → Nat) × (Nat → Nat → Int32)) => ([(h0, .inr (11, [.ref h1, .int 20, v0_2, v0_3, v0_4, v0_5, v0_6, v0_7, v0_8, v0_9, v0_10, v0_11, v0_12, v0_13, v0_14, v0_15])), (h1, .inl (cyI, 400, .inl (u.2 0)))] : va_W)) 0 0 := by
  refine met_v (by decide) rfl ?_
  intro p e s m below meth c A ls E hr hlk hnm hP hD hA hl
  have hS : va_S A s.heap s.heap [] := va_S.rf
  have hx := E.1.1
  have hb := E.1.2.1
  have hl : lv_has ls 3 [(0, .ref h0), (1, .int p0)] := hl
  refine lv_bipush (v := 24) hx hb dX11_lay_0 (by decide) ?_
  refine lv_istore_n (lv' := [(2, .int 24), (0, .ref h0), (1, .int p0)]) hx hb dX11_lay_2 rfl hl (by decide) rfl (fun ls hl => ?_)
  refine lv_iload_n hx hb dX11_lay_3 rfl (lv_at hl 0 rfl) ?_
  refine lv_if_lt (tgt := 51) hx hb dX11_lay_4 (by decide) (fun c9 => absurd c9 (by decide)) (fun c9 => ?_)
  refine lv_aload_n hx hb dX11_lay_7 rfl (lv_at hl 1 rfl) ?_
  refine x_get E iX11 hP 0 rfl rfl 1 (by decide) wq198 rfl dX11_lay_8 ?_
  refine lv_aload_n hx hb dX11_lay_11 rfl (lv_at hl 1 rfl) ?_
  refine x_get E iX11 hP 0 rfl rfl 0 (by decide) wq4 rfl dX11_lay_12 ?_
  refine x_alen (v := 400) E hP 1 rfl (by decide) dX11_lay_15 ?_
  refine lv_icmp_ge (tgt := 45) hx hb dX11_lay_16 (by decide) (fun c9 => absurd c9 (by decide)) (fun c9 => ?_)
  refine lv_aload_n hx hb dX11_lay_19 rfl (lv_at hl 1 rfl) ?_
  refine x_get E iX11 hP 0 rfl rfl 0 (by decide) wq4 rfl dX11_lay_20 ?_
  refine lv_aload_n hx hb dX11_lay_23 rfl (lv_at hl 1 rfl) ?_
  refine x_get E iX11 hP 0 rfl rfl 1 (by decide) wq198 rfl dX11_lay_24 ?_
  refine lv_iload_n hx hb dX11_lay_27 rfl (lv_at hl 2 rfl) ?_
  refine lv_iload_n hx hb dX11_lay_28 rfl (lv_at hl 0 rfl) ?_
  refine lv_iushr hx hb dX11_lay_29 rfl ?_
  refine lv_topi (fun t1 _ => ?_)
  refine lv_sipush (v := 255) hx hb dX11_lay_30 (by decide) ?_
  refine lv_iand hx hb dX11_lay_33 ?_
  refine lv_topi (fun t2 _ => ?_)
  refine x_iastG (wg := fun g3 => [(h0, .inr (11, [.ref h1, .int 16, v0_2, v0_3, v0_4, v0_5, v0_6, v0_7, v0_8, v0_9, v0_10, v0_11, v0_12, v0_13, v0_14, v0_15])), (h1, .inl (cyI, 400, .inl g3))]) E hP hD hS 1 rfl (by decide) (fun _ => rfl) dX11_lay_34 (fun g3 H locs hP hD hS => ?_)
  refine lv_aload_n hx hb dX11_lay_35 rfl (lv_at hl 1 rfl) ?_
  refine lv_dup hx hb dX11_lay_36 rfl ?_
  refine x_get E iX11 hP 0 rfl rfl 1 (by decide) wq198 rfl dX11_lay_37 ?_
  refine lv_iconst (v := 1) hx hb dX11_lay_40 (by decide) ?_
  refine lv_iadd hx hb dX11_lay_41 ?_
  refine x_topi (z := 17) (by decide) ?_
  refine x_put (ws' := [(h0, .inr (11, [.ref h1, .int 17, v0_2, v0_3, v0_4, v0_5, v0_6, v0_7, v0_8, v0_9, v0_10, v0_11, v0_12, v0_13, v0_14, v0_15])), (h1, .inl (cyI, 400, .inl g3))]) E iX11 tyX11 tyX11_ok nmX11 hP hD hS 0 rfl rfl 1 (by decide) wq198 rfl rfl rfl rfl rfl dX11_lay_42 (fun H locs hP hD hS => ?_)
  refine lv_iinc (v := 16) (lv' := [(2, .int 16), (0, .ref h0), (1, .int p0)]) hx hb dX11_lay_45 hl (k := 0) rfl (by decide) (by decide) rfl (fun ls hl => ?_)
  refine lv_goto (tgt := 3) hx hb dX11_lay_48 (by decide) ?_
  refine lv_iload_n hx hb dX11_lay_3 rfl (lv_at hl 0 rfl) ?_
  refine lv_if_lt (tgt := 51) hx hb dX11_lay_4 (by decide) (fun c9 => absurd c9 (by decide)) (fun c9 => ?_)
  refine lv_aload_n hx hb dX11_lay_7 rfl (lv_at hl 1 rfl) ?_
  refine x_get E iX11 hP 0 rfl rfl 1 (by decide) wq198 rfl dX11_lay_8 ?_
  refine lv_aload_n hx hb dX11_lay_11 rfl (lv_at hl 1 rfl) ?_
  refine x_get E iX11 hP 0 rfl rfl 0 (by decide) wq4 rfl dX11_lay_12 ?_
  refine x_alen (v := 400) E hP 1 rfl (by decide) dX11_lay_15 ?_
  refine lv_icmp_ge (tgt := 45) hx hb dX11_lay_16 (by decide) (fun c9 => absurd c9 (by decide)) (fun c9 => ?_)
  refine lv_aload_n hx hb dX11_lay_19 rfl (lv_at hl 1 rfl) ?_
  refine x_get E iX11 hP 0 rfl rfl 0 (by decide) wq4 rfl dX11_lay_20 ?_
  refine lv_aload_n hx hb dX11_lay_23 rfl (lv_at hl 1 rfl) ?_
  refine x_get E iX11 hP 0 rfl rfl 1 (by decide) wq198 rfl dX11_lay_24 ?_
  refine lv_iload_n hx hb dX11_lay_27 rfl (lv_at hl 2 rfl) ?_
  refine lv_iload_n hx hb dX11_lay_28 rfl (lv_at hl 0 rfl) ?_
  refine lv_iushr hx hb dX11_lay_29 rfl ?_
  refine lv_topi (fun t4 _ => ?_)
  refine lv_sipush (v := 255) hx hb dX11_lay_30 (by decide) ?_
  refine lv_iand hx hb dX11_lay_33 ?_
  refine lv_topi (fun t5 _ => ?_)
  refine x_iastG (wg := fun g6 => [(h0, .inr (11, [.ref h1, .int 17, v0_2, v0_3, v0_4, v0_5, v0_6, v0_7, v0_8, v0_9, v0_10, v0_11, v0_12, v0_13, v0_14, v0_15])), (h1, .inl (cyI, 400, .inl g6))]) E hP hD hS 1 rfl (by decide) (fun _ => rfl) dX11_lay_34 (fun g6 H locs hP hD hS => ?_)
  refine lv_aload_n hx hb dX11_lay_35 rfl (lv_at hl 1 rfl) ?_
  refine lv_dup hx hb dX11_lay_36 rfl ?_
  refine x_get E iX11 hP 0 rfl rfl 1 (by decide) wq198 rfl dX11_lay_37 ?_
  refine lv_iconst (v := 1) hx hb dX11_lay_40 (by decide) ?_
  refine lv_iadd hx hb dX11_lay_41 ?_
  refine x_topi (z := 18) (by decide) ?_
  refine x_put (ws' := [(h0, .inr (11, [.ref h1, .int 18, v0_2, v0_3, v0_4, v0_5, v0_6, v0_7, v0_8, v0_9, v0_10, v0_11, v0_12, v0_13, v0_14, v0_15])), (h1, .inl (cyI, 400, .inl g6))]) E iX11 tyX11 tyX11_ok nmX11 hP hD hS 0 rfl rfl 1 (by decide) wq198 rfl rfl rfl rfl rfl dX11_lay_42 (fun H locs hP hD hS => ?_)
  refine lv_iinc (v := 8) (lv' := [(2, .int 8), (0, .ref h0), (1, .int p0)]) hx hb dX11_lay_45 hl (k := 0) rfl (by decide) (by decide) rfl (fun ls hl => ?_)
  refine lv_goto (tgt := 3) hx hb dX11_lay_48 (by decide) ?_
  refine lv_iload_n hx hb dX11_lay_3 rfl (lv_at hl 0 rfl) ?_
  refine lv_if_lt (tgt := 51) hx hb dX11_lay_4 (by decide) (fun c9 => absurd c9 (by decide)) (fun c9 => ?_)
  refine lv_aload_n hx hb dX11_lay_7 rfl (lv_at hl 1 rfl) ?_
  refine x_get E iX11 hP 0 rfl rfl 1 (by decide) wq198 rfl dX11_lay_8 ?_
  refine lv_aload_n hx hb dX11_lay_11 rfl (lv_at hl 1 rfl) ?_
  refine x_get E iX11 hP 0 rfl rfl 0 (by decide) wq4 rfl dX11_lay_12 ?_
  refine x_alen (v := 400) E hP 1 rfl (by decide) dX11_lay_15 ?_
  refine lv_icmp_ge (tgt := 45) hx hb dX11_lay_16 (by decide) (fun c9 => absurd c9 (by decide)) (fun c9 => ?_)
  refine lv_aload_n hx hb dX11_lay_19 rfl (lv_at hl 1 rfl) ?_
  refine x_get E iX11 hP 0 rfl rfl 0 (by decide) wq4 rfl dX11_lay_20 ?_
  refine lv_aload_n hx hb dX11_lay_23 rfl (lv_at hl 1 rfl) ?_
  refine x_get E iX11 hP 0 rfl rfl 1 (by decide) wq198 rfl dX11_lay_24 ?_
  refine lv_iload_n hx hb dX11_lay_27 rfl (lv_at hl 2 rfl) ?_
  refine lv_iload_n hx hb dX11_lay_28 rfl (lv_at hl 0 rfl) ?_
  refine lv_iushr hx hb dX11_lay_29 rfl ?_
  refine lv_topi (fun t7 _ => ?_)
  refine lv_sipush (v := 255) hx hb dX11_lay_30 (by decide) ?_
  refine lv_iand hx hb dX11_lay_33 ?_
  refine lv_topi (fun t8 _ => ?_)
  refine x_iastG (wg := fun g9 => [(h0, .inr (11, [.ref h1, .int 18, v0_2, v0_3, v0_4, v0_5, v0_6, v0_7, v0_8, v0_9, v0_10, v0_11, v0_12, v0_13, v0_14, v0_15])), (h1, .inl (cyI, 400, .inl g9))]) E hP hD hS 1 rfl (by decide) (fun _ => rfl) dX11_lay_34 (fun g9 H locs hP hD hS => ?_)
  refine lv_aload_n hx hb dX11_lay_35 rfl (lv_at hl 1 rfl) ?_
  refine lv_dup hx hb dX11_lay_36 rfl ?_
  refine x_get E iX11 hP 0 rfl rfl 1 (by decide) wq198 rfl dX11_lay_37 ?_
  refine lv_iconst (v := 1) hx hb dX11_lay_40 (by decide) ?_
  refine lv_iadd hx hb dX11_lay_41 ?_
  refine x_topi (z := 19) (by decide) ?_
  refine x_put (ws' := [(h0, .inr (11, [.ref h1, .int 19, v0_2, v0_3, v0_4, v0_5, v0_6, v0_7, v0_8, v0_9, v0_10, v0_11, v0_12, v0_13, v0_14, v0_15])), (h1, .inl (cyI, 400, .inl g9))]) E iX11 tyX11 tyX11_ok nmX11 hP hD hS 0 rfl rfl 1 (by decide) wq198 rfl rfl rfl rfl rfl dX11_lay_42 (fun H locs hP hD hS => ?_)
  refine lv_iinc (v := 0) (lv' := [(2, .int 0), (0, .ref h0), (1, .int p0)]) hx hb dX11_lay_45 hl (k := 0) rfl (by decide) (by decide) rfl (fun ls hl => ?_)
  refine lv_goto (tgt := 3) hx hb dX11_lay_48 (by decide) ?_
  refine lv_iload_n hx hb dX11_lay_3 rfl (lv_at hl 0 rfl) ?_
  refine lv_if_lt (tgt := 51) hx hb dX11_lay_4 (by decide) (fun c9 => absurd c9 (by decide)) (fun c9 => ?_)
  refine lv_aload_n hx hb dX11_lay_7 rfl (lv_at hl 1 rfl) ?_
  refine x_get E iX11 hP 0 rfl rfl 1 (by decide) wq198 rfl dX11_lay_8 ?_
  refine lv_aload_n hx hb dX11_lay_11 rfl (lv_at hl 1 rfl) ?_
  refine x_get E iX11 hP 0 rfl rfl 0 (by decide) wq4 rfl dX11_lay_12 ?_
  refine x_alen (v := 400) E hP 1 rfl (by decide) dX11_lay_15 ?_
  refine lv_icmp_ge (tgt := 45) hx hb dX11_lay_16 (by decide) (fun c9 => absurd c9 (by decide)) (fun c9 => ?_)
  refine lv_aload_n hx hb dX11_lay_19 rfl (lv_at hl 1 rfl) ?_
  refine x_get E iX11 hP 0 rfl rfl 0 (by decide) wq4 rfl dX11_lay_20 ?_
  refine lv_aload_n hx hb dX11_lay_23 rfl (lv_at hl 1 rfl) ?_
  refine x_get E iX11 hP 0 rfl rfl 1 (by decide) wq198 rfl dX11_lay_24 ?_
  refine lv_iload_n hx hb dX11_lay_27 rfl (lv_at hl 2 rfl) ?_
  refine lv_iload_n hx hb dX11_lay_28 rfl (lv_at hl 0 rfl) ?_
  refine lv_iushr hx hb dX11_lay_29 rfl ?_
  refine lv_topi (fun t10 _ => ?_)
  refine lv_sipush (v := 255) hx hb dX11_lay_30 (by decide) ?_
  refine lv_iand hx hb dX11_lay_33 ?_
  refine lv_topi (fun t11 _ => ?_)
  refine x_iastG (wg := fun g12 => [(h0, .inr (11, [.ref h1, .int 19, v0_2, v0_3, v0_4, v0_5, v0_6, v0_7, v0_8, v0_9, v0_10, v0_11, v0_12, v0_13, v0_14, v0_15])), (h1, .inl (cyI, 400, .inl g12))]) E hP hD hS 1 rfl (by decide) (fun _ => rfl) dX11_lay_34 (fun g12 H locs hP hD hS => ?_)
  refine lv_aload_n hx hb dX11_lay_35 rfl (lv_at hl 1 rfl) ?_
  refine lv_dup hx hb dX11_lay_36 rfl ?_
  refine x_get E iX11 hP 0 rfl rfl 1 (by decide) wq198 rfl dX11_lay_37 ?_
  refine lv_iconst (v := 1) hx hb dX11_lay_40 (by decide) ?_
  refine lv_iadd hx hb dX11_lay_41 ?_
  refine x_topi (z := 20) (by decide) ?_
  refine x_put (ws' := [(h0, .inr (11, [.ref h1, .int 20, v0_2, v0_3, v0_4, v0_5, v0_6, v0_7, v0_8, v0_9, v0_10, v0_11, v0_12, v0_13, v0_14, v0_15])), (h1, .inl (cyI, 400, .inl g12))]) E iX11 tyX11 tyX11_ok nmX11 hP hD hS 0 rfl rfl 1 (by decide) wq198 rfl rfl rfl rfl rfl dX11_lay_42 (fun H locs hP hD hS => ?_)
  refine lv_iinc (v := (-8)) (lv' := [(2, .int (-8)), (0, .ref h0), (1, .int p0)]) hx hb dX11_lay_45 hl (k := 0) rfl (by decide) (by decide) rfl (fun ls hl => ?_)
  refine lv_goto (tgt := 3) hx hb dX11_lay_48 (by decide) ?_
  refine lv_iload_n hx hb dX11_lay_3 rfl (lv_at hl 0 rfl) ?_
  refine lv_if_lt (tgt := 51) hx hb dX11_lay_4 (by decide) (fun c9 => ?_) (fun c9 => absurd (by decide) c9)
  exact x_vret E hr hlk hP hD hS (fun k => [].getD k 0, fun k => [g12].getD k (fun _ => 0)) [0, 1] (by decide) rfl dX11_lay_51
