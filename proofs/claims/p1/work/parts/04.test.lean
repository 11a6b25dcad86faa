set_option maxHeartbeats 4000000 in
set_option maxRecDepth 100000 in
theorem mX8_refuse (l : Launch) (D : va_G) (cyI cyJ : ClassId) (h0 : Nat) (v0_0 : Value) (v0_1 : Value) (v0_2 : Value) (v0_3 : Value) (v0_4 : Value) (v0_5 : Value) (v0_6 : Value) (v0_7 : Value) (v0_8 : Value) (v0_9 : Value) (v0_11 : Value) : MetI l yX8_refuse (Cond.code yX8_refuse cX8_refuse 3 (some .int)) { frames := 0, cells := 0, slots := 0, locals := 0 } D cyI cyJ [.ref h0, .int 1, .int 0] [(h0, .inr (8, [v0_0, v0_1, v0_2, v0_3, v0_4, v0_5, v0_6, v0_7, v0_8, v0_9, .int 0, v0_11]))] (fun _ : Unit => (-1)) (fun _ : Unit => ([(h0, .inr (8, [v0_0, v0_1, v0_2, v0_3, v0_4, v0_5, v0_6, .int 1, v0_8, v0_9, .int 1, .int 0]))] : va_W)) 0 0 := by
  refine met_i (by decide) rfl ?_
  intro p e s m below meth c A ls E hr hlk hP hD hA hl
  have hS : va_S A s.heap s.heap [] := va_S.rf
  have hx := E.1.1
  have hb := E.1.2.1
  have hl : lv_has ls 3 [(0, .ref h0), (1, .int 1), (2, .int 0)] := hl
  refine lv_aload_n hx hb dX8_refuse_0 rfl (lv_at hl 0 rfl) ?_
  refine x_get E iX8 hP 0 rfl rfl 10 (by decide) q0 rfl dX8_refuse_1 ?_
  refine lv_if_ne (tgt := 17) hx hb dX8_refuse_4 (by decide) (fun c9 => absurd (by decide) c9) (fun c9 => ?_)
  refine lv_aload_n hx hb dX8_refuse_7 rfl (lv_at hl 0 rfl) ?_
  refine lv_iload_n hx hb dX8_refuse_8 rfl (lv_at hl 1 rfl) ?_
  refine x_put (ws' := [(h0, .inr (8, [v0_0, v0_1, v0_2, v0_3, v0_4, v0_5, v0_6, v0_7, v0_8, v0_9, .int 1, v0_11]))]) E iX8 tyX8 tyX8_ok nmX8 hP hD hS 0 rfl rfl 10 (by decide) q0 rfl rfl rfl rfl rfl dX8_refuse_9 (fun H locs hP hD hS => ?_)
  refine lv_aload_n hx hb dX8_refuse_12 rfl (lv_at hl 0 rfl) ?_
  refine lv_iload_n hx hb dX8_refuse_13 rfl (lv_at hl 2 rfl) ?_
  refine x_put (ws' := [(h0, .inr (8, [v0_0, v0_1, v0_2, v0_3, v0_4, v0_5, v0_6, v0_7, v0_8, v0_9, .int 1, .int 0]))]) E iX8 tyX8 tyX8_ok nmX8 hP hD hS 0 rfl rfl 11 (by decide) q1 rfl rfl rfl rfl rfl dX8_refuse_14 (fun H locs hP hD hS => ?_)
  refine lv_aload_n hx hb dX8_refuse_17 rfl (lv_at hl 0 rfl) ?_
  refine lv_iconst (v := 1) hx hb dX8_refuse_18 (by decide) ?_
  refine x_put (ws' := [(h0, .inr (8, [v0_0, v0_1, v0_2, v0_3, v0_4, v0_5, v0_6, .int 1, v0_8, v0_9, .int 1, .int 0]))]) E iX8 tyX8 tyX8_ok nmX8 hP hD hS 0 rfl rfl 7 (by decide) q2 rfl rfl rfl rfl rfl dX8_refuse_19 (fun H locs hP hD hS => ?_)
  refine lv_iconst (v := (-1)) hx hb dX8_refuse_22 (by decide) ?_
  exact x_iret E hr hlk hP hD hS () rfl [0] (by decide) rfl rfl dX8_refuse_23
