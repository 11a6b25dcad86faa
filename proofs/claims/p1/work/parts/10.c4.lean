set_option maxHeartbeats 4000000 in
set_option maxRecDepth 100000 in
theorem mX0_mark (l : Launch) (D : va_G) (cyI cyJ : ClassId) (Z : xZ) (h0 : Nat) (v0_0 : Value) (v0_1 : Value) (v0_2 : Value) (v0_3 : Value) (v0_4 : Value) (v0_5 : Value) (v0_6 : Value) (v0_7 : Value) (v0_8 : Value) (v0_9 : Value) (v0_10 : Value) (v0_11 : Value) (v0_13 : Value) : MetV l yX0_mark (Cond.code yX0_mark cX0_mark 1 none) { frames := 0, cells := 0, slots := 0, locals := 0 } D cyI cyJ Z [.ref h0] [(h0, .inr (0, [v0_0, v0_1, v0_2, v0_3, v0_4, v0_5, v0_6, v0_7, v0_8, v0_9, v0_10, v0_11, .int 3, v0_13]))] (fun _ : Unit => ([(h0, .inr (0, [v0_0, v0_1, v0_2, v0_3, v0_4, v0_5, v0_6, v0_7, v0_8, v0_9, v0_10, v0_11, .int 3, .int 3]))] : va_W)) 0 0 := by
  refine met_v (by decide) rfl ?_
  intro p e s m below meth c A ls E hr hlk hnm hP hD hA hl
  have hS : va_S A s.heap s.heap [] := va_S.rf
  have hx := E.1.1
  have hb := E.1.2.1
  have hl : lv_has ls 1 [(0, .ref h0)] := hl
  refine lv_aload_n hx hb dX0_mark_0 rfl (lv_at hl 0 rfl) ?_
  refine lv_aload_n hx hb dX0_mark_1 rfl (lv_at hl 0 rfl) ?_
  refine x_get E iX0 hP 0 rfl rfl 12 (by decide) wq23 rfl dX0_mark_2 ?_
  refine x_put (ws' := [(h0, .inr (0, [v0_0, v0_1, v0_2, v0_3, v0_4, v0_5, v0_6, v0_7, v0_8, v0_9, v0_10, v0_11, .int 3, .int 3]))]) E iX0 tyX0 tyX0_ok nmX0 hP hD hS 0 rfl rfl 13 (by decide) wq33 rfl rfl rfl rfl rfl dX0_mark_5 (fun H locs hP hD hS => ?_)
  exact x_vret E hr hlk hP hD hS () [0] (by decide) rfl dX0_mark_8

set_option maxHeartbeats 4000000 in
set_option maxRecDepth 100000 in
theorem mX9_mark (l : Launch) (D : va_G) (cyI cyJ : ClassId) (Z : xZ) (h0 : Nat) (v0_0 : Value) (v0_1 : Value) (v0_2 : Value) (v0_3 : Value) (v0_4 : Value) (v0_5 : Value) (v0_6 : Value) (v0_7 : Value) (v0_8 : Value) (v0_12 : Value) (v0_13 : Value) (v0_14 : Value) : MetV l yX9_mark (Cond.code yX9_mark cX9_mark 1 none) { frames := 0, cells := 0, slots := 0, locals := 0 } D cyI cyJ Z [.ref h0] [(h0, .inr (9, [v0_0, v0_1, v0_2, v0_3, v0_4, v0_5, v0_6, v0_7, v0_8, .int 0, .int 0, .int 0, v0_12, v0_13, v0_14]))] (fun _ : Unit => ([(h0, .inr (9, [v0_0, v0_1, v0_2, v0_3, v0_4, v0_5, v0_6, v0_7, v0_8, .int 0, .int 0, .int 0, .int 0, .int 0, .int 0]))] : va_W)) 0 0 := by
  refine met_v (by decide) rfl ?_
  intro p e s m below meth c A ls E hr hlk hnm hP hD hA hl
  have hS : va_S A s.heap s.heap [] := va_S.rf
  have hx := E.1.1
  have hb := E.1.2.1
  have hl : lv_has ls 1 [(0, .ref h0)] := hl
  refine lv_aload_n hx hb dX9_mark_0 rfl (lv_at hl 0 rfl) ?_
  refine lv_aload_n hx hb dX9_mark_1 rfl (lv_at hl 0 rfl) ?_
  refine x_get E iX9 hP 0 rfl rfl 9 (by decide) wq207 rfl dX9_mark_2 ?_
  refine x_put (ws' := [(h0, .inr (9, [v0_0, v0_1, v0_2, v0_3, v0_4, v0_5, v0_6, v0_7, v0_8, .int 0, .int 0, .int 0, .int 0, v0_13, v0_14]))]) E iX9 tyX9 tyX9_ok nmX9 hP hD hS 0 rfl rfl 12 (by decide) wq208 rfl rfl rfl rfl rfl dX9_mark_5 (fun H locs hP hD hS => ?_)
  refine lv_aload_n hx hb dX9_mark_8 rfl (lv_at hl 0 rfl) ?_
  refine lv_aload_n hx hb dX9_mark_9 rfl (lv_at hl 0 rfl) ?_
  refine x_get E iX9 hP 0 rfl rfl 10 (by decide) wq209 rfl dX9_mark_10 ?_
  refine x_put (ws' := [(h0, .inr (9, [v0_0, v0_1, v0_2, v0_3, v0_4, v0_5, v0_6, v0_7, v0_8, .int 0, .int 0, .int 0, .int 0, .int 0, v0_14]))]) E iX9 tyX9 tyX9_ok nmX9 hP hD hS 0 rfl rfl 13 (by decide) wq210 rfl rfl rfl rfl rfl dX9_mark_13 (fun H locs hP hD hS => ?_)
  refine lv_aload_n hx hb dX9_mark_16 rfl (lv_at hl 0 rfl) ?_
  refine lv_aload_n hx hb dX9_mark_17 rfl (lv_at hl 0 rfl) ?_
  refine x_get E iX9 hP 0 rfl rfl 11 (by decide) wq211 rfl dX9_mark_18 ?_
  refine x_put (ws' := [(h0, .inr (9, [v0_0, v0_1, v0_2, v0_3, v0_4, v0_5, v0_6, v0_7, v0_8, .int 0, .int 0, .int 0, .int 0, .int 0, .int 0]))]) E iX9 tyX9 tyX9_ok nmX9 hP hD hS 0 rfl rfl 14 (by decide) wq212 rfl rfl rfl rfl rfl dX9_mark_21 (fun H locs hP hD hS => ?_)
  exact x_vret E hr hlk hP hD hS () [0] (by decide) rfl dX9_mark_24

set_option maxHeartbeats 4000000 in
set_option maxRecDepth 100000 in
theorem mX3_mark (l : Launch) (D : va_G) (cyI cyJ : ClassId) (Z : xZ) (h0 : Nat) (h1 : Nat) (h2 : Nat) (v0_0 : Value) (v0_1 : Value) (v0_2 : Value) (v0_5 : Value) (v0_6 : Value) (v0_7 : Value) (f1 : Nat → Int32) (f2 : Nat → Int32) : MetV l yX3_mark (Cond.code yX3_mark cX3_mark 1 none) { frames := 1, cells := 0, slots := 0, locals := 40 } D cyI cyJ Z [.ref h0] [(h0, .inr (3, [v0_0, v0_1, v0_2, .ref h1, .ref h2, v0_5, v0_6, v0_7])), (h1, .inl (cyI, 10, .inl f1)), (h2, .inl (cyI, 10, .inl f2))] (fun u : ((Nat → Nat) × (Nat → Nat → Int32)) => ([(h0, .inr (3, [v0_0, v0_1, v0_2, .ref h1, .ref h2, .int 0, v0_6, v0_7])), (h1, .inl (cyI, 10, .inl f1)), (h2, .inl (cyI, 10, .inl (u.2 0)))] : va_W)) 0 0 := by
  refine met_v (by decide) rfl ?_
  intro p e s m below meth c A ls E hr hlk hnm hP hD hA hl
  have hS : va_S A s.heap s.heap [] := va_S.rf
  have hx := E.1.1
  have hb := E.1.2.1
  have hl : lv_has ls 1 [(0, .ref h0)] := hl
  refine lv_aload_n hx hb dX3_mark_0 rfl (lv_at hl 0 rfl) ?_
  refine x_get E iX3 hP 0 rfl rfl 3 (by decide) wq75 rfl dX3_mark_1 ?_
  refine lv_iconst (v := 0) hx hb dX3_mark_4 (by decide) ?_
  refine lv_aload_n hx hb dX3_mark_5 rfl (lv_at hl 0 rfl) ?_
  refine x_get E iX3 hP 0 rfl rfl 4 (by decide) wq76 rfl dX3_mark_6 ?_
  refine lv_iconst (v := 0) hx hb dX3_mark_9 (by decide) ?_
  refine lv_bipush (v := 10) hx hb dX3_mark_10 (by decide) ?_
  refine x_copy (wg := fun g1 => [(h0, .inr (3, [v0_0, v0_1, v0_2, .ref h1, .ref h2, v0_5, v0_6, v0_7])), (h1, .inl (cyI, 10, .inl f1)), (h2, .inl (cyI, 10, .inl g1))]) E wq216 wq217 wq218 wq219 hP hD hS hl.1 1 2 rfl rfl (by decide) ⟨Nat.le_of_ble_eq_true rfl, Nat.le_of_ble_eq_true rfl⟩ (fun _ => rfl) dX3_mark_12 (fun g1 H locs hP hD hS => ?_)
  refine lv_aload_n hx hb dX3_mark_15 rfl (lv_at hl 0 rfl) ?_
  refine lv_iconst (v := 0) hx hb dX3_mark_16 (by decide) ?_
  refine x_put (ws' := [(h0, .inr (3, [v0_0, v0_1, v0_2, .ref h1, .ref h2, .int 0, v0_6, v0_7])), (h1, .inl (cyI, 10, .inl f1)), (h2, .inl (cyI, 10, .inl g1))]) E iX3 tyX3 tyX3_ok nmX3 hP hD hS 0 rfl rfl 5 (by decide) wq220 rfl rfl rfl rfl rfl dX3_mark_17 (fun H locs hP hD hS => ?_)
  exact x_vret E hr hlk hP hD hS (fun k => [].getD k 0, fun k => [g1].getD k (fun _ => 0)) [0, 1, 2] (by decide) rfl dX3_mark_20

set_option maxHeartbeats 4000000 in
set_option maxRecDepth 100000 in
theorem mX11_begin (l : Launch) (D : va_G) (cyI cyJ : ClassId) (Z : xZ) (h0 : Nat) (h1 : Nat) (h2 : Nat) (h3 : Nat) (h4 : Nat) (h5 : Nat) (v0_0 : Value) (v0_1 : Value) (v0_2 : Value) (v0_3 : Value) (v0_4 : Value) (v0_6 : Value) (v0_8 : Value) (v0_10 : Value) (v0_11 : Value) (v0_12 : Value) (v0_13 : Value) (v0_14 : Value) (v0_15 : Value) (v1_0 : Value) (v1_1 : Value) (v1_2 : Value) (v1_3 : Value) (v1_4 : Value) (v1_5 : Value) (v1_6 : Value) (v1_7 : Value) (v1_8 : Value) (v1_9 : Value) (v1_10 : Value) (v1_11 : Value) (v1_13 : Value) (v2_0 : Value) (v2_1 : Value) (v2_2 : Value) (v2_3 : Value) (v2_4 : Value) (v2_5 : Value) (v2_6 : Value) (v2_7 : Value) (v2_8 : Value) (v2_12 : Value) (v2_13 : Value) (v2_14 : Value) (v3_0 : Value) (v3_1 : Value) (v3_2 : Value) (v3_5 : Value) (v3_6 : Value) (v3_7 : Value) (f4 : Nat → Int32) (f5 : Nat → Int32) : MetV l yX11_begin (Cond.code yX11_begin cX11_begin 1 none) { frames := 2, cells := 0, slots := 0, locals := 60 } D cyI cyJ Z [.ref h0] [(h0, .inr (11, [v0_0, v0_1, v0_2, v0_3, v0_4, .ref h1, v0_6, .ref h2, v0_8, .ref h3, v0_10, v0_11, v0_12, v0_13, v0_14, v0_15])), (h1, .inr (0, [v1_0, v1_1, v1_2, v1_3, v1_4, v1_5, v1_6, v1_7, v1_8, v1_9, v1_10, v1_11, .int 3, v1_13])), (h2, .inr (9, [v2_0, v2_1, v2_2, v2_3, v2_4, v2_5, v2_6, v2_7, v2_8, .int 0, .int 0, .int 0, v2_12, v2_13, v2_14])), (h3, .inr (3, [v3_0, v3_1, v3_2, .ref h4, .ref h5, v3_5, v3_6, v3_7])), (h4, .inl (cyI, 10, .inl f4)), (h5, .inl (cyI, 10, .inl f5))] (fun u : ((Nat → Nat) × (Nat → Nat → Int32)) => ([(h0, .inr (11, [v0_0, v0_1, v0_2, v0_3, v0_4, .ref h1, v0_6, .ref h2, v0_8, .ref h3, v0_10, v0_11, v0_12, v0_13, v0_14, v0_15])), (h1, .inr (0, [v1_0, v1_1, v1_2, v1_3, v1_4, v1_5, v1_6, v1_7, v1_8, v1_9, v1_10, v1_11, .int 3, .int 3])), (h2, .inr (9, [v2_0, v2_1, v2_2, v2_3, v2_4, v2_5, v2_6, v2_7, v2_8, .int 0, .int 0, .int 0, .int 0, .int 0, .int 0])), (h3, .inr (3, [v3_0, v3_1, v3_2, .ref h4, .ref h5, .int 0, v3_6, v3_7])), (h4, .inl (cyI, 10, .inl f4)), (h5, .inl (cyI, 10, .inl (u.2 0)))] : va_W)) 0 0 := by
  refine met_v (by decide) rfl ?_
  intro p e s m below meth c A ls E hr hlk hnm hP hD hA hl
  have hS : va_S A s.heap s.heap [] := va_S.rf
  have hx := E.1.1
  have hb := E.1.2.1
  have hl : lv_has ls 1 [(0, .ref h0)] := hl
  refine lv_aload_n hx hb dX11_begin_0 rfl (lv_at hl 0 rfl) ?_
  refine x_get E iX11 hP 0 rfl rfl 5 (by decide) wq36 rfl dX11_begin_1 ?_
  refine x_Vv (rest := []) (ws' := fun _ => [(h0, .inr (11, [v0_0, v0_1, v0_2, v0_3, v0_4, .ref h1, v0_6, .ref h2, v0_8, .ref h3, v0_10, v0_11, v0_12, v0_13, v0_14, v0_15])), (h2, .inr (9, [v2_0, v2_1, v2_2, v2_3, v2_4, v2_5, v2_6, v2_7, v2_8, .int 0, .int 0, .int 0, v2_12, v2_13, v2_14])), (h3, .inr (3, [v3_0, v3_1, v3_2, .ref h4, .ref h5, v3_5, v3_6, v3_7])), (h4, .inl (cyI, 10, .inl f4)), (h5, .inl (cyI, 10, .inl f5)), (h1, .inr (0, [v1_0, v1_1, v1_2, v1_3, v1_4, v1_5, v1_6, v1_7, v1_8, v1_9, v1_10, v1_11, .int 3, .int 3]))]) (wr := [(h0, .inr (11, [v0_0, v0_1, v0_2, v0_3, v0_4, .ref h1, v0_6, .ref h2, v0_8, .ref h3, v0_10, v0_11, v0_12, v0_13, v0_14, v0_15])), (h2, .inr (9, [v2_0, v2_1, v2_2, v2_3, v2_4, v2_5, v2_6, v2_7, v2_8, .int 0, .int 0, .int 0, v2_12, v2_13, v2_14])), (h3, .inr (3, [v3_0, v3_1, v3_2, .ref h4, .ref h5, v3_5, v3_6, v3_7])), (h4, .inl (cyI, 10, .inl f4)), (h5, .inl (cyI, 10, .inl f5))]) E (mX0_mark l D cyI cyJ Z h1 v1_0 v1_1 v1_2 v1_3 v1_4 v1_5 v1_6 v1_7 v1_8 v1_9 v1_10 v1_11 v1_13) kX0_mark wq204 wq205 wq206 ⟨rfl, rfl, Nat.le_of_ble_eq_true rfl, Nat.le_of_ble_eq_true rfl⟩ hP hD hS hA [1] [0, 2, 3, 4, 5] rfl rfl (by decide) (fun _ => rfl) 1 rfl rfl rfl hl.1 rfl (Nat.le_of_ble_eq_true rfl) dX11_begin_4 ⟨rfl, rfl⟩ ⟨Nat.le_of_ble_eq_true rfl, Nat.le_of_ble_eq_true rfl⟩ (fun _ H locs hP hD hS => ?_)
  refine lv_aload_n hx hb dX11_begin_7 rfl (lv_at hl 0 rfl) ?_
  refine x_get E iX11 hP 0 rfl rfl 7 (by decide) wq60 rfl dX11_begin_8 ?_
  refine x_Vv (rest := []) (ws' := fun _ => [(h0, .inr (11, [v0_0, v0_1, v0_2, v0_3, v0_4, .ref h1, v0_6, .ref h2, v0_8, .ref h3, v0_10, v0_11, v0_12, v0_13, v0_14, v0_15])), (h3, .inr (3, [v3_0, v3_1, v3_2, .ref h4, .ref h5, v3_5, v3_6, v3_7])), (h4, .inl (cyI, 10, .inl f4)), (h5, .inl (cyI, 10, .inl f5)), (h1, .inr (0, [v1_0, v1_1, v1_2, v1_3, v1_4, v1_5, v1_6, v1_7, v1_8, v1_9, v1_10, v1_11, .int 3, .int 3])), (h2, .inr (9, [v2_0, v2_1, v2_2, v2_3, v2_4, v2_5, v2_6, v2_7, v2_8, .int 0, .int 0, .int 0, .int 0, .int 0, .int 0]))]) (wr := [(h0, .inr (11, [v0_0, v0_1, v0_2, v0_3, v0_4, .ref h1, v0_6, .ref h2, v0_8, .ref h3, v0_10, v0_11, v0_12, v0_13, v0_14, v0_15])), (h3, .inr (3, [v3_0, v3_1, v3_2, .ref h4, .ref h5, v3_5, v3_6, v3_7])), (h4, .inl (cyI, 10, .inl f4)), (h5, .inl (cyI, 10, .inl f5)), (h1, .inr (0, [v1_0, v1_1, v1_2, v1_3, v1_4, v1_5, v1_6, v1_7, v1_8, v1_9, v1_10, v1_11, .int 3, .int 3]))]) E (mX9_mark l D cyI cyJ Z h2 v2_0 v2_1 v2_2 v2_3 v2_4 v2_5 v2_6 v2_7 v2_8 v2_12 v2_13 v2_14) kX9_mark wq213 wq214 wq215 ⟨rfl, rfl, Nat.le_of_ble_eq_true rfl, Nat.le_of_ble_eq_true rfl⟩ hP hD hS hA [1] [0, 2, 3, 4, 5] rfl rfl (by decide) (fun _ => rfl) 1 rfl rfl rfl hl.1 rfl (Nat.le_of_ble_eq_true rfl) dX11_begin_11 ⟨rfl, rfl⟩ ⟨Nat.le_of_ble_eq_true rfl, Nat.le_of_ble_eq_true rfl⟩ (fun _ H locs hP hD hS => ?_)
  refine lv_aload_n hx hb dX11_begin_14 rfl (lv_at hl 0 rfl) ?_
  refine x_get E iX11 hP 0 rfl rfl 9 (by decide) wq83 rfl dX11_begin_15 ?_
  refine x_Vv (rest := []) (ws' := fun u1 => [(h0, .inr (11, [v0_0, v0_1, v0_2, v0_3, v0_4, .ref h1, v0_6, .ref h2, v0_8, .ref h3, v0_10, v0_11, v0_12, v0_13, v0_14, v0_15])), (h1, .inr (0, [v1_0, v1_1, v1_2, v1_3, v1_4, v1_5, v1_6, v1_7, v1_8, v1_9, v1_10, v1_11, .int 3, .int 3])), (h2, .inr (9, [v2_0, v2_1, v2_2, v2_3, v2_4, v2_5, v2_6, v2_7, v2_8, .int 0, .int 0, .int 0, .int 0, .int 0, .int 0])), (h3, .inr (3, [v3_0, v3_1, v3_2, .ref h4, .ref h5, .int 0, v3_6, v3_7])), (h4, .inl (cyI, 10, .inl f4)), (h5, .inl (cyI, 10, .inl (u1.2 0)))]) (wr := [(h0, .inr (11, [v0_0, v0_1, v0_2, v0_3, v0_4, .ref h1, v0_6, .ref h2, v0_8, .ref h3, v0_10, v0_11, v0_12, v0_13, v0_14, v0_15])), (h1, .inr (0, [v1_0, v1_1, v1_2, v1_3, v1_4, v1_5, v1_6, v1_7, v1_8, v1_9, v1_10, v1_11, .int 3, .int 3])), (h2, .inr (9, [v2_0, v2_1, v2_2, v2_3, v2_4, v2_5, v2_6, v2_7, v2_8, .int 0, .int 0, .int 0, .int 0, .int 0, .int 0]))]) E (mX3_mark l D cyI cyJ Z h3 h4 h5 v3_0 v3_1 v3_2 v3_5 v3_6 v3_7 f4 f5) kX3_mark wq221 wq222 wq223 ⟨rfl, rfl, Nat.le_of_ble_eq_true rfl, Nat.le_of_ble_eq_true rfl⟩ hP hD hS hA [1, 2, 3] [0, 4, 5] rfl rfl (by decide) (fun _ => rfl) 1 rfl rfl rfl hl.1 rfl (Nat.le_of_ble_eq_true rfl) dX11_begin_18 ⟨rfl, rfl⟩ ⟨Nat.le_of_ble_eq_true rfl, Nat.le_of_ble_eq_true rfl⟩ (fun u1 H locs hP hD hS => ?_)
  exact x_vret E hr hlk hP hD hS (fun k => [].getD k 0, fun k => [(u1.2 0)].getD k (fun _ => 0)) [0, 1, 2, 3, 4, 5] (by decide) rfl dX11_begin_21

set_option maxHeartbeats 4000000 in
set_option maxRecDepth 100000 in
theorem mX8_add (l : Launch) (D : va_G) (cyI cyJ : ClassId) (Z : xZ) (h0 : Nat) (h1 : Nat) (h2 : Nat) (h3 : Nat) (v0_0 : Value) (v0_1 : Value) (v0_6 : Value) (v0_7 : Value) (v0_8 : Value) (v0_9 : Value) (v0_10 : Value) (v0_11 : Value) (f1 : Nat → Int32) (f2 : Nat → Int32) (f3 : Nat → Int32) : MetV l yX8_add (Cond.code yX8_add cX8_add 4 none) { frames := 0, cells := 0, slots := 0, locals := 0 } D cyI cyJ Z [.ref h0, .int 0, .int 0, .int (-1)] [(h0, .inr (8, [v0_0, v0_1, .ref h1, .ref h2, .ref h3, .int 0, v0_6, v0_7, v0_8, v0_9, v0_10, v0_11])), (h1, .inl (cyI, 401, .inl f1)), (h2, .inl (cyI, 401, .inl f2)), (h3, .inl (cyI, 401, .inl f3))] (fun _ : Unit => ([(h0, .inr (8, [v0_0, v0_1, .ref h1, .ref h2, .ref h3, .int 1, v0_6, v0_7, v0_8, v0_9, v0_10, v0_11])), (h1, .inl (cyI, 401, .inl (upd f1 0 0))), (h2, .inl (cyI, 401, .inl (upd f2 0 0))), (h3, .inl (cyI, 401, .inl (upd f3 0 (-1))))] : va_W)) 0 0 := by
  refine met_v (by decide) rfl ?_
  intro p e s m below meth c A ls E hr hlk hnm hP hD hA hl
  have hS : va_S A s.heap s.heap [] := va_S.rf
  have hx := E.1.1
  have hb := E.1.2.1
  have hl : lv_has ls 4 [(0, .ref h0), (1, .int 0), (2, .int 0), (3, .int (-1))] := hl
  refine lv_aload_n hx hb dX8_add_0 rfl (lv_at hl 0 rfl) ?_
  refine x_get E iX8 hP 0 rfl rfl 5 (by decide) wq231 rfl dX8_add_1 ?_
  refine lv_aload_n hx hb dX8_add_4 rfl (lv_at hl 0 rfl) ?_
  refine x_get E iX8 hP 0 rfl rfl 2 (by decide) wq89 rfl dX8_add_5 ?_
  refine x_alen (v := 401) E hP 1 rfl (by decide) dX8_add_8 ?_
  refine lv_icmp_ge (tgt := 52) hx hb dX8_add_9 (by decide) (fun c9 => absurd c9 (by decide)) (fun c9 => ?_)
  refine lv_aload_n hx hb dX8_add_12 rfl (lv_at hl 0 rfl) ?_
  refine x_get E iX8 hP 0 rfl rfl 2 (by decide) wq89 rfl dX8_add_13 ?_
  refine lv_aload_n hx hb dX8_add_16 rfl (lv_at hl 0 rfl) ?_
  refine x_get E iX8 hP 0 rfl rfl 5 (by decide) wq231 rfl dX8_add_17 ?_
  refine lv_iload_n hx hb dX8_add_20 rfl (lv_at hl 1 rfl) ?_
  refine x_iast (ws' := [(h0, .inr (8, [v0_0, v0_1, .ref h1, .ref h2, .ref h3, .int 0, v0_6, v0_7, v0_8, v0_9, v0_10, v0_11])), (h1, .inl (cyI, 401, .inl (upd f1 0 0))), (h2, .inl (cyI, 401, .inl f2)), (h3, .inl (cyI, 401, .inl f3))]) E hP hD hS 1 rfl (by decide) rfl rfl dX8_add_21 (fun H locs hP hD hS => ?_)
  refine lv_aload_n hx hb dX8_add_22 rfl (lv_at hl 0 rfl) ?_
  refine x_get E iX8 hP 0 rfl rfl 3 (by decide) wq90 rfl dX8_add_23 ?_
  refine lv_aload_n hx hb dX8_add_26 rfl (lv_at hl 0 rfl) ?_
  refine x_get E iX8 hP 0 rfl rfl 5 (by decide) wq231 rfl dX8_add_27 ?_
  refine lv_iload_n hx hb dX8_add_30 rfl (lv_at hl 2 rfl) ?_
  refine x_iast (ws' := [(h0, .inr (8, [v0_0, v0_1, .ref h1, .ref h2, .ref h3, .int 0, v0_6, v0_7, v0_8, v0_9, v0_10, v0_11])), (h1, .inl (cyI, 401, .inl (upd f1 0 0))), (h2, .inl (cyI, 401, .inl (upd f2 0 0))), (h3, .inl (cyI, 401, .inl f3))]) E hP hD hS 2 rfl (by decide) rfl rfl dX8_add_31 (fun H locs hP hD hS => ?_)
  refine lv_aload_n hx hb dX8_add_32 rfl (lv_at hl 0 rfl) ?_
  refine x_get E iX8 hP 0 rfl rfl 4 (by decide) wq91 rfl dX8_add_33 ?_
  refine lv_aload_n hx hb dX8_add_36 rfl (lv_at hl 0 rfl) ?_
  refine x_get E iX8 hP 0 rfl rfl 5 (by decide) wq231 rfl dX8_add_37 ?_
  refine lv_iload_n hx hb dX8_add_40 rfl (lv_at hl 3 rfl) ?_
  refine x_iast (ws' := [(h0, .inr (8, [v0_0, v0_1, .ref h1, .ref h2, .ref h3, .int 0, v0_6, v0_7, v0_8, v0_9, v0_10, v0_11])), (h1, .inl (cyI, 401, .inl (upd f1 0 0))), (h2, .inl (cyI, 401, .inl (upd f2 0 0))), (h3, .inl (cyI, 401, .inl (upd f3 0 (-1))))]) E hP hD hS 3 rfl (by decide) rfl rfl dX8_add_41 (fun H locs hP hD hS => ?_)
  refine lv_aload_n hx hb dX8_add_42 rfl (lv_at hl 0 rfl) ?_
  refine lv_dup hx hb dX8_add_43 rfl ?_
  refine x_get E iX8 hP 0 rfl rfl 5 (by decide) wq231 rfl dX8_add_44 ?_
  refine lv_iconst (v := 1) hx hb dX8_add_47 (by decide) ?_
  refine lv_iadd hx hb dX8_add_48 ?_
  refine x_topi (z := 1) (by decide) ?_
  refine x_put (ws' := [(h0, .inr (8, [v0_0, v0_1, .ref h1, .ref h2, .ref h3, .int 1, v0_6, v0_7, v0_8, v0_9, v0_10, v0_11])), (h1, .inl (cyI, 401, .inl (upd f1 0 0))), (h2, .inl (cyI, 401, .inl (upd f2 0 0))), (h3, .inl (cyI, 401, .inl (upd f3 0 (-1))))]) E iX8 tyX8 tyX8_ok nmX8 hP hD hS 0 rfl rfl 5 (by decide) wq231 rfl rfl rfl rfl rfl dX8_add_49 (fun H locs hP hD hS => ?_)
  exact x_vret E hr hlk hP hD hS () [0, 1, 2, 3] (by decide) rfl dX8_add_52

set_option maxHeartbeats 4000000 in
set_option maxRecDepth 100000 in
theorem mX8_advance (l : Launch) (D : va_G) (cyI cyJ : ClassId) (Z : xZ) (h0 : Nat) (h1 : Nat) (h2 : Nat) (h3 : Nat) (v0_0 : Value) (v0_1 : Value) (v0_7 : Value) (v0_8 : Value) (v0_9 : Value) (v0_10 : Value) (v0_11 : Value) : MetV l yX8_advance (Cond.code yX8_advance cX8_advance 1 none) { frames := 0, cells := 0, slots := 0, locals := 0 } D cyI cyJ Z [.ref h0] [(h0, .inr (8, [v0_0, v0_1, .ref h1, .ref h2, .ref h3, .int 1, .int (-1), v0_7, v0_8, v0_9, v0_10, v0_11])), (h1, .inl (cyI, 401, .inl (upd (fun _ => 0) 0 0))), (h2, .inl (cyI, 401, .inl (upd (fun _ => 0) 0 0))), (h3, .inl (cyI, 401, .inl (upd (fun _ => 0) 0 (-1))))] (fun _ : Unit => ([(h0, .inr (8, [v0_0, v0_1, .ref h1, .ref h2, .ref h3, .int 1, .int 0, .int 0, .int 0, .int (-1), v0_10, v0_11])), (h1, .inl (cyI, 401, .inl (upd (fun _ => 0) 0 0))), (h2, .inl (cyI, 401, .inl (upd (fun _ => 0) 0 0))), (h3, .inl (cyI, 401, .inl (upd (fun _ => 0) 0 (-1))))] : va_W)) 0 0 := by
  refine met_v (by decide) rfl ?_
  intro p e s m below meth c A ls E hr hlk hnm hP hD hA hl
  have hS : va_S A s.heap s.heap [] := va_S.rf
  have hx := E.1.1
  have hb := E.1.2.1
  have hl : lv_has ls 1 [(0, .ref h0)] := hl
  refine lv_aload_n hx hb dX8_advance_0 rfl (lv_at hl 0 rfl) ?_
  refine x_get E iX8 hP 0 rfl rfl 6 (by decide) wq237 rfl dX8_advance_1 ?_
  refine lv_iconst (v := 1) hx hb dX8_advance_4 (by decide) ?_
  refine lv_iadd hx hb dX8_advance_5 ?_
  refine x_topi (z := 0) (by decide) ?_
  refine lv_aload_n hx hb dX8_advance_6 rfl (lv_at hl 0 rfl) ?_
  refine x_get E iX8 hP 0 rfl rfl 5 (by decide) wq231 rfl dX8_advance_7 ?_
  refine lv_icmp_ge (tgt := 62) hx hb dX8_advance_10 (by decide) (fun c9 => absurd c9 (by decide)) (fun c9 => ?_)
  refine lv_aload_n hx hb dX8_advance_13 rfl (lv_at hl 0 rfl) ?_
  refine lv_dup hx hb dX8_advance_14 rfl ?_
  refine x_get E iX8 hP 0 rfl rfl 6 (by decide) wq237 rfl dX8_advance_15 ?_
  refine lv_iconst (v := 1) hx hb dX8_advance_18 (by decide) ?_
  refine lv_iadd hx hb dX8_advance_19 ?_
  refine x_topi (z := 0) (by decide) ?_
  refine x_put (ws' := [(h0, .inr (8, [v0_0, v0_1, .ref h1, .ref h2, .ref h3, .int 1, .int 0, v0_7, v0_8, v0_9, v0_10, v0_11])), (h1, .inl (cyI, 401, .inl (upd (fun _ => 0) 0 0))), (h2, .inl (cyI, 401, .inl (upd (fun _ => 0) 0 0))), (h3, .inl (cyI, 401, .inl (upd (fun _ => 0) 0 (-1))))]) E iX8 tyX8 tyX8_ok nmX8 hP hD hS 0 rfl rfl 6 (by decide) wq237 rfl rfl rfl rfl rfl dX8_advance_20 (fun H locs hP hD hS => ?_)
  refine lv_aload_n hx hb dX8_advance_23 rfl (lv_at hl 0 rfl) ?_
  refine lv_aload_n hx hb dX8_advance_24 rfl (lv_at hl 0 rfl) ?_
  refine x_get E iX8 hP 0 rfl rfl 2 (by decide) wq89 rfl dX8_advance_25 ?_
  refine lv_aload_n hx hb dX8_advance_28 rfl (lv_at hl 0 rfl) ?_
  refine x_get E iX8 hP 0 rfl rfl 6 (by decide) wq237 rfl dX8_advance_29 ?_
  refine x_iald (v := 0) E hP 1 rfl (by decide) rfl dX8_advance_32 ?_
  refine x_put (ws' := [(h0, .inr (8, [v0_0, v0_1, .ref h1, .ref h2, .ref h3, .int 1, .int 0, .int 0, v0_8, v0_9, v0_10, v0_11])), (h1, .inl (cyI, 401, .inl (upd (fun _ => 0) 0 0))), (h2, .inl (cyI, 401, .inl (upd (fun _ => 0) 0 0))), (h3, .inl (cyI, 401, .inl (upd (fun _ => 0) 0 (-1))))]) E iX8 tyX8 tyX8_ok nmX8 hP hD hS 0 rfl rfl 7 (by decide) wq238 rfl rfl rfl rfl rfl dX8_advance_33 (fun H locs hP hD hS => ?_)
  refine lv_aload_n hx hb dX8_advance_36 rfl (lv_at hl 0 rfl) ?_
  refine lv_aload_n hx hb dX8_advance_37 rfl (lv_at hl 0 rfl) ?_
  refine x_get E iX8 hP 0 rfl rfl 3 (by decide) wq90 rfl dX8_advance_38 ?_
  refine lv_aload_n hx hb dX8_advance_41 rfl (lv_at hl 0 rfl) ?_
  refine x_get E iX8 hP 0 rfl rfl 6 (by decide) wq237 rfl dX8_advance_42 ?_
  refine x_iald (v := 0) E hP 2 rfl (by decide) rfl dX8_advance_45 ?_
  refine x_put (ws' := [(h0, .inr (8, [v0_0, v0_1, .ref h1, .ref h2, .ref h3, .int 1, .int 0, .int 0, .int 0, v0_9, v0_10, v0_11])), (h1, .inl (cyI, 401, .inl (upd (fun _ => 0) 0 0))), (h2, .inl (cyI, 401, .inl (upd (fun _ => 0) 0 0))), (h3, .inl (cyI, 401, .inl (upd (fun _ => 0) 0 (-1))))]) E iX8 tyX8 tyX8_ok nmX8 hP hD hS 0 rfl rfl 8 (by decide) wq239 rfl rfl rfl rfl rfl dX8_advance_46 (fun H locs hP hD hS => ?_)
  refine lv_aload_n hx hb dX8_advance_49 rfl (lv_at hl 0 rfl) ?_
  refine lv_aload_n hx hb dX8_advance_50 rfl (lv_at hl 0 rfl) ?_
  refine x_get E iX8 hP 0 rfl rfl 4 (by decide) wq91 rfl dX8_advance_51 ?_
  refine lv_aload_n hx hb dX8_advance_54 rfl (lv_at hl 0 rfl) ?_
  refine x_get E iX8 hP 0 rfl rfl 6 (by decide) wq237 rfl dX8_advance_55 ?_
  refine x_iald (v := (-1)) E hP 3 rfl (by decide) rfl dX8_advance_58 ?_
  refine x_put (ws' := [(h0, .inr (8, [v0_0, v0_1, .ref h1, .ref h2, .ref h3, .int 1, .int 0, .int 0, .int 0, .int (-1), v0_10, v0_11])), (h1, .inl (cyI, 401, .inl (upd (fun _ => 0) 0 0))), (h2, .inl (cyI, 401, .inl (upd (fun _ => 0) 0 0))), (h3, .inl (cyI, 401, .inl (upd (fun _ => 0) 0 (-1))))]) E iX8 tyX8 tyX8_ok nmX8 hP hD hS 0 rfl rfl 9 (by decide) wq240 rfl rfl rfl rfl rfl dX8_advance_59 (fun H locs hP hD hS => ?_)
  exact x_vret E hr hlk hP hD hS () [0, 1, 2, 3] (by decide) rfl dX8_advance_62

set_option maxHeartbeats 4000000 in
set_option maxRecDepth 100000 in
theorem mX8_start (l : Launch) (D : va_G) (cyI cyJ : ClassId) (Z : xZ) (h0 : Nat) (h1 : Nat) (h2 : Nat) (h3 : Nat) (h4 : Nat) (v0_1 : Value) (v0_5 : Value) (v0_6 : Value) (v0_7 : Value) (v0_8 : Value) (v0_9 : Value) (v0_10 : Value) (v0_11 : Value) (f1 : Nat → Int32) : MetV l yX8_start (Cond.code yX8_start cX8_start 7 none) { frames := 1, cells := 0, slots := 0, locals := 23 } D cyI cyJ Z [.ref h0, .int 0] [(h0, .inr (8, [.ref h1, v0_1, .ref h2, .ref h3, .ref h4, v0_5, v0_6, v0_7, v0_8, v0_9, v0_10, v0_11])), (h1, .inl (cyI, 400, .inl f1)), (h2, .inl (cyI, 401, .inl (fun _ => 0))), (h3, .inl (cyI, 401, .inl (fun _ => 0))), (h4, .inl (cyI, 401, .inl (fun _ => 0)))] (fun _ : Unit => ([(h0, .inr (8, [.ref h1, v0_1, .ref h2, .ref h3, .ref h4, .int 1, .int 0, .int 0, .int 0, .int (-1), .int 0, .int (-1)])), (h1, .inl (cyI, 400, .inl f1)), (h2, .inl (cyI, 401, .inl (upd (fun _ => 0) 0 0))), (h3, .inl (cyI, 401, .inl (upd (fun _ => 0) 0 0))), (h4, .inl (cyI, 401, .inl (upd (fun _ => 0) 0 (-1))))] : va_W)) 0 0 := by
  refine met_v (by decide) rfl ?_
  intro p e s m below meth c A ls E hr hlk hnm hP hD hA hl
  have hS : va_S A s.heap s.heap [] := va_S.rf
  have hx := E.1.1
  have hb := E.1.2.1
  have hl : lv_has ls 7 [(0, .ref h0), (1, .int 0)] := hl
  refine lv_iload_n hx hb dX8_start_0 rfl (lv_at hl 1 rfl) ?_
  refine lv_aload_n hx hb dX8_start_1 rfl (lv_at hl 0 rfl) ?_
  refine x_get E iX8 hP 0 rfl rfl 0 (by decide) wq92 rfl dX8_start_2 ?_
  refine x_alen (v := 400) E hP 1 rfl (by decide) dX8_start_5 ?_
  refine x_min (z := 0) E wq227 wq228 wq229 wq230 hl.1 ⟨Nat.le_of_ble_eq_true rfl, Nat.le_of_ble_eq_true rfl, Nat.le_of_ble_eq_true rfl, Nat.le_of_ble_eq_true rfl⟩ (by decide) dX8_start_6 ?_
  refine lv_istore_n (lv' := [(2, .int 0), (0, .ref h0), (1, .int 0)]) hx hb dX8_start_9 rfl hl (by decide) rfl (fun ls hl => ?_)
  refine lv_aload_n hx hb dX8_start_10 rfl (lv_at hl 1 rfl) ?_
  refine lv_iconst (v := 0) hx hb dX8_start_11 (by decide) ?_
  refine x_put (ws' := [(h0, .inr (8, [.ref h1, v0_1, .ref h2, .ref h3, .ref h4, .int 0, v0_6, v0_7, v0_8, v0_9, v0_10, v0_11])), (h1, .inl (cyI, 400, .inl f1)), (h2, .inl (cyI, 401, .inl (fun _ => 0))), (h3, .inl (cyI, 401, .inl (fun _ => 0))), (h4, .inl (cyI, 401, .inl (fun _ => 0)))]) E iX8 tyX8 tyX8_ok nmX8 hP hD hS 0 rfl rfl 5 (by decide) wq231 rfl rfl rfl rfl rfl dX8_start_12 (fun H locs hP hD hS => ?_)
  refine lv_iconst (v := 1) hx hb dX8_start_15 (by decide) ?_
  refine lv_istore_n (lv' := [(3, .int 1), (2, .int 0), (0, .ref h0), (1, .int 0)]) hx hb dX8_start_16 rfl hl (by decide) rfl (fun ls hl => ?_)
  refine lv_iconst (v := 0) hx hb dX8_start_17 (by decide) ?_
  refine lv_istore (lv' := [(4, .int 0), (3, .int 1), (2, .int 0), (0, .ref h0), (1, .int 0)]) hx hb dX8_start_18 hl (by decide) rfl (fun ls hl => ?_)
  refine lv_iload hx hb dX8_start_20 (lv_at hl 0 rfl) ?_
  refine lv_iload_n hx hb dX8_start_22 rfl (lv_at hl 2 rfl) ?_
  refine lv_icmp_ge (tgt := 149) hx hb dX8_start_23 (by decide) (fun c9 => ?_) (fun c9 => absurd (by decide) c9)
  refine lv_aload_n hx hb dX8_start_149 rfl (lv_at hl 3 rfl) ?_
  refine lv_iconst (v := 0) hx hb dX8_start_150 (by decide) ?_
  refine lv_iload_n hx hb dX8_start_151 rfl (lv_at hl 2 rfl) ?_
  refine lv_iconst (v := (-1)) hx hb dX8_start_152 (by decide) ?_
  refine x_Vv (rest := []) (ws' := fun _ => [(h1, .inl (cyI, 400, .inl f1)), (h0, .inr (8, [.ref h1, v0_1, .ref h2, .ref h3, .ref h4, .int 1, v0_6, v0_7, v0_8, v0_9, v0_10, v0_11])), (h2, .inl (cyI, 401, .inl (upd (fun _ => 0) 0 0))), (h3, .inl (cyI, 401, .inl (upd (fun _ => 0) 0 0))), (h4, .inl (cyI, 401, .inl (upd (fun _ => 0) 0 (-1))))]) (wr := [(h1, .inl (cyI, 400, .inl f1))]) E (mX8_add l D cyI cyJ Z h0 h2 h3 h4 (.ref h1) v0_1 v0_6 v0_7 v0_8 v0_9 v0_10 v0_11 ((fun _ => 0)) ((fun _ => 0)) ((fun _ => 0))) kX8_add wq232 wq233 wq234 ⟨rfl, rfl, Nat.le_of_ble_eq_true rfl, Nat.le_of_ble_eq_true rfl⟩ hP hD hS hA [0, 2, 3, 4] [1] rfl rfl (by decide) (fun _ => rfl) 0 rfl rfl rfl hl.1 rfl (Nat.le_of_ble_eq_true rfl) dX8_start_153 ⟨rfl, rfl⟩ ⟨Nat.le_of_ble_eq_true rfl, Nat.le_of_ble_eq_true rfl⟩ (fun _ H locs hP hD hS => ?_)
  refine lv_aload_n hx hb dX8_start_156 rfl (lv_at hl 3 rfl) ?_
  refine lv_iconst (v := 0) hx hb dX8_start_157 (by decide) ?_
  refine x_put (ws' := [(h1, .inl (cyI, 400, .inl f1)), (h0, .inr (8, [.ref h1, v0_1, .ref h2, .ref h3, .ref h4, .int 1, v0_6, v0_7, v0_8, v0_9, .int 0, v0_11])), (h2, .inl (cyI, 401, .inl (upd (fun _ => 0) 0 0))), (h3, .inl (cyI, 401, .inl (upd (fun _ => 0) 0 0))), (h4, .inl (cyI, 401, .inl (upd (fun _ => 0) 0 (-1))))]) E iX8 tyX8 tyX8_ok nmX8 hP hD hS 1 rfl rfl 10 (by decide) wq235 rfl rfl rfl rfl rfl dX8_start_158 (fun H locs hP hD hS => ?_)
  refine lv_aload_n hx hb dX8_start_161 rfl (lv_at hl 3 rfl) ?_
  refine lv_iconst (v := (-1)) hx hb dX8_start_162 (by decide) ?_
  refine x_put (ws' := [(h1, .inl (cyI, 400, .inl f1)), (h0, .inr (8, [.ref h1, v0_1, .ref h2, .ref h3, .ref h4, .int 1, v0_6, v0_7, v0_8, v0_9, .int 0, .int (-1)])), (h2, .inl (cyI, 401, .inl (upd (fun _ => 0) 0 0))), (h3, .inl (cyI, 401, .inl (upd (fun _ => 0) 0 0))), (h4, .inl (cyI, 401, .inl (upd (fun _ => 0) 0 (-1))))]) E iX8 tyX8 tyX8_ok nmX8 hP hD hS 1 rfl rfl 11 (by decide) wq236 rfl rfl rfl rfl rfl dX8_start_163 (fun H locs hP hD hS => ?_)
  refine lv_aload_n hx hb dX8_start_166 rfl (lv_at hl 3 rfl) ?_
  refine lv_iconst (v := (-1)) hx hb dX8_start_167 (by decide) ?_
  refine x_put (ws' := [(h1, .inl (cyI, 400, .inl f1)), (h0, .inr (8, [.ref h1, v0_1, .ref h2, .ref h3, .ref h4, .int 1, .int (-1), v0_7, v0_8, v0_9, .int 0, .int (-1)])), (h2, .inl (cyI, 401, .inl (upd (fun _ => 0) 0 0))), (h3, .inl (cyI, 401, .inl (upd (fun _ => 0) 0 0))), (h4, .inl (cyI, 401, .inl (upd (fun _ => 0) 0 (-1))))]) E iX8 tyX8 tyX8_ok nmX8 hP hD hS 1 rfl rfl 6 (by decide) wq237 rfl rfl rfl rfl rfl dX8_start_168 (fun H locs hP hD hS => ?_)
  refine lv_aload_n hx hb dX8_start_171 rfl (lv_at hl 3 rfl) ?_
  refine x_Vv (rest := []) (ws' := fun _ => [(h1, .inl (cyI, 400, .inl f1)), (h0, .inr (8, [.ref h1, v0_1, .ref h2, .ref h3, .ref h4, .int 1, .int 0, .int 0, .int 0, .int (-1), .int 0, .int (-1)])), (h2, .inl (cyI, 401, .inl (upd (fun _ => 0) 0 0))), (h3, .inl (cyI, 401, .inl (upd (fun _ => 0) 0 0))), (h4, .inl (cyI, 401, .inl (upd (fun _ => 0) 0 (-1))))]) (wr := [(h1, .inl (cyI, 400, .inl f1))]) E (mX8_advance l D cyI cyJ Z h0 h2 h3 h4 (.ref h1) v0_1 v0_7 v0_8 v0_9 (.int 0) (.int (-1))) kX8_advance wq241 wq242 wq243 ⟨rfl, rfl, Nat.le_of_ble_eq_true rfl, Nat.le_of_ble_eq_true rfl⟩ hP hD hS hA [1, 2, 3, 4] [0] rfl rfl (by decide) (fun _ => rfl) 1 rfl rfl rfl hl.1 rfl (Nat.le_of_ble_eq_true rfl) dX8_start_172 ⟨rfl, rfl⟩ ⟨Nat.le_of_ble_eq_true rfl, Nat.le_of_ble_eq_true rfl⟩ (fun _ H locs hP hD hS => ?_)
  exact x_vret E hr hlk hP hD hS () [1, 0, 2, 3, 4] (by decide) rfl dX8_start_175

set_option maxHeartbeats 4000000 in
set_option maxRecDepth 100000 in
theorem mX11_opens (l : Launch) (D : va_G) (cyI cyJ : ClassId) (Z : xZ) (h0 : Nat) (h1 : Nat) (h2 : Nat) (h3 : Nat) (h4 : Nat) (h5 : Nat) (h6 : Nat) (h7 : Nat) (h8 : Nat) (h9 : Nat) (h10 : Nat) (v0_0 : Value) (v0_2 : Value) (v0_3 : Value) (v0_4 : Value) (v0_6 : Value) (v0_8 : Value) (v0_11 : Value) (v0_12 : Value) (v0_13 : Value) (v0_14 : Value) (v0_15 : Value) (v1_0 : Value) (v1_1 : Value) (v1_2 : Value) (v1_3 : Value) (v1_4 : Value) (v1_5 : Value) (v1_6 : Value) (v1_7 : Value) (v1_8 : Value) (v1_9 : Value) (v1_10 : Value) (v1_11 : Value) (v1_13 : Value) (v2_0 : Value) (v2_1 : Value) (v2_2 : Value) (v2_3 : Value) (v2_4 : Value) (v2_5 : Value) (v2_6 : Value) (v2_7 : Value) (v2_8 : Value) (v2_12 : Value) (v2_13 : Value) (v2_14 : Value) (v3_0 : Value) (v3_1 : Value) (v3_2 : Value) (v3_5 : Value) (v3_6 : Value) (v3_7 : Value) (f4 : Nat → Int32) (f5 : Nat → Int32) (v6_1 : Value) (v6_5 : Value) (v6_6 : Value) (v6_7 : Value) (v6_8 : Value) (v6_9 : Value) (v6_10 : Value) (v6_11 : Value) (f7 : Nat → Int32) : MetI l yX11_opens (Cond.code yX11_opens cX11_opens 2 (some .boolean)) { frames := 3, cells := 0, slots := 0, locals := 80 } D cyI cyJ Z [.ref h0, .int 0] [(h0, .inr (11, [v0_0, .int 0, v0_2, v0_3, v0_4, .ref h1, v0_6, .ref h2, v0_8, .ref h3, .ref h6, v0_11, v0_12, v0_13, v0_14, v0_15])), (h1, .inr (0, [v1_0, v1_1, v1_2, v1_3, v1_4, v1_5, v1_6, v1_7, v1_8, v1_9, v1_10, v1_11, .int 3, v1_13])), (h2, .inr (9, [v2_0, v2_1, v2_2, v2_3, v2_4, v2_5, v2_6, v2_7, v2_8, .int 0, .int 0, .int 0, v2_12, v2_13, v2_14])), (h3, .inr (3, [v3_0, v3_1, v3_2, .ref h4, .ref h5, v3_5, v3_6, v3_7])), (h4, .inl (cyI, 10, .inl f4)), (h5, .inl (cyI, 10, .inl f5)), (h6, .inr (8, [.ref h7, v6_1, .ref h8, .ref h9, .ref h10, v6_5, v6_6, v6_7, v6_8, v6_9, v6_10, v6_11])), (h7, .inl (cyI, 400, .inl f7)), (h8, .inl (cyI, 401, .inl (fun _ => 0))), (h9, .inl (cyI, 401, .inl (fun _ => 0))), (h10, .inl (cyI, 401, .inl (fun _ => 0)))] (fun _ : ((Nat → Nat) × (Nat → Nat → Int32)) => 1) (fun u : ((Nat → Nat) × (Nat → Nat → Int32)) => ([(h0, .inr (11, [v0_0, .int 0, v0_2, v0_3, v0_4, .ref h1, v0_6, .ref h2, v0_8, .ref h3, .ref h6, v0_11, v0_12, v0_13, v0_14, v0_15])), (h1, .inr (0, [v1_0, v1_1, v1_2, v1_3, v1_4, v1_5, v1_6, v1_7, v1_8, v1_9, v1_10, v1_11, .int 3, .int 3])), (h2, .inr (9, [v2_0, v2_1, v2_2, v2_3, v2_4, v2_5, v2_6, v2_7, v2_8, .int 0, .int 0, .int 0, .int 0, .int 0, .int 0])), (h3, .inr (3, [v3_0, v3_1, v3_2, .ref h4, .ref h5, .int 0, v3_6, v3_7])), (h4, .inl (cyI, 10, .inl f4)), (h5, .inl (cyI, 10, .inl (u.2 0))), (h6, .inr (8, [.ref h7, v6_1, .ref h8, .ref h9, .ref h10, .int 1, .int 0, .int 0, .int 0, .int (-1), .int 0, .int (-1)])), (h7, .inl (cyI, 400, .inl f7)), (h8, .inl (cyI, 401, .inl (upd (fun _ => 0) 0 0))), (h9, .inl (cyI, 401, .inl (upd (fun _ => 0) 0 0))), (h10, .inl (cyI, 401, .inl (upd (fun _ => 0) 0 (-1))))] : va_W)) 0 0 := by
  refine met_i (by decide) rfl ?_
  intro p e s m below meth c A ls E hr hlk hP hD hA hl
  have hS : va_S A s.heap s.heap [] := va_S.rf
  have hx := E.1.1
  have hb := E.1.2.1
  have hl : lv_has ls 2 [(0, .ref h0), (1, .int 0)] := hl
  refine lv_iload_n hx hb dX11_opens_0 rfl (lv_at hl 1 rfl) ?_
  refine lv_if_lt (tgt := 12) hx hb dX11_opens_1 (by decide) (fun c9 => absurd c9 (by decide)) (fun c9 => ?_)
  refine lv_iload_n hx hb dX11_opens_4 rfl (lv_at hl 1 rfl) ?_
  refine lv_aload_n hx hb dX11_opens_5 rfl (lv_at hl 0 rfl) ?_
  refine x_get E iX11 hP 0 rfl rfl 1 (by decide) wq198 rfl dX11_opens_6 ?_
  refine lv_icmp_le (tgt := 14) hx hb dX11_opens_9 (by decide) (fun c9 => ?_) (fun c9 => absurd (by decide) c9)
  refine lv_aload_n hx hb dX11_opens_14 rfl (lv_at hl 0 rfl) ?_
  refine x_Vv (rest := []) (ws' := fun u1 => [(h6, .inr (8, [.ref h7, v6_1, .ref h8, .ref h9, .ref h10, v6_5, v6_6, v6_7, v6_8, v6_9, v6_10, v6_11])), (h7, .inl (cyI, 400, .inl f7)), (h8, .inl (cyI, 401, .inl (fun _ => 0))), (h9, .inl (cyI, 401, .inl (fun _ => 0))), (h10, .inl (cyI, 401, .inl (fun _ => 0))), (h0, .inr (11, [v0_0, .int 0, v0_2, v0_3, v0_4, .ref h1, v0_6, .ref h2, v0_8, .ref h3, .ref h6, v0_11, v0_12, v0_13, v0_14, v0_15])), (h1, .inr (0, [v1_0, v1_1, v1_2, v1_3, v1_4, v1_5, v1_6, v1_7, v1_8, v1_9, v1_10, v1_11, .int 3, .int 3])), (h2, .inr (9, [v2_0, v2_1, v2_2, v2_3, v2_4, v2_5, v2_6, v2_7, v2_8, .int 0, .int 0, .int 0, .int 0, .int 0, .int 0])), (h3, .inr (3, [v3_0, v3_1, v3_2, .ref h4, .ref h5, .int 0, v3_6, v3_7])), (h4, .inl (cyI, 10, .inl f4)), (h5, .inl (cyI, 10, .inl (u1.2 0)))]) (wr := [(h6, .inr (8, [.ref h7, v6_1, .ref h8, .ref h9, .ref h10, v6_5, v6_6, v6_7, v6_8, v6_9, v6_10, v6_11])), (h7, .inl (cyI, 400, .inl f7)), (h8, .inl (cyI, 401, .inl (fun _ => 0))), (h9, .inl (cyI, 401, .inl (fun _ => 0))), (h10, .inl (cyI, 401, .inl (fun _ => 0)))]) E (mX11_begin l D cyI cyJ Z h0 h1 h2 h3 h4 h5 v0_0 (.int 0) v0_2 v0_3 v0_4 v0_6 v0_8 (.ref h6) v0_11 v0_12 v0_13 v0_14 v0_15 v1_0 v1_1 v1_2 v1_3 v1_4 v1_5 v1_6 v1_7 v1_8 v1_9 v1_10 v1_11 v1_13 v2_0 v2_1 v2_2 v2_3 v2_4 v2_5 v2_6 v2_7 v2_8 v2_12 v2_13 v2_14 v3_0 v3_1 v3_2 v3_5 v3_6 v3_7 f4 f5) kX11_begin wq224 wq225 wq226 ⟨rfl, rfl, Nat.le_of_ble_eq_true rfl, Nat.le_of_ble_eq_true rfl⟩ hP hD hS hA [0, 1, 2, 3, 4, 5] [6, 7, 8, 9, 10] rfl rfl (by decide) (fun _ => rfl) 0 rfl rfl rfl hl.1 rfl (Nat.le_of_ble_eq_true rfl) dX11_opens_15 ⟨rfl, rfl⟩ ⟨Nat.le_of_ble_eq_true rfl, Nat.le_of_ble_eq_true rfl⟩ (fun u1 H locs hP hD hS => ?_)
  refine lv_aload_n hx hb dX11_opens_18 rfl (lv_at hl 0 rfl) ?_
  refine x_get E iX11 hP 5 rfl rfl 10 (by decide) wq95 rfl dX11_opens_19 ?_
  refine lv_iload_n hx hb dX11_opens_22 rfl (lv_at hl 1 rfl) ?_
  refine x_Vv (rest := []) (ws' := fun _ => [(h0, .inr (11, [v0_0, .int 0, v0_2, v0_3, v0_4, .ref h1, v0_6, .ref h2, v0_8, .ref h3, .ref h6, v0_11, v0_12, v0_13, v0_14, v0_15])), (h1, .inr (0, [v1_0, v1_1, v1_2, v1_3, v1_4, v1_5, v1_6, v1_7, v1_8, v1_9, v1_10, v1_11, .int 3, .int 3])), (h2, .inr (9, [v2_0, v2_1, v2_2, v2_3, v2_4, v2_5, v2_6, v2_7, v2_8, .int 0, .int 0, .int 0, .int 0, .int 0, .int 0])), (h3, .inr (3, [v3_0, v3_1, v3_2, .ref h4, .ref h5, .int 0, v3_6, v3_7])), (h4, .inl (cyI, 10, .inl f4)), (h5, .inl (cyI, 10, .inl (u1.2 0))), (h6, .inr (8, [.ref h7, v6_1, .ref h8, .ref h9, .ref h10, .int 1, .int 0, .int 0, .int 0, .int (-1), .int 0, .int (-1)])), (h7, .inl (cyI, 400, .inl f7)), (h8, .inl (cyI, 401, .inl (upd (fun _ => 0) 0 0))), (h9, .inl (cyI, 401, .inl (upd (fun _ => 0) 0 0))), (h10, .inl (cyI, 401, .inl (upd (fun _ => 0) 0 (-1))))]) (wr := [(h0, .inr (11, [v0_0, .int 0, v0_2, v0_3, v0_4, .ref h1, v0_6, .ref h2, v0_8, .ref h3, .ref h6, v0_11, v0_12, v0_13, v0_14, v0_15])), (h1, .inr (0, [v1_0, v1_1, v1_2, v1_3, v1_4, v1_5, v1_6, v1_7, v1_8, v1_9, v1_10, v1_11, .int 3, .int 3])), (h2, .inr (9, [v2_0, v2_1, v2_2, v2_3, v2_4, v2_5, v2_6, v2_7, v2_8, .int 0, .int 0, .int 0, .int 0, .int 0, .int 0])), (h3, .inr (3, [v3_0, v3_1, v3_2, .ref h4, .ref h5, .int 0, v3_6, v3_7])), (h4, .inl (cyI, 10, .inl f4)), (h5, .inl (cyI, 10, .inl (u1.2 0)))]) E (mX8_start l D cyI cyJ Z h6 h7 h8 h9 h10 v6_1 v6_5 v6_6 v6_7 v6_8 v6_9 v6_10 v6_11 f7) kX8_start wq244 wq245 wq246 ⟨rfl, rfl, Nat.le_of_ble_eq_true rfl, Nat.le_of_ble_eq_true rfl⟩ hP hD hS hA [0, 1, 2, 3, 4] [5, 6, 7, 8, 9, 10] rfl rfl (by decide) (fun _ => rfl) 0 rfl rfl rfl hl.1 rfl (Nat.le_of_ble_eq_true rfl) dX11_opens_23 ⟨rfl, rfl⟩ ⟨Nat.le_of_ble_eq_true rfl, Nat.le_of_ble_eq_true rfl⟩ (fun _ H locs hP hD hS => ?_)
  refine lv_aload_n hx hb dX11_opens_26 rfl (lv_at hl 0 rfl) ?_
  refine lv_iconst (v := 0) hx hb dX11_opens_27 (by decide) ?_
  refine x_put (ws' := [(h0, .inr (11, [v0_0, .int 0, v0_2, v0_3, v0_4, .ref h1, v0_6, .ref h2, v0_8, .ref h3, .ref h6, v0_11, v0_12, v0_13, v0_14, v0_15])), (h1, .inr (0, [v1_0, v1_1, v1_2, v1_3, v1_4, v1_5, v1_6, v1_7, v1_8, v1_9, v1_10, v1_11, .int 3, .int 3])), (h2, .inr (9, [v2_0, v2_1, v2_2, v2_3, v2_4, v2_5, v2_6, v2_7, v2_8, .int 0, .int 0, .int 0, .int 0, .int 0, .int 0])), (h3, .inr (3, [v3_0, v3_1, v3_2, .ref h4, .ref h5, .int 0, v3_6, v3_7])), (h4, .inl (cyI, 10, .inl f4)), (h5, .inl (cyI, 10, .inl (u1.2 0))), (h6, .inr (8, [.ref h7, v6_1, .ref h8, .ref h9, .ref h10, .int 1, .int 0, .int 0, .int 0, .int (-1), .int 0, .int (-1)])), (h7, .inl (cyI, 400, .inl f7)), (h8, .inl (cyI, 401, .inl (upd (fun _ => 0) 0 0))), (h9, .inl (cyI, 401, .inl (upd (fun _ => 0) 0 0))), (h10, .inl (cyI, 401, .inl (upd (fun _ => 0) 0 (-1))))]) E iX11 tyX11 tyX11_ok nmX11 hP hD hS 0 rfl rfl 1 (by decide) wq198 rfl rfl rfl rfl rfl dX11_opens_28 (fun H locs hP hD hS => ?_)
  refine lv_iconst (v := 1) hx hb dX11_opens_31 (by decide) ?_
  exact x_iret E hr hlk hP hD hS (fun k => [].getD k 0, fun k => [(u1.2 0)].getD k (fun _ => 0)) rfl [0, 1, 2, 3, 4, 5, 6, 7, 8, 9, 10] (by decide) rfl rfl dX11_opens_32

set_option maxHeartbeats 4000000 in
set_option maxRecDepth 100000 in
theorem mX8_wordHere (l : Launch) (D : va_G) (cyI cyJ : ClassId) (Z : xZ) (h0 : Nat) (v0_0 : Value) (v0_1 : Value) (v0_2 : Value) (v0_3 : Value) (v0_4 : Value) (v0_5 : Value) (v0_6 : Value) (v0_8 : Value) (v0_9 : Value) (v0_10 : Value) (v0_11 : Value) : MetI l yX8_wordHere (Cond.code yX8_wordHere cX8_wordHere 1 (some .int)) { frames := 0, cells := 0, slots := 0, locals := 0 } D cyI cyJ Z [.ref h0] [(h0, .inr (8, [v0_0, v0_1, v0_2, v0_3, v0_4, v0_5, v0_6, .int 0, v0_8, v0_9, v0_10, v0_11]))] (fun _ : Unit => (-1)) (fun _ : Unit => ([(h0, .inr (8, [v0_0, v0_1, v0_2, v0_3, v0_4, v0_5, v0_6, .int 0, v0_8, v0_9, v0_10, v0_11]))] : va_W)) 0 0 := by
  refine met_i (by decide) rfl ?_
  intro p e s m below meth c A ls E hr hlk hP hD hA hl
  have hS : va_S A s.heap s.heap [] := va_S.rf
  have hx := E.1.1
  have hb := E.1.2.1
  have hl : lv_has ls 1 [(0, .ref h0)] := hl
  refine lv_aload_n hx hb dX8_wordHere_0 rfl (lv_at hl 0 rfl) ?_
  refine x_get E iX8 hP 0 rfl rfl 7 (by decide) wq238 rfl dX8_wordHere_1 ?_
  refine lv_iconst (v := 3) hx hb dX8_wordHere_4 (by decide) ?_
  refine lv_icmp_ne (tgt := 15) hx hb dX8_wordHere_5 (by decide) (fun c9 => ?_) (fun c9 => absurd c9 (by decide))
  refine lv_iconst (v := (-1)) hx hb dX8_wordHere_15 (by decide) ?_
  exact x_iret E hr hlk hP hD hS () rfl [0] (by decide) rfl rfl dX8_wordHere_16

set_option maxHeartbeats 4000000 in
set_option maxRecDepth 100000 in
theorem mX8_refuse (l : Launch) (D : va_G) (cyI cyJ : ClassId) (Z : xZ) (h0 : Nat) (v0_0 : Value) (v0_1 : Value) (v0_2 : Value) (v0_3 : Value) (v0_4 : Value) (v0_5 : Value) (v0_6 : Value) (v0_7 : Value) (v0_8 : Value) (v0_9 : Value) (v0_11 : Value) : MetI l yX8_refuse (Cond.code yX8_refuse cX8_refuse 3 (some .int)) { frames := 0, cells := 0, slots := 0, locals := 0 } D cyI cyJ Z [.ref h0, .int 1, .int 0] [(h0, .inr (8, [v0_0, v0_1, v0_2, v0_3, v0_4, v0_5, v0_6, v0_7, v0_8, v0_9, .int 0, v0_11]))] (fun _ : Unit => (-1)) (fun _ : Unit => ([(h0, .inr (8, [v0_0, v0_1, v0_2, v0_3, v0_4, v0_5, v0_6, .int 1, v0_8, v0_9, .int 1, .int 0]))] : va_W)) 0 0 := by
  refine met_i (by decide) rfl ?_
  intro p e s m below meth c A ls E hr hlk hP hD hA hl
  have hS : va_S A s.heap s.heap [] := va_S.rf
  have hx := E.1.1
  have hb := E.1.2.1
  have hl : lv_has ls 3 [(0, .ref h0), (1, .int 1), (2, .int 0)] := hl
  refine lv_aload_n hx hb dX8_refuse_0 rfl (lv_at hl 0 rfl) ?_
  refine x_get E iX8 hP 0 rfl rfl 10 (by decide) wq235 rfl dX8_refuse_1 ?_
  refine lv_if_ne (tgt := 17) hx hb dX8_refuse_4 (by decide) (fun c9 => absurd (by decide) c9) (fun c9 => ?_)
  refine lv_aload_n hx hb dX8_refuse_7 rfl (lv_at hl 0 rfl) ?_
  refine lv_iload_n hx hb dX8_refuse_8 rfl (lv_at hl 1 rfl) ?_
  refine x_put (ws' := [(h0, .inr (8, [v0_0, v0_1, v0_2, v0_3, v0_4, v0_5, v0_6, v0_7, v0_8, v0_9, .int 1, v0_11]))]) E iX8 tyX8 tyX8_ok nmX8 hP hD hS 0 rfl rfl 10 (by decide) wq235 rfl rfl rfl rfl rfl dX8_refuse_9 (fun H locs hP hD hS => ?_)
  refine lv_aload_n hx hb dX8_refuse_12 rfl (lv_at hl 0 rfl) ?_
  refine lv_iload_n hx hb dX8_refuse_13 rfl (lv_at hl 2 rfl) ?_
  refine x_put (ws' := [(h0, .inr (8, [v0_0, v0_1, v0_2, v0_3, v0_4, v0_5, v0_6, v0_7, v0_8, v0_9, .int 1, .int 0]))]) E iX8 tyX8 tyX8_ok nmX8 hP hD hS 0 rfl rfl 11 (by decide) wq236 rfl rfl rfl rfl rfl dX8_refuse_14 (fun H locs hP hD hS => ?_)
  refine lv_aload_n hx hb dX8_refuse_17 rfl (lv_at hl 0 rfl) ?_
  refine lv_iconst (v := 1) hx hb dX8_refuse_18 (by decide) ?_
  refine x_put (ws' := [(h0, .inr (8, [v0_0, v0_1, v0_2, v0_3, v0_4, v0_5, v0_6, .int 1, v0_8, v0_9, .int 1, .int 0]))]) E iX8 tyX8 tyX8_ok nmX8 hP hD hS 0 rfl rfl 7 (by decide) wq238 rfl rfl rfl rfl rfl dX8_refuse_19 (fun H locs hP hD hS => ?_)
  refine lv_iconst (v := (-1)) hx hb dX8_refuse_22 (by decide) ?_
  exact x_iret E hr hlk hP hD hS () rfl [0] (by decide) rfl rfl dX8_refuse_23

set_option maxHeartbeats 4000000 in
set_option maxRecDepth 100000 in
theorem mX4_readLines (l : Launch) (D : va_G) (cyI cyJ : ClassId) (Z : xZ) (h0 : Nat) (h1 : Nat) (v0_1 : Value) (v0_2 : Value) (v0_3 : Value) (v0_4 : Value) (v0_5 : Value) (v1_0 : Value) (v1_1 : Value) (v1_2 : Value) (v1_3 : Value) (v1_4 : Value) (v1_5 : Value) (v1_6 : Value) (v1_9 : Value) (v1_11 : Value) : MetV l yX4_readLines (Cond.code yX4_readLines cX4_readLines 2 none) { frames := 1, cells := 0, slots := 0, locals := 22 } D cyI cyJ Z [.ref h0] [(h0, .inr (4, [.ref h1, v0_1, v0_2, v0_3, v0_4, v0_5])), (h1, .inr (8, [v1_0, v1_1, v1_2, v1_3, v1_4, v1_5, v1_6, .int 0, .int 0, v1_9, .int 0, v1_11]))] (fun _ : Unit => ([(h0, .inr (4, [.ref h1, v0_1, v0_2, v0_3, v0_4, v0_5])), (h1, .inr (8, [v1_0, v1_1, v1_2, v1_3, v1_4, v1_5, v1_6, .int 1, .int 0, v1_9, .int 1, .int 0]))] : va_W)) 0 0 := by
  refine met_v (by decide) rfl ?_
  intro p e s m below meth c A ls E hr hlk hnm hP hD hA hl
  have hS : va_S A s.heap s.heap [] := va_S.rf
  have hx := E.1.1
  have hb := E.1.2.1
  have hl : lv_has ls 2 [(0, .ref h0)] := hl
  refine lv_iconst (v := 0) hx hb dX4_readLines_0 (by decide) ?_
  refine lv_istore_n (lv' := [(1, .int 0), (0, .ref h0)]) hx hb dX4_readLines_1 rfl hl (by decide) rfl (fun ls hl => ?_)
  refine lv_iload_n hx hb dX4_readLines_2 rfl (lv_at hl 0 rfl) ?_
  refine lv_sipush (v := 400) hx hb dX4_readLines_3 (by decide) ?_
  refine lv_icmp_ge (tgt := 131) hx hb dX4_readLines_6 (by decide) (fun c9 => absurd c9 (by decide)) (fun c9 => ?_)
  refine lv_aload_n hx hb dX4_readLines_9 rfl (lv_at hl 1 rfl) ?_
  refine x_get E iX4 hP 0 rfl rfl 0 (by decide) wq114 rfl dX4_readLines_10 ?_
  refine x_Vi (rest := []) (ws' := fun _ => [(h0, .inr (4, [.ref h1, v0_1, v0_2, v0_3, v0_4, v0_5])), (h1, .inr (8, [v1_0, v1_1, v1_2, v1_3, v1_4, v1_5, v1_6, .int 0, .int 0, v1_9, .int 0, v1_11]))]) (wr := [(h0, .inr (4, [.ref h1, v0_1, v0_2, v0_3, v0_4, v0_5]))]) E (mX8_wordHere l D cyI cyJ Z h1 v1_0 v1_1 v1_2 v1_3 v1_4 v1_5 v1_6 (.int 0) v1_9 (.int 0) v1_11) kX8_wordHere wq250 wq251 wq252 ⟨rfl, rfl, Nat.le_of_ble_eq_true rfl, Nat.le_of_ble_eq_true rfl⟩ hP hD hS hA [1] [0] rfl rfl (by decide) (fun _ => rfl) 1 rfl rfl rfl hl.1 rfl (Nat.le_of_ble_eq_true rfl) dX4_readLines_13 ⟨rfl, rfl⟩ ⟨Nat.le_of_ble_eq_true rfl, Nat.le_of_ble_eq_true rfl⟩ (fun _ H locs hP hD hS => ?_)
  refine lv_tableOut (tgt := 76) hx hb dX4_readLines_16 (by decide) (by decide) ?_
  refine lv_aload_n hx hb dX4_readLines_76 rfl (lv_at hl 1 rfl) ?_
  refine x_get E iX4 hP 0 rfl rfl 0 (by decide) wq114 rfl dX4_readLines_77 ?_
  refine lv_iconst (v := 1) hx hb dX4_readLines_80 (by decide) ?_
  refine lv_aload_n hx hb dX4_readLines_81 rfl (lv_at hl 1 rfl) ?_
  refine x_get E iX4 hP 0 rfl rfl 0 (by decide) wq114 rfl dX4_readLines_82 ?_
  refine x_getN E iX8 hP 1 rfl rfl 8 (by decide) qn0 rfl dX4_readLines_85 ?_
  refine x_Vi (rest := []) (ws' := fun _ => [(h0, .inr (4, [.ref h1, v0_1, v0_2, v0_3, v0_4, v0_5])), (h1, .inr (8, [v1_0, v1_1, v1_2, v1_3, v1_4, v1_5, v1_6, .int 1, .int 0, v1_9, .int 1, .int 0]))]) (wr := [(h0, .inr (4, [.ref h1, v0_1, v0_2, v0_3, v0_4, v0_5]))]) E (mX8_refuse l D cyI cyJ Z h1 v1_0 v1_1 v1_2 v1_3 v1_4 v1_5 v1_6 (.int 0) (.int 0) v1_9 v1_11) kX8_refuse wq253 wq254 wq255 ⟨rfl, rfl, Nat.le_of_ble_eq_true rfl, Nat.le_of_ble_eq_true rfl⟩ hP hD hS hA [1] [0] rfl rfl (by decide) (fun _ => rfl) 1 rfl rfl rfl hl.1 rfl (Nat.le_of_ble_eq_true rfl) dX4_readLines_88 ⟨rfl, rfl⟩ ⟨Nat.le_of_ble_eq_true rfl, Nat.le_of_ble_eq_true rfl⟩ (fun _ H locs hP hD hS => ?_)
  refine lv_pop hx hb dX4_readLines_91 rfl ?_
  refine lv_aload_n hx hb dX4_readLines_92 rfl (lv_at hl 1 rfl) ?_
  refine x_get E iX4 hP 0 rfl rfl 0 (by decide) wq114 rfl dX4_readLines_93 ?_
  refine x_getN E iX8 hP 1 rfl rfl 10 (by decide) qn1 rfl dX4_readLines_96 ?_
  refine lv_if_ne (tgt := 124) hx hb dX4_readLines_99 (by decide) (fun c9 => ?_) (fun c9 => absurd c9 (by decide))
  exact x_vret E hr hlk hP hD hS () [0, 1] (by decide) rfl dX4_readLines_124

set_option maxHeartbeats 4000000 in
set_option maxRecDepth 100000 in
theorem mX9_goBack (l : Launch) (D : va_G) (cyI cyJ : ClassId) (Z : xZ) (h0 : Nat) (v0_0 : Value) (v0_1 : Value) (v0_2 : Value) (v0_3 : Value) (v0_4 : Value) (v0_5 : Value) (v0_6 : Value) (v0_7 : Value) (v0_8 : Value) (v0_9 : Value) (v0_10 : Value) (v0_11 : Value) : MetV l yX9_goBack (Cond.code yX9_goBack cX9_goBack 1 none) { frames := 0, cells := 0, slots := 0, locals := 0 } D cyI cyJ Z [.ref h0] [(h0, .inr (9, [v0_0, v0_1, v0_2, v0_3, v0_4, v0_5, v0_6, v0_7, v0_8, v0_9, v0_10, v0_11, .int 0, .int 0, .int 0]))] (fun _ : Unit => ([(h0, .inr (9, [v0_0, v0_1, v0_2, v0_3, v0_4, v0_5, v0_6, v0_7, v0_8, .int 0, .int 0, .int 0, .int 0, .int 0, .int 0]))] : va_W)) 0 0 := by
  refine met_v (by decide) rfl ?_
  intro p e s m below meth c A ls E hr hlk hnm hP hD hA hl
  have hS : va_S A s.heap s.heap [] := va_S.rf
  have hx := E.1.1
  have hb := E.1.2.1
  have hl : lv_has ls 1 [(0, .ref h0)] := hl
  refine lv_aload_n hx hb dX9_goBack_0 rfl (lv_at hl 0 rfl) ?_
  refine lv_aload_n hx hb dX9_goBack_1 rfl (lv_at hl 0 rfl) ?_
  refine x_get E iX9 hP 0 rfl rfl 12 (by decide) wq208 rfl dX9_goBack_2 ?_
  refine x_put (ws' := [(h0, .inr (9, [v0_0, v0_1, v0_2, v0_3, v0_4, v0_5, v0_6, v0_7, v0_8, .int 0, v0_10, v0_11, .int 0, .int 0, .int 0]))]) E iX9 tyX9 tyX9_ok nmX9 hP hD hS 0 rfl rfl 9 (by decide) wq207 rfl rfl rfl rfl rfl dX9_goBack_5 (fun H locs hP hD hS => ?_)
  refine lv_aload_n hx hb dX9_goBack_8 rfl (lv_at hl 0 rfl) ?_
  refine lv_aload_n hx hb dX9_goBack_9 rfl (lv_at hl 0 rfl) ?_
  refine x_get E iX9 hP 0 rfl rfl 13 (by decide) wq210 rfl dX9_goBack_10 ?_
  refine x_put (ws' := [(h0, .inr (9, [v0_0, v0_1, v0_2, v0_3, v0_4, v0_5, v0_6, v0_7, v0_8, .int 0, .int 0, v0_11, .int 0, .int 0, .int 0]))]) E iX9 tyX9 tyX9_ok nmX9 hP hD hS 0 rfl rfl 10 (by decide) wq209 rfl rfl rfl rfl rfl dX9_goBack_13 (fun H locs hP hD hS => ?_)
  refine lv_aload_n hx hb dX9_goBack_16 rfl (lv_at hl 0 rfl) ?_
  refine lv_aload_n hx hb dX9_goBack_17 rfl (lv_at hl 0 rfl) ?_
  refine x_get E iX9 hP 0 rfl rfl 14 (by decide) wq212 rfl dX9_goBack_18 ?_
  refine x_put (ws' := [(h0, .inr (9, [v0_0, v0_1, v0_2, v0_3, v0_4, v0_5, v0_6, v0_7, v0_8, .int 0, .int 0, .int 0, .int 0, .int 0, .int 0]))]) E iX9 tyX9 tyX9_ok nmX9 hP hD hS 0 rfl rfl 11 (by decide) wq211 rfl rfl rfl rfl rfl dX9_goBack_21 (fun H locs hP hD hS => ?_)
  exact x_vret E hr hlk hP hD hS () [0] (by decide) rfl dX9_goBack_24

set_option maxHeartbeats 4000000 in
set_option maxRecDepth 100000 in
theorem mX3_goBack (l : Launch) (D : va_G) (cyI cyJ : ClassId) (Z : xZ) (h0 : Nat) (h1 : Nat) (h2 : Nat) (v0_0 : Value) (v0_1 : Value) (v0_2 : Value) (v0_5 : Value) (v0_6 : Value) (v0_7 : Value) (f1 : Nat → Int32) (f2 : Nat → Int32) : MetV l yX3_goBack (Cond.code yX3_goBack cX3_goBack 1 none) { frames := 1, cells := 0, slots := 0, locals := 40 } D cyI cyJ Z [.ref h0] [(h0, .inr (3, [v0_0, v0_1, v0_2, .ref h2, .ref h1, v0_5, v0_6, v0_7])), (h1, .inl (cyI, 10, .inl f1)), (h2, .inl (cyI, 10, .inl f2))] (fun u : ((Nat → Nat) × (Nat → Nat → Int32)) => ([(h0, .inr (3, [v0_0, v0_1, v0_2, .ref h2, .ref h1, v0_5, v0_6, v0_7])), (h1, .inl (cyI, 10, .inl f1)), (h2, .inl (cyI, 10, .inl (u.2 0)))] : va_W)) 0 0 := by
  refine met_v (by decide) rfl ?_
  intro p e s m below meth c A ls E hr hlk hnm hP hD hA hl
  have hS : va_S A s.heap s.heap [] := va_S.rf
  have hx := E.1.1
  have hb := E.1.2.1
  have hl : lv_has ls 1 [(0, .ref h0)] := hl
  refine lv_aload_n hx hb dX3_goBack_0 rfl (lv_at hl 0 rfl) ?_
  refine x_get E iX3 hP 0 rfl rfl 4 (by decide) wq76 rfl dX3_goBack_1 ?_
  refine lv_iconst (v := 0) hx hb dX3_goBack_4 (by decide) ?_
  refine lv_aload_n hx hb dX3_goBack_5 rfl (lv_at hl 0 rfl) ?_
  refine x_get E iX3 hP 0 rfl rfl 3 (by decide) wq75 rfl dX3_goBack_6 ?_
  refine lv_iconst (v := 0) hx hb dX3_goBack_9 (by decide) ?_
  refine lv_bipush (v := 10) hx hb dX3_goBack_10 (by decide) ?_
  refine x_copy (wg := fun g1 => [(h0, .inr (3, [v0_0, v0_1, v0_2, .ref h2, .ref h1, v0_5, v0_6, v0_7])), (h1, .inl (cyI, 10, .inl f1)), (h2, .inl (cyI, 10, .inl g1))]) E wq216 wq217 wq218 wq219 hP hD hS hl.1 1 2 rfl rfl (by decide) ⟨Nat.le_of_ble_eq_true rfl, Nat.le_of_ble_eq_true rfl⟩ (fun _ => rfl) dX3_goBack_12 (fun g1 H locs hP hD hS => ?_)
  exact x_vret E hr hlk hP hD hS (fun k => [].getD k 0, fun k => [g1].getD k (fun _ => 0)) [0, 1, 2] (by decide) rfl dX3_goBack_15

set_option maxHeartbeats 4000000 in
set_option maxRecDepth 100000 in
theorem mX0_unlink (l : Launch) (D : va_G) (cyI cyJ : ClassId) (Z : xZ) (h0 : Nat) (v0_0 : Value) (v0_1 : Value) (v0_2 : Value) (v0_3 : Value) (v0_4 : Value) (v0_5 : Value) (v0_6 : Value) (v0_7 : Value) (v0_8 : Value) (v0_9 : Value) (v0_10 : Value) (v0_11 : Value) : MetV l yX0_unlink (Cond.code yX0_unlink cX0_unlink 2 none) { frames := 0, cells := 0, slots := 0, locals := 0 } D cyI cyJ Z [.ref h0] [(h0, .inr (0, [v0_0, v0_1, v0_2, v0_3, v0_4, v0_5, v0_6, v0_7, v0_8, v0_9, v0_10, v0_11, .int 3, .int 3]))] (fun _ : Unit => ([(h0, .inr (0, [v0_0, v0_1, v0_2, v0_3, v0_4, v0_5, v0_6, v0_7, v0_8, v0_9, v0_10, v0_11, .int 3, .int 3]))] : va_W)) 0 0 := by
  refine met_v (by decide) rfl ?_
  intro p e s m below meth c A ls E hr hlk hnm hP hD hA hl
  have hS : va_S A s.heap s.heap [] := va_S.rf
  have hx := E.1.1
  have hb := E.1.2.1
  have hl : lv_has ls 2 [(0, .ref h0)] := hl
  refine lv_aload_n hx hb dX0_unlink_0 rfl (lv_at hl 0 rfl) ?_
  refine x_get E iX0 hP 0 rfl rfl 12 (by decide) wq23 rfl dX0_unlink_1 ?_
  refine lv_iconst (v := 1) hx hb dX0_unlink_4 (by decide) ?_
  refine lv_isub hx hb dX0_unlink_5 ?_
  refine x_topi (z := 2) (by decide) ?_
  refine lv_istore_n (lv' := [(1, .int 2), (0, .ref h0)]) hx hb dX0_unlink_6 rfl hl (by decide) rfl (fun ls hl => ?_)
  refine lv_iload_n hx hb dX0_unlink_7 rfl (lv_at hl 0 rfl) ?_
  refine lv_aload_n hx hb dX0_unlink_8 rfl (lv_at hl 1 rfl) ?_
  refine x_get E iX0 hP 0 rfl rfl 13 (by decide) wq33 rfl dX0_unlink_9 ?_
  refine lv_icmp_lt (tgt := 46) hx hb dX0_unlink_12 (by decide) (fun c9 => ?_) (fun c9 => absurd (by decide) c9)
  exact x_vret E hr hlk hP hD hS () [0] (by decide) rfl dX0_unlink_46

set_option maxHeartbeats 4000000 in
set_option maxRecDepth 100000 in
theorem mX0_cut (l : Launch) (D : va_G) (cyI cyJ : ClassId) (Z : xZ) (h0 : Nat) (v0_0 : Value) (v0_1 : Value) (v0_2 : Value) (v0_3 : Value) (v0_4 : Value) (v0_5 : Value) (v0_6 : Value) (v0_7 : Value) (v0_8 : Value) (v0_9 : Value) (v0_10 : Value) (v0_11 : Value) : MetV l yX0_cut (Cond.code yX0_cut cX0_cut 1 none) { frames := 1, cells := 0, slots := 0, locals := 21 } D cyI cyJ Z [.ref h0] [(h0, .inr (0, [v0_0, v0_1, v0_2, v0_3, v0_4, v0_5, v0_6, v0_7, v0_8, v0_9, v0_10, v0_11, .int 3, .int 3]))] (fun _ : Unit => ([(h0, .inr (0, [v0_0, v0_1, v0_2, v0_3, v0_4, v0_5, v0_6, v0_7, v0_8, v0_9, v0_10, v0_11, .int 3, .int 3]))] : va_W)) 0 0 := by
  refine met_v (by decide) rfl ?_
  intro p e s m below meth c A ls E hr hlk hnm hP hD hA hl
  have hS : va_S A s.heap s.heap [] := va_S.rf
  have hx := E.1.1
  have hb := E.1.2.1
  have hl : lv_has ls 1 [(0, .ref h0)] := hl
  refine lv_aload_n hx hb dX0_cut_0 rfl (lv_at hl 0 rfl) ?_
  refine x_Vv (rest := []) (ws' := fun _ => [(h0, .inr (0, [v0_0, v0_1, v0_2, v0_3, v0_4, v0_5, v0_6, v0_7, v0_8, v0_9, v0_10, v0_11, .int 3, .int 3]))]) (wr := []) E (mX0_unlink l D cyI cyJ Z h0 v0_0 v0_1 v0_2 v0_3 v0_4 v0_5 v0_6 v0_7 v0_8 v0_9 v0_10 v0_11) kX0_unlink wq267 wq268 wq269 ⟨rfl, rfl, Nat.le_of_ble_eq_true rfl, Nat.le_of_ble_eq_true rfl⟩ hP hD hS hA [0] [] rfl rfl (by decide) (fun _ => rfl) 0 rfl rfl rfl hl.1 rfl (Nat.le_of_ble_eq_true rfl) dX0_cut_1 ⟨rfl, rfl⟩ ⟨Nat.le_of_ble_eq_true rfl, Nat.le_of_ble_eq_true rfl⟩ (fun _ H locs hP hD hS => ?_)
  refine lv_aload_n hx hb dX0_cut_4 rfl (lv_at hl 0 rfl) ?_
  refine lv_aload_n hx hb dX0_cut_5 rfl (lv_at hl 0 rfl) ?_
  refine x_get E iX0 hP 0 rfl rfl 13 (by decide) wq33 rfl dX0_cut_6 ?_
  refine x_put (ws' := [(h0, .inr (0, [v0_0, v0_1, v0_2, v0_3, v0_4, v0_5, v0_6, v0_7, v0_8, v0_9, v0_10, v0_11, .int 3, .int 3]))]) E iX0 tyX0 tyX0_ok nmX0 hP hD hS 0 rfl rfl 12 (by decide) wq23 rfl rfl rfl rfl rfl dX0_cut_9 (fun H locs hP hD hS => ?_)
  exact x_vret E hr hlk hP hD hS () [0] (by decide) rfl dX0_cut_12

set_option maxHeartbeats 4000000 in
set_option maxRecDepth 100000 in
theorem mX11_takeBack (l : Launch) (D : va_G) (cyI cyJ : ClassId) (Z : xZ) (h0 : Nat) (h1 : Nat) (h2 : Nat) (h3 : Nat) (h4 : Nat) (h5 : Nat) (v0_0 : Value) (v0_1 : Value) (v0_2 : Value) (v0_3 : Value) (v0_4 : Value) (v0_6 : Value) (v0_8 : Value) (v0_10 : Value) (v0_11 : Value) (v0_12 : Value) (v0_13 : Value) (v0_14 : Value) (v0_15 : Value) (v1_0 : Value) (v1_1 : Value) (v1_2 : Value) (v1_3 : Value) (v1_4 : Value) (v1_5 : Value) (v1_6 : Value) (v1_7 : Value) (v1_8 : Value) (v1_9 : Value) (v1_10 : Value) (v1_11 : Value) (v2_0 : Value) (v2_1 : Value) (v2_2 : Value) (v2_5 : Value) (v2_6 : Value) (v2_7 : Value) (f3 : Nat → Int32) (f4 : Nat → Int32) (v5_0 : Value) (v5_1 : Value) (v5_2 : Value) (v5_3 : Value) (v5_4 : Value) (v5_5 : Value) (v5_6 : Value) (v5_7 : Value) (v5_8 : Value) (v5_9 : Value) (v5_10 : Value) (v5_11 : Value) : MetV l yX11_takeBack (Cond.code yX11_takeBack cX11_takeBack 1 none) { frames := 2, cells := 0, slots := 0, locals := 60 } D cyI cyJ Z [.ref h0] [(h0, .inr (11, [v0_0, v0_1, v0_2, v0_3, v0_4, .ref h5, v0_6, .ref h1, v0_8, .ref h2, v0_10, v0_11, v0_12, v0_13, v0_14, v0_15])), (h1, .inr (9, [v1_0, v1_1, v1_2, v1_3, v1_4, v1_5, v1_6, v1_7, v1_8, v1_9, v1_10, v1_11, .int 0, .int 0, .int 0])), (h2, .inr (3, [v2_0, v2_1, v2_2, .ref h4, .ref h3, v2_5, v2_6, v2_7])), (h3, .inl (cyI, 10, .inl f3)), (h4, .inl (cyI, 10, .inl f4)), (h5, .inr (0, [v5_0, v5_1, v5_2, v5_3, v5_4, v5_5, v5_6, v5_7, v5_8, v5_9, v5_10, v5_11, .int 3, .int 3]))] (fun u : ((Nat → Nat) × (Nat → Nat → Int32)) => ([(h0, .inr (11, [v0_0, v0_1, v0_2, v0_3, v0_4, .ref h5, v0_6, .ref h1, v0_8, .ref h2, v0_10, v0_11, v0_12, v0_13, v0_14, v0_15])), (h1, .inr (9, [v1_0, v1_1, v1_2, v1_3, v1_4, v1_5, v1_6, v1_7, v1_8, .int 0, .int 0, .int 0, .int 0, .int 0, .int 0])), (h2, .inr (3, [v2_0, v2_1, v2_2, .ref h4, .ref h3, v2_5, v2_6, v2_7])), (h3, .inl (cyI, 10, .inl f3)), (h4, .inl (cyI, 10, .inl (u.2 0))), (h5, .inr (0, [v5_0, v5_1, v5_2, v5_3, v5_4, v5_5, v5_6, v5_7, v5_8, v5_9, v5_10, v5_11, .int 3, .int 3]))] : va_W)) 0 0 := by
  refine met_v (by decide) rfl ?_
  intro p e s m below meth c A ls E hr hlk hnm hP hD hA hl
  have hS : va_S A s.heap s.heap [] := va_S.rf
  have hx := E.1.1
  have hb := E.1.2.1
  have hl : lv_has ls 1 [(0, .ref h0)] := hl
  refine lv_aload_n hx hb dX11_takeBack_0 rfl (lv_at hl 0 rfl) ?_
  refine x_get E iX11 hP 0 rfl rfl 7 (by decide) wq60 rfl dX11_takeBack_1 ?_
  refine x_Vv (rest := []) (ws' := fun _ => [(h0, .inr (11, [v0_0, v0_1, v0_2, v0_3, v0_4, .ref h5, v0_6, .ref h1, v0_8, .ref h2, v0_10, v0_11, v0_12, v0_13, v0_14, v0_15])), (h2, .inr (3, [v2_0, v2_1, v2_2, .ref h4, .ref h3, v2_5, v2_6, v2_7])), (h3, .inl (cyI, 10, .inl f3)), (h4, .inl (cyI, 10, .inl f4)), (h5, .inr (0, [v5_0, v5_1, v5_2, v5_3, v5_4, v5_5, v5_6, v5_7, v5_8, v5_9, v5_10, v5_11, .int 3, .int 3])), (h1, .inr (9, [v1_0, v1_1, v1_2, v1_3, v1_4, v1_5, v1_6, v1_7, v1_8, .int 0, .int 0, .int 0, .int 0, .int 0, .int 0]))]) (wr := [(h0, .inr (11, [v0_0, v0_1, v0_2, v0_3, v0_4, .ref h5, v0_6, .ref h1, v0_8, .ref h2, v0_10, v0_11, v0_12, v0_13, v0_14, v0_15])), (h2, .inr (3, [v2_0, v2_1, v2_2, .ref h4, .ref h3, v2_5, v2_6, v2_7])), (h3, .inl (cyI, 10, .inl f3)), (h4, .inl (cyI, 10, .inl f4)), (h5, .inr (0, [v5_0, v5_1, v5_2, v5_3, v5_4, v5_5, v5_6, v5_7, v5_8, v5_9, v5_10, v5_11, .int 3, .int 3]))]) E (mX9_goBack l D cyI cyJ Z h1 v1_0 v1_1 v1_2 v1_3 v1_4 v1_5 v1_6 v1_7 v1_8 v1_9 v1_10 v1_11) kX9_goBack wq261 wq262 wq263 ⟨rfl, rfl, Nat.le_of_ble_eq_true rfl, Nat.le_of_ble_eq_true rfl⟩ hP hD hS hA [1] [0, 2, 3, 4, 5] rfl rfl (by decide) (fun _ => rfl) 1 rfl rfl rfl hl.1 rfl (Nat.le_of_ble_eq_true rfl) dX11_takeBack_4 ⟨rfl, rfl⟩ ⟨Nat.le_of_ble_eq_true rfl, Nat.le_of_ble_eq_true rfl⟩ (fun _ H locs hP hD hS => ?_)
  refine lv_aload_n hx hb dX11_takeBack_7 rfl (lv_at hl 0 rfl) ?_
  refine x_get E iX11 hP 0 rfl rfl 9 (by decide) wq83 rfl dX11_takeBack_8 ?_
  refine x_Vv (rest := []) (ws' := fun u1 => [(h0, .inr (11, [v0_0, v0_1, v0_2, v0_3, v0_4, .ref h5, v0_6, .ref h1, v0_8, .ref h2, v0_10, v0_11, v0_12, v0_13, v0_14, v0_15])), (h5, .inr (0, [v5_0, v5_1, v5_2, v5_3, v5_4, v5_5, v5_6, v5_7, v5_8, v5_9, v5_10, v5_11, .int 3, .int 3])), (h1, .inr (9, [v1_0, v1_1, v1_2, v1_3, v1_4, v1_5, v1_6, v1_7, v1_8, .int 0, .int 0, .int 0, .int 0, .int 0, .int 0])), (h2, .inr (3, [v2_0, v2_1, v2_2, .ref h4, .ref h3, v2_5, v2_6, v2_7])), (h3, .inl (cyI, 10, .inl f3)), (h4, .inl (cyI, 10, .inl (u1.2 0)))]) (wr := [(h0, .inr (11, [v0_0, v0_1, v0_2, v0_3, v0_4, .ref h5, v0_6, .ref h1, v0_8, .ref h2, v0_10, v0_11, v0_12, v0_13, v0_14, v0_15])), (h5, .inr (0, [v5_0, v5_1, v5_2, v5_3, v5_4, v5_5, v5_6, v5_7, v5_8, v5_9, v5_10, v5_11, .int 3, .int 3])), (h1, .inr (9, [v1_0, v1_1, v1_2, v1_3, v1_4, v1_5, v1_6, v1_7, v1_8, .int 0, .int 0, .int 0, .int 0, .int 0, .int 0]))]) E (mX3_goBack l D cyI cyJ Z h2 h3 h4 v2_0 v2_1 v2_2 v2_5 v2_6 v2_7 f3 f4) kX3_goBack wq264 wq265 wq266 ⟨rfl, rfl, Nat.le_of_ble_eq_true rfl, Nat.le_of_ble_eq_true rfl⟩ hP hD hS hA [1, 2, 3] [0, 4, 5] rfl rfl (by decide) (fun _ => rfl) 1 rfl rfl rfl hl.1 rfl (Nat.le_of_ble_eq_true rfl) dX11_takeBack_11 ⟨rfl, rfl⟩ ⟨Nat.le_of_ble_eq_true rfl, Nat.le_of_ble_eq_true rfl⟩ (fun u1 H locs hP hD hS => ?_)
  refine lv_aload_n hx hb dX11_takeBack_14 rfl (lv_at hl 0 rfl) ?_
  refine x_get E iX11 hP 0 rfl rfl 5 (by decide) wq36 rfl dX11_takeBack_15 ?_
  refine x_Vv (rest := []) (ws' := fun _ => [(h0, .inr (11, [v0_0, v0_1, v0_2, v0_3, v0_4, .ref h5, v0_6, .ref h1, v0_8, .ref h2, v0_10, v0_11, v0_12, v0_13, v0_14, v0_15])), (h1, .inr (9, [v1_0, v1_1, v1_2, v1_3, v1_4, v1_5, v1_6, v1_7, v1_8, .int 0, .int 0, .int 0, .int 0, .int 0, .int 0])), (h2, .inr (3, [v2_0, v2_1, v2_2, .ref h4, .ref h3, v2_5, v2_6, v2_7])), (h3, .inl (cyI, 10, .inl f3)), (h4, .inl (cyI, 10, .inl (u1.2 0))), (h5, .inr (0, [v5_0, v5_1, v5_2, v5_3, v5_4, v5_5, v5_6, v5_7, v5_8, v5_9, v5_10, v5_11, .int 3, .int 3]))]) (wr := [(h0, .inr (11, [v0_0, v0_1, v0_2, v0_3, v0_4, .ref h5, v0_6, .ref h1, v0_8, .ref h2, v0_10, v0_11, v0_12, v0_13, v0_14, v0_15])), (h1, .inr (9, [v1_0, v1_1, v1_2, v1_3, v1_4, v1_5, v1_6, v1_7, v1_8, .int 0, .int 0, .int 0, .int 0, .int 0, .int 0])), (h2, .inr (3, [v2_0, v2_1, v2_2, .ref h4, .ref h3, v2_5, v2_6, v2_7])), (h3, .inl (cyI, 10, .inl f3)), (h4, .inl (cyI, 10, .inl (u1.2 0)))]) E (mX0_cut l D cyI cyJ Z h5 v5_0 v5_1 v5_2 v5_3 v5_4 v5_5 v5_6 v5_7 v5_8 v5_9 v5_10 v5_11) kX0_cut wq270 wq271 wq272 ⟨rfl, rfl, Nat.le_of_ble_eq_true rfl, Nat.le_of_ble_eq_true rfl⟩ hP hD hS hA [1] [0, 2, 3, 4, 5] rfl rfl (by decide) (fun _ => rfl) 1 rfl rfl rfl hl.1 rfl (Nat.le_of_ble_eq_true rfl) dX11_takeBack_18 ⟨rfl, rfl⟩ ⟨Nat.le_of_ble_eq_true rfl, Nat.le_of_ble_eq_true rfl⟩ (fun _ H locs hP hD hS => ?_)
  exact x_vret E hr hlk hP hD hS (fun k => [].getD k 0, fun k => [(u1.2 0)].getD k (fun _ => 0)) [0, 1, 2, 3, 4, 5] (by decide) rfl dX11_takeBack_21

set_option maxHeartbeats 4000000 in
set_option maxRecDepth 100000 in
theorem mX11_refused (l : Launch) (D : va_G) (cyI cyJ : ClassId) (Z : xZ) (h0 : Nat) (v0_0 : Value) (v0_1 : Value) (v0_2 : Value) (v0_3 : Value) (v0_4 : Value) (v0_5 : Value) (v0_6 : Value) (v0_7 : Value) (v0_8 : Value) (v0_9 : Value) (v0_10 : Value) (v0_11 : Value) (v0_12 : Value) (v0_13 : Value) (v0_14 : Value) (v0_15 : Value) : MetI l yX11_refused (Cond.code yX11_refused cX11_refused 2 (some .int)) { frames := 0, cells := 0, slots := 0, locals := 0 } D cyI cyJ Z [.ref h0, .int 4] [(h0, .inr (11, [v0_0, v0_1, v0_2, v0_3, v0_4, v0_5, v0_6, v0_7, v0_8, v0_9, v0_10, v0_11, v0_12, v0_13, v0_14, v0_15]))] (fun _ : Unit => (-1)) (fun _ : Unit => ([(h0, .inr (11, [v0_0, v0_1, v0_2, v0_3, .int 4, v0_5, v0_6, v0_7, v0_8, v0_9, v0_10, v0_11, v0_12, v0_13, v0_14, v0_15]))] : va_W)) 0 0 := by
  refine met_i (by decide) rfl ?_
  intro p e s m below meth c A ls E hr hlk hP hD hA hl
  have hS : va_S A s.heap s.heap [] := va_S.rf
  have hx := E.1.1
  have hb := E.1.2.1
  have hl : lv_has ls 2 [(0, .ref h0), (1, .int 4)] := hl
  refine lv_aload_n hx hb dX11_refused_0 rfl (lv_at hl 0 rfl) ?_
  refine lv_iload_n hx hb dX11_refused_1 rfl (lv_at hl 1 rfl) ?_
  refine x_put (ws' := [(h0, .inr (11, [v0_0, v0_1, v0_2, v0_3, .int 4, v0_5, v0_6, v0_7, v0_8, v0_9, v0_10, v0_11, v0_12, v0_13, v0_14, v0_15]))]) E iX11 tyX11 tyX11_ok nmX11 hP hD hS 0 rfl rfl 4 (by decide) wq276 rfl rfl rfl rfl rfl dX11_refused_2 (fun H locs hP hD hS => ?_)
  refine lv_iconst (v := (-1)) hx hb dX11_refused_5 (by decide) ?_
  exact x_iret E hr hlk hP hD hS () rfl [0] (by decide) rfl rfl dX11_refused_6

set_option maxHeartbeats 4000000 in
set_option maxRecDepth 100000 in
theorem mX11_wasReadWell (l : Launch) (D : va_G) (cyI cyJ : ClassId) (Z : xZ) (h0 : Nat) (h1 : Nat) (h2 : Nat) (h3 : Nat) (h4 : Nat) (h5 : Nat) (h6 : Nat) (v0_0 : Value) (v0_1 : Value) (v0_2 : Value) (v0_3 : Value) (v0_4 : Value) (v0_6 : Value) (v0_8 : Value) (v0_11 : Value) (v0_12 : Value) (v0_13 : Value) (v0_14 : Value) (v0_15 : Value) (v1_0 : Value) (v1_1 : Value) (v1_2 : Value) (v1_3 : Value) (v1_4 : Value) (v1_5 : Value) (v1_6 : Value) (v1_7 : Value) (v1_8 : Value) (v1_9 : Value) (v2_0 : Value) (v2_1 : Value) (v2_2 : Value) (v2_3 : Value) (v2_4 : Value) (v2_5 : Value) (v2_6 : Value) (v2_7 : Value) (v2_8 : Value) (v2_9 : Value) (v2_10 : Value) (v2_11 : Value) (v3_0 : Value) (v3_1 : Value) (v3_2 : Value) (v3_5 : Value) (v3_6 : Value) (v3_7 : Value) (f4 : Nat → Int32) (f5 : Nat → Int32) (v6_0 : Value) (v6_1 : Value) (v6_2 : Value) (v6_3 : Value) (v6_4 : Value) (v6_5 : Value) (v6_6 : Value) (v6_7 : Value) (v6_8 : Value) (v6_9 : Value) (v6_10 : Value) (v6_11 : Value) : MetI l yX11_wasReadWell (Cond.code yX11_wasReadWell cX11_wasReadWell 1 (some .boolean)) { frames := 3, cells := 0, slots := 0, locals := 80 } D cyI cyJ Z [.ref h0] [(h0, .inr (11, [v0_0, v0_1, v0_2, v0_3, v0_4, .ref h6, v0_6, .ref h2, v0_8, .ref h3, .ref h1, v0_11, v0_12, v0_13, v0_14, v0_15])), (h1, .inr (8, [v1_0, v1_1, v1_2, v1_3, v1_4, v1_5, v1_6, v1_7, v1_8, v1_9, .int 1, .int 0])), (h2, .inr (9, [v2_0, v2_1, v2_2, v2_3, v2_4, v2_5, v2_6, v2_7, v2_8, v2_9, v2_10, v2_11, .int 0, .int 0, .int 0])), (h3, .inr (3, [v3_0, v3_1, v3_2, .ref h5, .ref h4, v3_5, v3_6, v3_7])), (h4, .inl (cyI, 10, .inl f4)), (h5, .inl (cyI, 10, .inl f5)), (h6, .inr (0, [v6_0, v6_1, v6_2, v6_3, v6_4, v6_5, v6_6, v6_7, v6_8, v6_9, v6_10, v6_11, .int 3, .int 3]))] (fun _ : ((Nat → Nat) × (Nat → Nat → Int32)) => 0) (fun u : ((Nat → Nat) × (Nat → Nat → Int32)) => ([(h0, .inr (11, [v0_0, v0_1, .int 1, .int 0, .int 4, .ref h6, v0_6, .ref h2, v0_8, .ref h3, .ref h1, v0_11, v0_12, v0_13, v0_14, v0_15])), (h1, .inr (8, [v1_0, v1_1, v1_2, v1_3, v1_4, v1_5, v1_6, v1_7, v1_8, v1_9, .int 1, .int 0])), (h2, .inr (9, [v2_0, v2_1, v2_2, v2_3, v2_4, v2_5, v2_6, v2_7, v2_8, .int 0, .int 0, .int 0, .int 0, .int 0, .int 0])), (h3, .inr (3, [v3_0, v3_1, v3_2, .ref h5, .ref h4, v3_5, v3_6, v3_7])), (h4, .inl (cyI, 10, .inl f4)), (h5, .inl (cyI, 10, .inl (u.2 0))), (h6, .inr (0, [v6_0, v6_1, v6_2, v6_3, v6_4, v6_5, v6_6, v6_7, v6_8, v6_9, v6_10, v6_11, .int 3, .int 3]))] : va_W)) 0 0 := by
  refine met_i (by decide) rfl ?_
  intro p e s m below meth c A ls E hr hlk hP hD hA hl
  have hS : va_S A s.heap s.heap [] := va_S.rf
  have hx := E.1.1
  have hb := E.1.2.1
  have hl : lv_has ls 1 [(0, .ref h0)] := hl
  refine lv_aload_n hx hb dX11_wasReadWell_0 rfl (lv_at hl 0 rfl) ?_
  refine lv_aload_n hx hb dX11_wasReadWell_1 rfl (lv_at hl 0 rfl) ?_
  refine x_get E iX11 hP 0 rfl rfl 10 (by decide) wq95 rfl dX11_wasReadWell_2 ?_
  refine x_getN E iX8 hP 1 rfl rfl 10 (by decide) qn2 rfl dX11_wasReadWell_5 ?_
  refine x_put (ws' := [(h0, .inr (11, [v0_0, v0_1, .int 1, v0_3, v0_4, .ref h6, v0_6, .ref h2, v0_8, .ref h3, .ref h1, v0_11, v0_12, v0_13, v0_14, v0_15])), (h1, .inr (8, [v1_0, v1_1, v1_2, v1_3, v1_4, v1_5, v1_6, v1_7, v1_8, v1_9, .int 1, .int 0])), (h2, .inr (9, [v2_0, v2_1, v2_2, v2_3, v2_4, v2_5, v2_6, v2_7, v2_8, v2_9, v2_10, v2_11, .int 0, .int 0, .int 0])), (h3, .inr (3, [v3_0, v3_1, v3_2, .ref h5, .ref h4, v3_5, v3_6, v3_7])), (h4, .inl (cyI, 10, .inl f4)), (h5, .inl (cyI, 10, .inl f5)), (h6, .inr (0, [v6_0, v6_1, v6_2, v6_3, v6_4, v6_5, v6_6, v6_7, v6_8, v6_9, v6_10, v6_11, .int 3, .int 3]))]) E iX11 tyX11 tyX11_ok nmX11 hP hD hS 0 rfl rfl 2 (by decide) wq259 rfl rfl rfl rfl rfl dX11_wasReadWell_8 (fun H locs hP hD hS => ?_)
  refine lv_aload_n hx hb dX11_wasReadWell_11 rfl (lv_at hl 0 rfl) ?_
  refine x_get E iX11 hP 0 rfl rfl 2 (by decide) wq259 rfl dX11_wasReadWell_12 ?_
  refine lv_if_ne (tgt := 20) hx hb dX11_wasReadWell_15 (by decide) (fun c9 => ?_) (fun c9 => absurd c9 (by decide))
  refine lv_aload_n hx hb dX11_wasReadWell_20 rfl (lv_at hl 0 rfl) ?_
  refine lv_aload_n hx hb dX11_wasReadWell_21 rfl (lv_at hl 0 rfl) ?_
  refine x_get E iX11 hP 0 rfl rfl 10 (by decide) wq95 rfl dX11_wasReadWell_22 ?_
  refine x_getN E iX8 hP 1 rfl rfl 11 (by decide) qn3 rfl dX11_wasReadWell_25 ?_
  refine x_put (ws' := [(h0, .inr (11, [v0_0, v0_1, .int 1, .int 0, v0_4, .ref h6, v0_6, .ref h2, v0_8, .ref h3, .ref h1, v0_11, v0_12, v0_13, v0_14, v0_15])), (h1, .inr (8, [v1_0, v1_1, v1_2, v1_3, v1_4, v1_5, v1_6, v1_7, v1_8, v1_9, .int 1, .int 0])), (h2, .inr (9, [v2_0, v2_1, v2_2, v2_3, v2_4, v2_5, v2_6, v2_7, v2_8, v2_9, v2_10, v2_11, .int 0, .int 0, .int 0])), (h3, .inr (3, [v3_0, v3_1, v3_2, .ref h5, .ref h4, v3_5, v3_6, v3_7])), (h4, .inl (cyI, 10, .inl f4)), (h5, .inl (cyI, 10, .inl f5)), (h6, .inr (0, [v6_0, v6_1, v6_2, v6_3, v6_4, v6_5, v6_6, v6_7, v6_8, v6_9, v6_10, v6_11, .int 3, .int 3]))]) E iX11 tyX11 tyX11_ok nmX11 hP hD hS 0 rfl rfl 3 (by decide) wq260 rfl rfl rfl rfl rfl dX11_wasReadWell_28 (fun H locs hP hD hS => ?_)
  refine lv_aload_n hx hb dX11_wasReadWell_31 rfl (lv_at hl 0 rfl) ?_
  refine x_Vv (rest := []) (ws' := fun u1 => [(h1, .inr (8, [v1_0, v1_1, v1_2, v1_3, v1_4, v1_5, v1_6, v1_7, v1_8, v1_9, .int 1, .int 0])), (h0, .inr (11, [v0_0, v0_1, .int 1, .int 0, v0_4, .ref h6, v0_6, .ref h2, v0_8, .ref h3, .ref h1, v0_11, v0_12, v0_13, v0_14, v0_15])), (h2, .inr (9, [v2_0, v2_1, v2_2, v2_3, v2_4, v2_5, v2_6, v2_7, v2_8, .int 0, .int 0, .int 0, .int 0, .int 0, .int 0])), (h3, .inr (3, [v3_0, v3_1, v3_2, .ref h5, .ref h4, v3_5, v3_6, v3_7])), (h4, .inl (cyI, 10, .inl f4)), (h5, .inl (cyI, 10, .inl (u1.2 0))), (h6, .inr (0, [v6_0, v6_1, v6_2, v6_3, v6_4, v6_5, v6_6, v6_7, v6_8, v6_9, v6_10, v6_11, .int 3, .int 3]))]) (wr := [(h1, .inr (8, [v1_0, v1_1, v1_2, v1_3, v1_4, v1_5, v1_6, v1_7, v1_8, v1_9, .int 1, .int 0]))]) E (mX11_takeBack l D cyI cyJ Z h0 h2 h3 h4 h5 h6 v0_0 v0_1 (.int 1) (.int 0) v0_4 v0_6 v0_8 (.ref h1) v0_11 v0_12 v0_13 v0_14 v0_15 v2_0 v2_1 v2_2 v2_3 v2_4 v2_5 v2_6 v2_7 v2_8 v2_9 v2_10 v2_11 v3_0 v3_1 v3_2 v3_5 v3_6 v3_7 f4 f5 v6_0 v6_1 v6_2 v6_3 v6_4 v6_5 v6_6 v6_7 v6_8 v6_9 v6_10 v6_11) kX11_takeBack wq273 wq274 wq275 ⟨rfl, rfl, Nat.le_of_ble_eq_true rfl, Nat.le_of_ble_eq_true rfl⟩ hP hD hS hA [0, 2, 3, 4, 5, 6] [1] rfl rfl (by decide) (fun _ => rfl) 0 rfl rfl rfl hl.1 rfl (Nat.le_of_ble_eq_true rfl) dX11_wasReadWell_32 ⟨rfl, rfl⟩ ⟨Nat.le_of_ble_eq_true rfl, Nat.le_of_ble_eq_true rfl⟩ (fun u1 H locs hP hD hS => ?_)
  refine lv_aload_n hx hb dX11_wasReadWell_35 rfl (lv_at hl 0 rfl) ?_
  refine lv_iconst (v := 4) hx hb dX11_wasReadWell_36 (by decide) ?_
  refine x_Vi (rest := []) (ws' := fun _ => [(h1, .inr (8, [v1_0, v1_1, v1_2, v1_3, v1_4, v1_5, v1_6, v1_7, v1_8, v1_9, .int 1, .int 0])), (h2, .inr (9, [v2_0, v2_1, v2_2, v2_3, v2_4, v2_5, v2_6, v2_7, v2_8, .int 0, .int 0, .int 0, .int 0, .int 0, .int 0])), (h3, .inr (3, [v3_0, v3_1, v3_2, .ref h5, .ref h4, v3_5, v3_6, v3_7])), (h4, .inl (cyI, 10, .inl f4)), (h5, .inl (cyI, 10, .inl (u1.2 0))), (h6, .inr (0, [v6_0, v6_1, v6_2, v6_3, v6_4, v6_5, v6_6, v6_7, v6_8, v6_9, v6_10, v6_11, .int 3, .int 3])), (h0, .inr (11, [v0_0, v0_1, .int 1, .int 0, .int 4, .ref h6, v0_6, .ref h2, v0_8, .ref h3, .ref h1, v0_11, v0_12, v0_13, v0_14, v0_15]))]) (wr := [(h1, .inr (8, [v1_0, v1_1, v1_2, v1_3, v1_4, v1_5, v1_6, v1_7, v1_8, v1_9, .int 1, .int 0])), (h2, .inr (9, [v2_0, v2_1, v2_2, v2_3, v2_4, v2_5, v2_6, v2_7, v2_8, .int 0, .int 0, .int 0, .int 0, .int 0, .int 0])), (h3, .inr (3, [v3_0, v3_1, v3_2, .ref h5, .ref h4, v3_5, v3_6, v3_7])), (h4, .inl (cyI, 10, .inl f4)), (h5, .inl (cyI, 10, .inl (u1.2 0))), (h6, .inr (0, [v6_0, v6_1, v6_2, v6_3, v6_4, v6_5, v6_6, v6_7, v6_8, v6_9, v6_10, v6_11, .int 3, .int 3]))]) E (mX11_refused l D cyI cyJ Z h0 v0_0 v0_1 (.int 1) (.int 0) v0_4 (.ref h6) v0_6 (.ref h2) v0_8 (.ref h3) (.ref h1) v0_11 v0_12 v0_13 v0_14 v0_15) kX11_refused wq277 wq278 wq279 ⟨rfl, rfl, Nat.le_of_ble_eq_true rfl, Nat.le_of_ble_eq_true rfl⟩ hP hD hS hA [1] [0, 2, 3, 4, 5, 6] rfl rfl (by decide) (fun _ => rfl) 1 rfl rfl rfl hl.1 rfl (Nat.le_of_ble_eq_true rfl) dX11_wasReadWell_37 ⟨rfl, rfl⟩ ⟨Nat.le_of_ble_eq_true rfl, Nat.le_of_ble_eq_true rfl⟩ (fun _ H locs hP hD hS => ?_)
  refine lv_pop hx hb dX11_wasReadWell_40 rfl ?_
  refine lv_iconst (v := 0) hx hb dX11_wasReadWell_41 (by decide) ?_
  exact x_iret E hr hlk hP hD hS (fun k => [].getD k 0, fun k => [(u1.2 0)].getD k (fun _ => 0)) rfl [6, 0, 1, 2, 3, 4, 5] (by decide) rfl rfl dX11_wasReadWell_42

set_option maxHeartbeats 4000000 in
set_option maxRecDepth 100000 in
theorem mX11_theory (l : Launch) (D : va_G) (cyI cyJ : ClassId) (Z : xZ) (h0 : Nat) (h1 : Nat) (h2 : Nat) (h3 : Nat) (h4 : Nat) (h5 : Nat) (h6 : Nat) (h7 : Nat) (h8 : Nat) (h9 : Nat) (h10 : Nat) (h11 : Nat) (v0_0 : Value) (v0_2 : Value) (v0_3 : Value) (v0_4 : Value) (v0_6 : Value) (v0_8 : Value) (v0_11 : Value) (v0_13 : Value) (v0_14 : Value) (v0_15 : Value) (v1_0 : Value) (v1_1 : Value) (v1_2 : Value) (v1_3 : Value) (v1_4 : Value) (v1_5 : Value) (v1_6 : Value) (v1_7 : Value) (v1_8 : Value) (v1_9 : Value) (v1_10 : Value) (v1_11 : Value) (v1_13 : Value) (v2_0 : Value) (v2_1 : Value) (v2_2 : Value) (v2_3 : Value) (v2_4 : Value) (v2_5 : Value) (v2_6 : Value) (v2_7 : Value) (v2_8 : Value) (v2_12 : Value) (v2_13 : Value) (v2_14 : Value) (v3_0 : Value) (v3_1 : Value) (v3_2 : Value) (v3_5 : Value) (v3_6 : Value) (v3_7 : Value) (f4 : Nat → Int32) (f5 : Nat → Int32) (v6_1 : Value) (v6_5 : Value) (v6_6 : Value) (v6_7 : Value) (v6_8 : Value) (v6_9 : Value) (v6_10 : Value) (v6_11 : Value) (f7 : Nat → Int32) (v11_1 : Value) (v11_2 : Value) (v11_3 : Value) (v11_4 : Value) (v11_5 : Value) : MetI l yX11_theory (Cond.code yX11_theory cX11_theory 2 (some .int)) { frames := 4, cells := 0, slots := 0, locals := 101 } D cyI cyJ Z [.ref h0, .int 0] [(h0, .inr (11, [v0_0, .int 0, v0_2, v0_3, v0_4, .ref h1, v0_6, .ref h2, v0_8, .ref h3, .ref h6, v0_11, .ref h11, v0_13, v0_14, v0_15])), (h1, .inr (0, [v1_0, v1_1, v1_2, v1_3, v1_4, v1_5, v1_6, v1_7, v1_8, v1_9, v1_10, v1_11, .int 3, v1_13])), (h2, .inr (9, [v2_0, v2_1, v2_2, v2_3, v2_4, v2_5, v2_6, v2_7, v2_8, .int 0, .int 0, .int 0, v2_12, v2_13, v2_14])), (h3, .inr (3, [v3_0, v3_1, v3_2, .ref h4, .ref h5, v3_5, v3_6, v3_7])), (h4, .inl (cyI, 10, .inl f4)), (h5, .inl (cyI, 10, .inl f5)), (h6, .inr (8, [.ref h7, v6_1, .ref h8, .ref h9, .ref h10, v6_5, v6_6, v6_7, v6_8, v6_9, v6_10, v6_11])), (h7, .inl (cyI, 400, .inl f7)), (h8, .inl (cyI, 401, .inl (fun _ => 0))), (h9, .inl (cyI, 401, .inl (fun _ => 0))), (h10, .inl (cyI, 401, .inl (fun _ => 0))), (h11, .inr (4, [.ref h6, v11_1, v11_2, v11_3, v11_4, v11_5]))] (fun _ : Unit => (-1)) (fun _ : Unit => ([] : va_W)) 0 0 := by
  refine met_i (by decide) rfl ?_
  intro p e s m below meth c A ls E hr hlk hP hD hA hl
  have hS : va_S A s.heap s.heap [] := va_S.rf
  have hx := E.1.1
  have hb := E.1.2.1
  have hl : lv_has ls 2 [(0, .ref h0), (1, .int 0)] := hl
  refine lv_aload_n hx hb dX11_theory_0 rfl (lv_at hl 0 rfl) ?_
  refine lv_iload_n hx hb dX11_theory_1 rfl (lv_at hl 1 rfl) ?_
  refine x_Vi (rest := []) (ws' := fun u1 => [(h11, .inr (4, [.ref h6, v11_1, v11_2, v11_3, v11_4, v11_5])), (h0, .inr (11, [v0_0, .int 0, v0_2, v0_3, v0_4, .ref h1, v0_6, .ref h2, v0_8, .ref h3, .ref h6, v0_11, .ref h11, v0_13, v0_14, v0_15])), (h1, .inr (0, [v1_0, v1_1, v1_2, v1_3, v1_4, v1_5, v1_6, v1_7, v1_8, v1_9, v1_10, v1_11, .int 3, .int 3])), (h2, .inr (9, [v2_0, v2_1, v2_2, v2_3, v2_4, v2_5, v2_6, v2_7, v2_8, .int 0, .int 0, .int 0, .int 0, .int 0, .int 0])), (h3, .inr (3, [v3_0, v3_1, v3_2, .ref h4, .ref h5, .int 0, v3_6, v3_7])), (h4, .inl (cyI, 10, .inl f4)), (h5, .inl (cyI, 10, .inl (u1.2 0))), (h6, .inr (8, [.ref h7, v6_1, .ref h8, .ref h9, .ref h10, .int 1, .int 0, .int 0, .int 0, .int (-1), .int 0, .int (-1)])), (h7, .inl (cyI, 400, .inl f7)), (h8, .inl (cyI, 401, .inl (upd (fun _ => 0) 0 0))), (h9, .inl (cyI, 401, .inl (upd (fun _ => 0) 0 0))), (h10, .inl (cyI, 401, .inl (upd (fun _ => 0) 0 (-1))))]) (wr := [(h11, .inr (4, [.ref h6, v11_1, v11_2, v11_3, v11_4, v11_5]))]) E (mX11_opens l D cyI cyJ Z h0 h1 h2 h3 h4 h5 h6 h7 h8 h9 h10 v0_0 v0_2 v0_3 v0_4 v0_6 v0_8 v0_11 (.ref h11) v0_13 v0_14 v0_15 v1_0 v1_1 v1_2 v1_3 v1_4 v1_5 v1_6 v1_7 v1_8 v1_9 v1_10 v1_11 v1_13 v2_0 v2_1 v2_2 v2_3 v2_4 v2_5 v2_6 v2_7 v2_8 v2_12 v2_13 v2_14 v3_0 v3_1 v3_2 v3_5 v3_6 v3_7 f4 f5 v6_1 v6_5 v6_6 v6_7 v6_8 v6_9 v6_10 v6_11 f7) kX11_opens wq247 wq248 wq249 ⟨rfl, rfl, Nat.le_of_ble_eq_true rfl, Nat.le_of_ble_eq_true rfl⟩ hP hD hS hA [0, 1, 2, 3, 4, 5, 6, 7, 8, 9, 10] [11] rfl rfl (by decide) (fun _ => rfl) 0 rfl rfl rfl hl.1 rfl (Nat.le_of_ble_eq_true rfl) dX11_theory_2 ⟨rfl, rfl⟩ ⟨Nat.le_of_ble_eq_true rfl, Nat.le_of_ble_eq_true rfl⟩ (fun u1 H locs hP hD hS => ?_)
  refine lv_if_ne (tgt := 14) hx hb dX11_theory_5 (by decide) (fun c9 => ?_) (fun c9 => absurd c9 (by decide))
  refine lv_aload_n hx hb dX11_theory_14 rfl (lv_at hl 0 rfl) ?_
  refine x_get E iX11 hP 1 rfl rfl 12 (by decide) wq122 rfl dX11_theory_15 ?_
  refine x_Vv (rest := []) (ws' := fun _ => [(h0, .inr (11, [v0_0, .int 0, v0_2, v0_3, v0_4, .ref h1, v0_6, .ref h2, v0_8, .ref h3, .ref h6, v0_11, .ref h11, v0_13, v0_14, v0_15])), (h1, .inr (0, [v1_0, v1_1, v1_2, v1_3, v1_4, v1_5, v1_6, v1_7, v1_8, v1_9, v1_10, v1_11, .int 3, .int 3])), (h2, .inr (9, [v2_0, v2_1, v2_2, v2_3, v2_4, v2_5, v2_6, v2_7, v2_8, .int 0, .int 0, .int 0, .int 0, .int 0, .int 0])), (h3, .inr (3, [v3_0, v3_1, v3_2, .ref h4, .ref h5, .int 0, v3_6, v3_7])), (h4, .inl (cyI, 10, .inl f4)), (h5, .inl (cyI, 10, .inl (u1.2 0))), (h7, .inl (cyI, 400, .inl f7)), (h8, .inl (cyI, 401, .inl (upd (fun _ => 0) 0 0))), (h9, .inl (cyI, 401, .inl (upd (fun _ => 0) 0 0))), (h10, .inl (cyI, 401, .inl (upd (fun _ => 0) 0 (-1)))), (h11, .inr (4, [.ref h6, v11_1, v11_2, v11_3, v11_4, v11_5])), (h6, .inr (8, [.ref h7, v6_1, .ref h8, .ref h9, .ref h10, .int 1, .int 0, .int 1, .int 0, .int (-1), .int 1, .int 0]))]) (wr := [(h0, .inr (11, [v0_0, .int 0, v0_2, v0_3, v0_4, .ref h1, v0_6, .ref h2, v0_8, .ref h3, .ref h6, v0_11, .ref h11, v0_13, v0_14, v0_15])), (h1, .inr (0, [v1_0, v1_1, v1_2, v1_3, v1_4, v1_5, v1_6, v1_7, v1_8, v1_9, v1_10, v1_11, .int 3, .int 3])), (h2, .inr (9, [v2_0, v2_1, v2_2, v2_3, v2_4, v2_5, v2_6, v2_7, v2_8, .int 0, .int 0, .int 0, .int 0, .int 0, .int 0])), (h3, .inr (3, [v3_0, v3_1, v3_2, .ref h4, .ref h5, .int 0, v3_6, v3_7])), (h4, .inl (cyI, 10, .inl f4)), (h5, .inl (cyI, 10, .inl (u1.2 0))), (h7, .inl (cyI, 400, .inl f7)), (h8, .inl (cyI, 401, .inl (upd (fun _ => 0) 0 0))), (h9, .inl (cyI, 401, .inl (upd (fun _ => 0) 0 0))), (h10, .inl (cyI, 401, .inl (upd (fun _ => 0) 0 (-1))))]) E (mX4_readLines l D cyI cyJ Z h11 h6 v11_1 v11_2 v11_3 v11_4 v11_5 (.ref h7) v6_1 (.ref h8) (.ref h9) (.ref h10) (.int 1) (.int 0) (.int (-1)) (.int (-1))) kX4_readLines wq256 wq257 wq258 ⟨rfl, rfl, Nat.le_of_ble_eq_true rfl, Nat.le_of_ble_eq_true rfl⟩ hP hD hS hA [0, 7] [1, 2, 3, 4, 5, 6, 8, 9, 10, 11] rfl rfl (by decide) (fun _ => rfl) 0 rfl rfl rfl hl.1 rfl (Nat.le_of_ble_eq_true rfl) dX11_theory_18 ⟨rfl, rfl⟩ ⟨Nat.le_of_ble_eq_true rfl, Nat.le_of_ble_eq_true rfl⟩ (fun _ H locs hP hD hS => ?_)
  refine lv_aload_n hx hb dX11_theory_21 rfl (lv_at hl 0 rfl) ?_
  refine x_Vi (rest := []) (ws' := fun u2 => [(h7, .inl (cyI, 400, .inl f7)), (h8, .inl (cyI, 401, .inl (upd (fun _ => 0) 0 0))), (h9, .inl (cyI, 401, .inl (upd (fun _ => 0) 0 0))), (h10, .inl (cyI, 401, .inl (upd (fun _ => 0) 0 (-1)))), (h11, .inr (4, [.ref h6, v11_1, v11_2, v11_3, v11_4, v11_5])), (h0, .inr (11, [v0_0, .int 0, .int 1, .int 0, .int 4, .ref h1, v0_6, .ref h2, v0_8, .ref h3, .ref h6, v0_11, .ref h11, v0_13, v0_14, v0_15])), (h6, .inr (8, [.ref h7, v6_1, .ref h8, .ref h9, .ref h10, .int 1, .int 0, .int 1, .int 0, .int (-1), .int 1, .int 0])), (h2, .inr (9, [v2_0, v2_1, v2_2, v2_3, v2_4, v2_5, v2_6, v2_7, v2_8, .int 0, .int 0, .int 0, .int 0, .int 0, .int 0])), (h3, .inr (3, [v3_0, v3_1, v3_2, .ref h4, .ref h5, .int 0, v3_6, v3_7])), (h5, .inl (cyI, 10, .inl (u1.2 0))), (h4, .inl (cyI, 10, .inl (u2.2 0))), (h1, .inr (0, [v1_0, v1_1, v1_2, v1_3, v1_4, v1_5, v1_6, v1_7, v1_8, v1_9, v1_10, v1_11, .int 3, .int 3]))]) (wr := [(h7, .inl (cyI, 400, .inl f7)), (h8, .inl (cyI, 401, .inl (upd (fun _ => 0) 0 0))), (h9, .inl (cyI, 401, .inl (upd (fun _ => 0) 0 0))), (h10, .inl (cyI, 401, .inl (upd (fun _ => 0) 0 (-1)))), (h11, .inr (4, [.ref h6, v11_1, v11_2, v11_3, v11_4, v11_5]))]) E (mX11_wasReadWell l D cyI cyJ Z h0 h6 h2 h3 h5 h4 h1 v0_0 (.int 0) v0_2 v0_3 v0_4 v0_6 v0_8 v0_11 (.ref h11) v0_13 v0_14 v0_15 (.ref h7) v6_1 (.ref h8) (.ref h9) (.ref h10) (.int 1) (.int 0) (.int 1) (.int 0) (.int (-1)) v2_0 v2_1 v2_2 v2_3 v2_4 v2_5 v2_6 v2_7 v2_8 (.int 0) (.int 0) (.int 0) v3_0 v3_1 v3_2 (.int 0) v3_6 v3_7 ((u1.2 0)) f4 v1_0 v1_1 v1_2 v1_3 v1_4 v1_5 v1_6 v1_7 v1_8 v1_9 v1_10 v1_11) kX11_wasReadWell wq280 wq281 wq282 ⟨rfl, rfl, Nat.le_of_ble_eq_true rfl, Nat.le_of_ble_eq_true rfl⟩ hP hD hS hA [0, 11, 2, 3, 5, 4, 1] [6, 7, 8, 9, 10] rfl rfl (by decide) (fun _ => rfl) 0 rfl rfl rfl hl.1 rfl (Nat.le_of_ble_eq_true rfl) dX11_theory_22 ⟨rfl, rfl⟩ ⟨Nat.le_of_ble_eq_true rfl, Nat.le_of_ble_eq_true rfl⟩ (fun u2 H locs hP hD hS => ?_)
  refine lv_if_ne (tgt := 30) hx hb dX11_theory_25 (by decide) (fun c9 => absurd (by decide) c9) (fun c9 => ?_)
  refine lv_iconst (v := (-1)) hx hb dX11_theory_28 (by decide) ?_
  exact x_iret E hr hlk hP hD hS () rfl [] (by decide) rfl rfl dX11_theory_29

set_option maxHeartbeats 4000000 in
set_option maxRecDepth 100000 in
theorem mX12_in (l : Launch) (D : va_G) (cyI cyJ : ClassId) (Z : xZ)  : MetI l yX12_in (Cond.code yX12_in cX12_in 3 (some .boolean)) { frames := 0, cells := 0, slots := 0, locals := 0 } D cyI cyJ Z [.int 0, .int 0, .int 0] [] (fun _ : Unit => 1) (fun _ : Unit => ([] : va_W)) 0 0 := by
  refine met_i (by decide) rfl ?_
  intro p e s m below meth c A ls E hr hlk hP hD hA hl
  have hS : va_S A s.heap s.heap [] := va_S.rf
  have hx := E.1.1
  have hb := E.1.2.1
  have hl : lv_has ls 3 [(0, .int 0), (1, .int 0), (2, .int 0)] := hl
  refine lv_iload_n hx hb dX12_in_0 rfl (lv_at hl 0 rfl) ?_
  refine lv_iload_n hx hb dX12_in_1 rfl (lv_at hl 1 rfl) ?_
  refine lv_icmp_lt (tgt := 14) hx hb dX12_in_2 (by decide) (fun c9 => absurd c9 (by decide)) (fun c9 => ?_)
  refine lv_iload_n hx hb dX12_in_5 rfl (lv_at hl 0 rfl) ?_
  refine lv_iload_n hx hb dX12_in_6 rfl (lv_at hl 2 rfl) ?_
  refine lv_icmp_gt (tgt := 14) hx hb dX12_in_7 (by decide) (fun c9 => absurd c9 (by decide)) (fun c9 => ?_)
  refine lv_iconst (v := 1) hx hb dX12_in_10 (by decide) ?_
  refine lv_goto (tgt := 15) hx hb dX12_in_11 (by decide) ?_
  exact x_iret E hr hlk hP hD hS () rfl [] (by decide) rfl rfl dX12_in_15

set_option maxHeartbeats 4000000 in
set_option maxRecDepth 100000 in
theorem mX12_isLong (l : Launch) (D : va_G) (cyI cyJ : ClassId) (Z : xZ) (h0 : Nat) (v0_0 : Value) (v0_1 : Value) (v0_2 : Value) (v0_3 : Value) (v0_5 : Value) (v0_6 : Value) (v0_7 : Value) (v0_8 : Value) (v0_9 : Value) (v0_10 : Value) (v0_11 : Value) (v0_12 : Value) (v0_13 : Value) (v0_14 : Value) (v0_15 : Value) (v0_16 : Value) (v0_17 : Value) (v0_18 : Value) (v0_19 : Value) (v0_20 : Value) (v0_21 : Value) (v0_22 : Value) (v0_23 : Value) (v0_24 : Value) (v0_25 : Value) (v0_26 : Value) (v0_27 : Value) (v0_28 : Value) (v0_29 : Value) (v0_30 : Value) (v0_31 : Value) (v0_32 : Value) (v0_33 : Value) (v0_34 : Value) (v0_35 : Value) (v0_36 : Value) (v0_37 : Value) (v0_38 : Value) (v0_39 : Value) (v0_40 : Value) (v0_41 : Value) (v0_42 : Value) (v0_43 : Value) (v0_44 : Value) (v0_45 : Value) (v0_46 : Value) (v0_47 : Value) (v0_48 : Value) (v0_49 : Value) (v0_50 : Value) (v0_51 : Value) (v0_52 : Value) (v0_53 : Value) (v0_54 : Value) (v0_55 : Value) (v0_56 : Value) (v0_57 : Value) (v0_58 : Value) (v0_59 : Value) (v0_60 : Value) (v0_61 : Value) (v0_62 : Value) (v0_63 : Value) (v0_64 : Value) : MetI l yX12_isLong (Cond.code yX12_isLong cX12_isLong 2 (some .boolean)) { frames := 1, cells := 0, slots := 0, locals := 22 } D cyI cyJ Z [.ref h0, .int 0] [(h0, .inr (12, [v0_0, v0_1, v0_2, v0_3, .int 0, v0_5, v0_6, v0_7, v0_8, v0_9, v0_10, v0_11, v0_12, v0_13, v0_14, v0_15, v0_16, v0_17, v0_18, v0_19, v0_20, v0_21, v0_22, v0_23, v0_24, v0_25, v0_26, v0_27, v0_28, v0_29, v0_30, v0_31, v0_32, v0_33, v0_34, v0_35, v0_36, v0_37, v0_38, v0_39, v0_40, v0_41, v0_42, v0_43, v0_44, v0_45, v0_46, v0_47, v0_48, v0_49, v0_50, v0_51, v0_52, v0_53, v0_54, v0_55, v0_56, v0_57, v0_58, v0_59, v0_60, v0_61, v0_62, v0_63, v0_64]))] (fun _ : Unit => 0) (fun _ : Unit => ([(h0, .inr (12, [v0_0, v0_1, v0_2, v0_3, .int 0, v0_5, v0_6, v0_7, v0_8, v0_9, v0_10, v0_11, v0_12, v0_13, v0_14, v0_15, v0_16, v0_17, v0_18, v0_19, v0_20, v0_21, v0_22, v0_23, v0_24, v0_25, v0_26, v0_27, v0_28, v0_29, v0_30, v0_31, v0_32, v0_33, v0_34, v0_35, v0_36, v0_37, v0_38, v0_39, v0_40, v0_41, v0_42, v0_43, v0_44, v0_45, v0_46, v0_47, v0_48, v0_49, v0_50, v0_51, v0_52, v0_53, v0_54, v0_55, v0_56, v0_57, v0_58, v0_59, v0_60, v0_61, v0_62, v0_63, v0_64]))] : va_W)) 0 0 := by
  refine met_i (by decide) rfl ?_
  intro p e s m below meth c A ls E hr hlk hP hD hA hl
  have hS : va_S A s.heap s.heap [] := va_S.rf
  have hx := E.1.1
  have hb := E.1.2.1
  have hl : lv_has ls 2 [(0, .ref h0), (1, .int 0)] := hl
  refine lv_iload_n hx hb dX12_isLong_0 rfl (lv_at hl 1 rfl) ?_
  refine lv_iconst (v := 0) hx hb dX12_isLong_1 (by decide) ?_
  refine lv_aload_n hx hb dX12_isLong_2 rfl (lv_at hl 0 rfl) ?_
  refine x_get E iX12 hP 0 rfl rfl 4 (by decide) wq203 rfl dX12_isLong_3 ?_
  refine x_Si (rest := []) (ws' := fun _ => [(h0, .inr (12, [v0_0, v0_1, v0_2, v0_3, .int 0, v0_5, v0_6, v0_7, v0_8, v0_9, v0_10, v0_11, v0_12, v0_13, v0_14, v0_15, v0_16, v0_17, v0_18, v0_19, v0_20, v0_21, v0_22, v0_23, v0_24, v0_25, v0_26, v0_27, v0_28, v0_29, v0_30, v0_31, v0_32, v0_33, v0_34, v0_35, v0_36, v0_37, v0_38, v0_39, v0_40, v0_41, v0_42, v0_43, v0_44, v0_45, v0_46, v0_47, v0_48, v0_49, v0_50, v0_51, v0_52, v0_53, v0_54, v0_55, v0_56, v0_57, v0_58, v0_59, v0_60, v0_61, v0_62, v0_63, v0_64]))]) (wr := [(h0, .inr (12, [v0_0, v0_1, v0_2, v0_3, .int 0, v0_5, v0_6, v0_7, v0_8, v0_9, v0_10, v0_11, v0_12, v0_13, v0_14, v0_15, v0_16, v0_17, v0_18, v0_19, v0_20, v0_21, v0_22, v0_23, v0_24, v0_25, v0_26, v0_27, v0_28, v0_29, v0_30, v0_31, v0_32, v0_33, v0_34, v0_35, v0_36, v0_37, v0_38, v0_39, v0_40, v0_41, v0_42, v0_43, v0_44, v0_45, v0_46, v0_47, v0_48, v0_49, v0_50, v0_51, v0_52, v0_53, v0_54, v0_55, v0_56, v0_57, v0_58, v0_59, v0_60, v0_61, v0_62, v0_63, v0_64]))]) E (mX12_in l D cyI cyJ Z ) kX12_in wq283 wq284 ⟨rfl, rfl, Nat.le_of_ble_eq_true rfl, Nat.le_of_ble_eq_true rfl⟩ hP hD hS hA [] [0] rfl rfl (by decide) (fun _ => rfl) hl.1 rfl (Nat.le_of_ble_eq_true rfl) dX12_isLong_6 ⟨rfl, rfl⟩ ⟨Nat.le_of_ble_eq_true rfl, Nat.le_of_ble_eq_true rfl⟩ (fun _ H locs hP hD hS => ?_)
  refine lv_if_ne (tgt := 16) hx hb dX12_isLong_9 (by decide) (fun c9 => ?_) (fun c9 => absurd c9 (by decide))
  refine lv_iconst (v := 0) hx hb dX12_isLong_16 (by decide) ?_
  exact x_iret E hr hlk hP hD hS () rfl [0] (by decide) rfl rfl dX12_isLong_17

set_option maxHeartbeats 4000000 in
set_option maxRecDepth 100000 in
theorem mX12_beginsRules (l : Launch) (D : va_G) (cyI cyJ : ClassId) (Z : xZ) (h0 : Nat) (h1 : Nat) (v0_0 : Value) (v0_1 : Value) (v0_2 : Value) (v0_3 : Value) (v0_4 : Value) (v0_5 : Value) (v0_6 : Value) (v0_7 : Value) (v0_8 : Value) (v0_9 : Value) (v0_10 : Value) (v0_11 : Value) (v0_12 : Value) (v0_13 : Value) (v0_14 : Value) (v0_15 : Value) (v0_16 : Value) (v0_17 : Value) (v0_18 : Value) (v0_19 : Value) (v0_20 : Value) (v0_21 : Value) (v0_22 : Value) (v0_23 : Value) (v0_24 : Value) (v0_25 : Value) (v0_26 : Value) (v0_27 : Value) (v0_28 : Value) (v0_29 : Value) (v0_30 : Value) (v0_31 : Value) (v0_32 : Value) (v0_33 : Value) (v0_34 : Value) (v0_35 : Value) (v0_36 : Value) (v0_37 : Value) (v0_38 : Value) (v0_39 : Value) (v0_40 : Value) (v0_41 : Value) (v0_42 : Value) (v0_43 : Value) (v0_44 : Value) (v0_45 : Value) (v0_46 : Value) (v0_47 : Value) (v0_48 : Value) (v0_50 : Value) (v0_51 : Value) (v0_52 : Value) (v0_53 : Value) (v0_54 : Value) (v0_55 : Value) (v0_56 : Value) (v0_57 : Value) (v0_58 : Value) (v0_59 : Value) (v0_60 : Value) (v0_61 : Value) (v0_62 : Value) (v0_63 : Value) (v0_64 : Value) (f1 : Nat → Int32) : MetV l yX12_beginsRules (Cond.code yX12_beginsRules cX12_beginsRules 2 none) { frames := 0, cells := 0, slots := 0, locals := 0 } D cyI cyJ Z [.ref h0] [(h0, .inr (12, [v0_0, v0_1, v0_2, v0_3, v0_4, v0_5, v0_6, v0_7, v0_8, v0_9, v0_10, v0_11, v0_12, v0_13, v0_14, v0_15, v0_16, v0_17, v0_18, v0_19, v0_20, v0_21, v0_22, v0_23, v0_24, v0_25, v0_26, v0_27, v0_28, v0_29, v0_30, v0_31, v0_32, v0_33, v0_34, v0_35, v0_36, v0_37, v0_38, v0_39, v0_40, v0_41, v0_42, v0_43, v0_44, v0_45, v0_46, v0_47, v0_48, .ref h1, v0_50, v0_51, v0_52, v0_53, v0_54, v0_55, v0_56, v0_57, v0_58, v0_59, v0_60, v0_61, v0_62, v0_63, v0_64])), (h1, .inl (cyI, 10, .inl f1))] (fun u : ((Nat → Nat) × (Nat → Nat → Int32)) => ([(h0, .inr (12, [v0_0, v0_1, v0_2, v0_3, v0_4, v0_5, v0_6, v0_7, v0_8, v0_9, v0_10, v0_11, v0_12, v0_13, v0_14, v0_15, v0_16, v0_17, v0_18, v0_19, v0_20, v0_21, v0_22, v0_23, v0_24, v0_25, v0_26, v0_27, v0_28, .int 0, v0_30, v0_31, v0_32, v0_33, v0_34, v0_35, v0_36, v0_37, v0_38, v0_39, v0_40, .int 60, .int 0, v0_43, v0_44, v0_45, v0_46, v0_47, v0_48, .ref h1, v0_50, .int 0, .int 0, v0_53, v0_54, v0_55, v0_56, v0_57, v0_58, v0_59, v0_60, v0_61, v0_62, v0_63, v0_64])), (h1, .inl (cyI, 10, .inl (u.2 0)))] : va_W)) 0 0 := by
  refine met_v (by decide) rfl ?_
  intro p e s m below meth c A ls E hr hlk hnm hP hD hA hl
  have hS : va_S A s.heap s.heap [] := va_S.rf
  have hx := E.1.1
  have hb := E.1.2.1
  have hl : lv_has ls 2 [(0, .ref h0)] := hl
  refine lv_iconst (v := 0) hx hb dX12_beginsRules_0 (by decide) ?_
  refine lv_istore_n (lv' := [(1, .int 0), (0, .ref h0)]) hx hb dX12_beginsRules_1 rfl hl (by decide) rfl (fun ls hl => ?_)
  refine lv_iload_n hx hb dX12_beginsRules_2 rfl (lv_at hl 0 rfl) ?_
  refine lv_bipush (v := 10) hx hb dX12_beginsRules_3 (by decide) ?_
  refine lv_icmp_ge (tgt := 21) hx hb dX12_beginsRules_5 (by decide) (fun c9 => absurd c9 (by decide)) (fun c9 => ?_)
  refine lv_aload_n hx hb dX12_beginsRules_8 rfl (lv_at hl 1 rfl) ?_
  refine x_get E iX12 hP 0 rfl rfl 49 (by decide) wq192 rfl dX12_beginsRules_9 ?_
  refine lv_iload_n hx hb dX12_beginsRules_12 rfl (lv_at hl 0 rfl) ?_
  refine lv_iconst (v := 0) hx hb dX12_beginsRules_13 (by decide) ?_
  refine x_iastG (wg := fun g1 => [(h0, .inr (12, [v0_0, v0_1, v0_2, v0_3, v0_4, v0_5, v0_6, v0_7, v0_8, v0_9, v0_10, v0_11, v0_12, v0_13, v0_14, v0_15, v0_16, v0_17, v0_18, v0_19, v0_20, v0_21, v0_22, v0_23, v0_24, v0_25, v0_26, v0_27, v0_28, v0_29, v0_30, v0_31, v0_32, v0_33, v0_34, v0_35, v0_36, v0_37, v0_38, v0_39, v0_40, v0_41, v0_42, v0_43, v0_44, v0_45, v0_46, v0_47, v0_48, .ref h1, v0_50, v0_51, v0_52, v0_53, v0_54, v0_55, v0_56, v0_57, v0_58, v0_59, v0_60, v0_61, v0_62, v0_63, v0_64])), (h1, .inl (cyI, 10, .inl g1))]) E hP hD hS 1 rfl (by decide) (fun _ => rfl) dX12_beginsRules_14 (fun g1 H locs hP hD hS => ?_)
  refine lv_iinc (v := 1) (lv' := [(1, .int 1), (0, .ref h0)]) hx hb dX12_beginsRules_15 hl (k := 0) rfl (by decide) (by decide) rfl (fun ls hl => ?_)
  refine lv_goto (tgt := 2) hx hb dX12_beginsRules_18 (by decide) ?_
  refine lv_iload_n hx hb dX12_beginsRules_2 rfl (lv_at hl 0 rfl) ?_
  refine lv_bipush (v := 10) hx hb dX12_beginsRules_3 (by decide) ?_
  refine lv_icmp_ge (tgt := 21) hx hb dX12_beginsRules_5 (by decide) (fun c9 => absurd c9 (by decide)) (fun c9 => ?_)
  refine lv_aload_n hx hb dX12_beginsRules_8 rfl (lv_at hl 1 rfl) ?_
  refine x_get E iX12 hP 0 rfl rfl 49 (by decide) wq192 rfl dX12_beginsRules_9 ?_
  refine lv_iload_n hx hb dX12_beginsRules_12 rfl (lv_at hl 0 rfl) ?_
  refine lv_iconst (v := 0) hx hb dX12_beginsRules_13 (by decide) ?_
  refine x_iastG (wg := fun g2 => [(h0, .inr (12, [v0_0, v0_1, v0_2, v0_3, v0_4, v0_5, v0_6, v0_7, v0_8, v0_9, v0_10, v0_11, v0_12, v0_13, v0_14, v0_15, v0_16, v0_17, v0_18, v0_19, v0_20, v0_21, v0_22, v0_23, v0_24, v0_25, v0_26, v0_27, v0_28, v0_29, v0_30, v0_31, v0_32, v0_33, v0_34, v0_35, v0_36, v0_37, v0_38, v0_39, v0_40, v0_41, v0_42, v0_43, v0_44, v0_45, v0_46, v0_47, v0_48, .ref h1, v0_50, v0_51, v0_52, v0_53, v0_54, v0_55, v0_56, v0_57, v0_58, v0_59, v0_60, v0_61, v0_62, v0_63, v0_64])), (h1, .inl (cyI, 10, .inl g2))]) E hP hD hS 1 rfl (by decide) (fun _ => rfl) dX12_beginsRules_14 (fun g2 H locs hP hD hS => ?_)
  refine lv_iinc (v := 2) (lv' := [(1, .int 2), (0, .ref h0)]) hx hb dX12_beginsRules_15 hl (k := 0) rfl (by decide) (by decide) rfl (fun ls hl => ?_)
  refine lv_goto (tgt := 2) hx hb dX12_beginsRules_18 (by decide) ?_
  refine lv_iload_n hx hb dX12_beginsRules_2 rfl (lv_at hl 0 rfl) ?_
  refine lv_bipush (v := 10) hx hb dX12_beginsRules_3 (by decide) ?_
  refine lv_icmp_ge (tgt := 21) hx hb dX12_beginsRules_5 (by decide) (fun c9 => absurd c9 (by decide)) (fun c9 => ?_)
  refine lv_aload_n hx hb dX12_beginsRules_8 rfl (lv_at hl 1 rfl) ?_
  refine x_get E iX12 hP 0 rfl rfl 49 (by decide) wq192 rfl dX12_beginsRules_9 ?_
  refine lv_iload_n hx hb dX12_beginsRules_12 rfl (lv_at hl 0 rfl) ?_
  refine lv_iconst (v := 0) hx hb dX12_beginsRules_13 (by decide) ?_
  refine x_iastG (wg := fun g3 => [(h0, .inr (12, [v0_0, v0_1, v0_2, v0_3, v0_4, v0_5, v0_6, v0_7, v0_8, v0_9, v0_10, v0_11, v0_12, v0_13, v0_14, v0_15, v0_16, v0_17, v0_18, v0_19, v0_20, v0_21, v0_22, v0_23, v0_24, v0_25, v0_26, v0_27, v0_28, v0_29, v0_30, v0_31, v0_32, v0_33, v0_34, v0_35, v0_36, v0_37, v0_38, v0_39, v0_40, v0_41, v0_42, v0_43, v0_44, v0_45, v0_46, v0_47, v0_48, .ref h1, v0_50, v0_51, v0_52, v0_53, v0_54, v0_55, v0_56, v0_57, v0_58, v0_59, v0_60, v0_61, v0_62, v0_63, v0_64])), (h1, .inl (cyI, 10, .inl g3))]) E hP hD hS 1 rfl (by decide) (fun _ => rfl) dX12_beginsRules_14 (fun g3 H locs hP hD hS => ?_)
  refine lv_iinc (v := 3) (lv' := [(1, .int 3), (0, .ref h0)]) hx hb dX12_beginsRules_15 hl (k := 0) rfl (by decide) (by decide) rfl (fun ls hl => ?_)
  refine lv_goto (tgt := 2) hx hb dX12_beginsRules_18 (by decide) ?_
  refine lv_iload_n hx hb dX12_beginsRules_2 rfl (lv_at hl 0 rfl) ?_
  refine lv_bipush (v := 10) hx hb dX12_beginsRules_3 (by decide) ?_
  refine lv_icmp_ge (tgt := 21) hx hb dX12_beginsRules_5 (by decide) (fun c9 => absurd c9 (by decide)) (fun c9 => ?_)
  refine lv_aload_n hx hb dX12_beginsRules_8 rfl (lv_at hl 1 rfl) ?_
  refine x_get E iX12 hP 0 rfl rfl 49 (by decide) wq192 rfl dX12_beginsRules_9 ?_
  refine lv_iload_n hx hb dX12_beginsRules_12 rfl (lv_at hl 0 rfl) ?_
  refine lv_iconst (v := 0) hx hb dX12_beginsRules_13 (by decide) ?_
  refine x_iastG (wg := fun g4 => [(h0, .inr (12, [v0_0, v0_1, v0_2, v0_3, v0_4, v0_5, v0_6, v0_7, v0_8, v0_9, v0_10, v0_11, v0_12, v0_13, v0_14, v0_15, v0_16, v0_17, v0_18, v0_19, v0_20, v0_21, v0_22, v0_23, v0_24, v0_25, v0_26, v0_27, v0_28, v0_29, v0_30, v0_31, v0_32, v0_33, v0_34, v0_35, v0_36, v0_37, v0_38, v0_39, v0_40, v0_41, v0_42, v0_43, v0_44, v0_45, v0_46, v0_47, v0_48, .ref h1, v0_50, v0_51, v0_52, v0_53, v0_54, v0_55, v0_56, v0_57, v0_58, v0_59, v0_60, v0_61, v0_62, v0_63, v0_64])), (h1, .inl (cyI, 10, .inl g4))]) E hP hD hS 1 rfl (by decide) (fun _ => rfl) dX12_beginsRules_14 (fun g4 H locs hP hD hS => ?_)
  refine lv_iinc (v := 4) (lv' := [(1, .int 4), (0, .ref h0)]) hx hb dX12_beginsRules_15 hl (k := 0) rfl (by decide) (by decide) rfl (fun ls hl => ?_)
  refine lv_goto (tgt := 2) hx hb dX12_beginsRules_18 (by decide) ?_
  refine lv_iload_n hx hb dX12_beginsRules_2 rfl (lv_at hl 0 rfl) ?_
  refine lv_bipush (v := 10) hx hb dX12_beginsRules_3 (by decide) ?_
  refine lv_icmp_ge (tgt := 21) hx hb dX12_beginsRules_5 (by decide) (fun c9 => absurd c9 (by decide)) (fun c9 => ?_)
  refine lv_aload_n hx hb dX12_beginsRules_8 rfl (lv_at hl 1 rfl) ?_
  refine x_get E iX12 hP 0 rfl rfl 49 (by decide) wq192 rfl dX12_beginsRules_9 ?_
  refine lv_iload_n hx hb dX12_beginsRules_12 rfl (lv_at hl 0 rfl) ?_
  refine lv_iconst (v := 0) hx hb dX12_beginsRules_13 (by decide) ?_
  refine x_iastG (wg := fun g5 => [(h0, .inr (12, [v0_0, v0_1, v0_2, v0_3, v0_4, v0_5, v0_6, v0_7, v0_8, v0_9, v0_10, v0_11, v0_12, v0_13, v0_14, v0_15, v0_16, v0_17, v0_18, v0_19, v0_20, v0_21, v0_22, v0_23, v0_24, v0_25, v0_26, v0_27, v0_28, v0_29, v0_30, v0_31, v0_32, v0_33, v0_34, v0_35, v0_36, v0_37, v0_38, v0_39, v0_40, v0_41, v0_42, v0_43, v0_44, v0_45, v0_46, v0_47, v0_48, .ref h1, v0_50, v0_51, v0_52, v0_53, v0_54, v0_55, v0_56, v0_57, v0_58, v0_59, v0_60, v0_61, v0_62, v0_63, v0_64])), (h1, .inl (cyI, 10, .inl g5))]) E hP hD hS 1 rfl (by decide) (fun _ => rfl) dX12_beginsRules_14 (fun g5 H locs hP hD hS => ?_)
  refine lv_iinc (v := 5) (lv' := [(1, .int 5), (0, .ref h0)]) hx hb dX12_beginsRules_15 hl (k := 0) rfl (by decide) (by decide) rfl (fun ls hl => ?_)
  refine lv_goto (tgt := 2) hx hb dX12_beginsRules_18 (by decide) ?_
  refine lv_iload_n hx hb dX12_beginsRules_2 rfl (lv_at hl 0 rfl) ?_
  refine lv_bipush (v := 10) hx hb dX12_beginsRules_3 (by decide) ?_
  refine lv_icmp_ge (tgt := 21) hx hb dX12_beginsRules_5 (by decide) (fun c9 => absurd c9 (by decide)) (fun c9 => ?_)
  refine lv_aload_n hx hb dX12_beginsRules_8 rfl (lv_at hl 1 rfl) ?_
  refine x_get E iX12 hP 0 rfl rfl 49 (by decide) wq192 rfl dX12_beginsRules_9 ?_
  refine lv_iload_n hx hb dX12_beginsRules_12 rfl (lv_at hl 0 rfl) ?_
  refine lv_iconst (v := 0) hx hb dX12_beginsRules_13 (by decide) ?_
  refine x_iastG (wg := fun g6 => [(h0, .inr (12, [v0_0, v0_1, v0_2, v0_3, v0_4, v0_5, v0_6, v0_7, v0_8, v0_9, v0_10, v0_11, v0_12, v0_13, v0_14, v0_15, v0_16, v0_17, v0_18, v0_19, v0_20, v0_21, v0_22, v0_23, v0_24, v0_25, v0_26, v0_27, v0_28, v0_29, v0_30, v0_31, v0_32, v0_33, v0_34, v0_35, v0_36, v0_37, v0_38, v0_39, v0_40, v0_41, v0_42, v0_43, v0_44, v0_45, v0_46, v0_47, v0_48, .ref h1, v0_50, v0_51, v0_52, v0_53, v0_54, v0_55, v0_56, v0_57, v0_58, v0_59, v0_60, v0_61, v0_62, v0_63, v0_64])), (h1, .inl (cyI, 10, .inl g6))]) E hP hD hS 1 rfl (by decide) (fun _ => rfl) dX12_beginsRules_14 (fun g6 H locs hP hD hS => ?_)
  refine lv_iinc (v := 6) (lv' := [(1, .int 6), (0, .ref h0)]) hx hb dX12_beginsRules_15 hl (k := 0) rfl (by decide) (by decide) rfl (fun ls hl => ?_)
  refine lv_goto (tgt := 2) hx hb dX12_beginsRules_18 (by decide) ?_
  refine lv_iload_n hx hb dX12_beginsRules_2 rfl (lv_at hl 0 rfl) ?_
  refine lv_bipush (v := 10) hx hb dX12_beginsRules_3 (by decide) ?_
  refine lv_icmp_ge (tgt := 21) hx hb dX12_beginsRules_5 (by decide) (fun c9 => absurd c9 (by decide)) (fun c9 => ?_)
  refine lv_aload_n hx hb dX12_beginsRules_8 rfl (lv_at hl 1 rfl) ?_
  refine x_get E iX12 hP 0 rfl rfl 49 (by decide) wq192 rfl dX12_beginsRules_9 ?_
  refine lv_iload_n hx hb dX12_beginsRules_12 rfl (lv_at hl 0 rfl) ?_
  refine lv_iconst (v := 0) hx hb dX12_beginsRules_13 (by decide) ?_
  refine x_iastG (wg := fun g7 => [(h0, .inr (12, [v0_0, v0_1, v0_2, v0_3, v0_4, v0_5, v0_6, v0_7, v0_8, v0_9, v0_10, v0_11, v0_12, v0_13, v0_14, v0_15, v0_16, v0_17, v0_18, v0_19, v0_20, v0_21, v0_22, v0_23, v0_24, v0_25, v0_26, v0_27, v0_28, v0_29, v0_30, v0_31, v0_32, v0_33, v0_34, v0_35, v0_36, v0_37, v0_38, v0_39, v0_40, v0_41, v0_42, v0_43, v0_44, v0_45, v0_46, v0_47, v0_48, .ref h1, v0_50, v0_51, v0_52, v0_53, v0_54, v0_55, v0_56, v0_57, v0_58, v0_59, v0_60, v0_61, v0_62, v0_63, v0_64])), (h1, .inl (cyI, 10, .inl g7))]) E hP hD hS 1 rfl (by decide) (fun _ => rfl) dX12_beginsRules_14 (fun g7 H locs hP hD hS => ?_)
  refine lv_iinc (v := 7) (lv' := [(1, .int 7), (0, .ref h0)]) hx hb dX12_beginsRules_15 hl (k := 0) rfl (by decide) (by decide) rfl (fun ls hl => ?_)
  refine lv_goto (tgt := 2) hx hb dX12_beginsRules_18 (by decide) ?_
  refine lv_iload_n hx hb dX12_beginsRules_2 rfl (lv_at hl 0 rfl) ?_
  refine lv_bipush (v := 10) hx hb dX12_beginsRules_3 (by decide) ?_
  refine lv_icmp_ge (tgt := 21) hx hb dX12_beginsRules_5 (by decide) (fun c9 => absurd c9 (by decide)) (fun c9 => ?_)
  refine lv_aload_n hx hb dX12_beginsRules_8 rfl (lv_at hl 1 rfl) ?_
  refine x_get E iX12 hP 0 rfl rfl 49 (by decide) wq192 rfl dX12_beginsRules_9 ?_
  refine lv_iload_n hx hb dX12_beginsRules_12 rfl (lv_at hl 0 rfl) ?_
  refine lv_iconst (v := 0) hx hb dX12_beginsRules_13 (by decide) ?_
  refine x_iastG (wg := fun g8 => [(h0, .inr (12, [v0_0, v0_1, v0_2, v0_3, v0_4, v0_5, v0_6, v0_7, v0_8, v0_9, v0_10, v0_11, v0_12, v0_13, v0_14, v0_15, v0_16, v0_17, v0_18, v0_19, v0_20, v0_21, v0_22, v0_23, v0_24, v0_25, v0_26, v0_27, v0_28, v0_29, v0_30, v0_31, v0_32, v0_33, v0_34, v0_35, v0_36, v0_37, v0_38, v0_39, v0_40, v0_41, v0_42, v0_43, v0_44, v0_45, v0_46, v0_47, v0_48, .ref h1, v0_50, v0_51, v0_52, v0_53, v0_54, v0_55, v0_56, v0_57, v0_58, v0_59, v0_60, v0_61, v0_62, v0_63, v0_64])), (h1, .inl (cyI, 10, .inl g8))]) E hP hD hS 1 rfl (by decide) (fun _ => rfl) dX12_beginsRules_14 (fun g8 H locs hP hD hS => ?_)
  refine lv_iinc (v := 8) (lv' := [(1, .int 8), (0, .ref h0)]) hx hb dX12_beginsRules_15 hl (k := 0) rfl (by decide) (by decide) rfl (fun ls hl => ?_)
  refine lv_goto (tgt := 2) hx hb dX12_beginsRules_18 (by decide) ?_
  refine lv_iload_n hx hb dX12_beginsRules_2 rfl (lv_at hl 0 rfl) ?_
  refine lv_bipush (v := 10) hx hb dX12_beginsRules_3 (by decide) ?_
  refine lv_icmp_ge (tgt := 21) hx hb dX12_beginsRules_5 (by decide) (fun c9 => absurd c9 (by decide)) (fun c9 => ?_)
  refine lv_aload_n hx hb dX12_beginsRules_8 rfl (lv_at hl 1 rfl) ?_
  refine x_get E iX12 hP 0 rfl rfl 49 (by decide) wq192 rfl dX12_beginsRules_9 ?_
  refine lv_iload_n hx hb dX12_beginsRules_12 rfl (lv_at hl 0 rfl) ?_
  refine lv_iconst (v := 0) hx hb dX12_beginsRules_13 (by decide) ?_
  refine x_iastG (wg := fun g9 => [(h0, .inr (12, [v0_0, v0_1, v0_2, v0_3, v0_4, v0_5, v0_6, v0_7, v0_8, v0_9, v0_10, v0_11, v0_12, v0_13, v0_14, v0_15, v0_16, v0_17, v0_18, v0_19, v0_20, v0_21, v0_22, v0_23, v0_24, v0_25, v0_26, v0_27, v0_28, v0_29, v0_30, v0_31, v0_32, v0_33, v0_34, v0_35, v0_36, v0_37, v0_38, v0_39, v0_40, v0_41, v0_42, v0_43, v0_44, v0_45, v0_46, v0_47, v0_48, .ref h1, v0_50, v0_51, v0_52, v0_53, v0_54, v0_55, v0_56, v0_57, v0_58, v0_59, v0_60, v0_61, v0_62, v0_63, v0_64])), (h1, .inl (cyI, 10, .inl g9))]) E hP hD hS 1 rfl (by decide) (fun _ => rfl) dX12_beginsRules_14 (fun g9 H locs hP hD hS => ?_)
  refine lv_iinc (v := 9) (lv' := [(1, .int 9), (0, .ref h0)]) hx hb dX12_beginsRules_15 hl (k := 0) rfl (by decide) (by decide) rfl (fun ls hl => ?_)
  refine lv_goto (tgt := 2) hx hb dX12_beginsRules_18 (by decide) ?_
  refine lv_iload_n hx hb dX12_beginsRules_2 rfl (lv_at hl 0 rfl) ?_
  refine lv_bipush (v := 10) hx hb dX12_beginsRules_3 (by decide) ?_
  refine lv_icmp_ge (tgt := 21) hx hb dX12_beginsRules_5 (by decide) (fun c9 => absurd c9 (by decide)) (fun c9 => ?_)
  refine lv_aload_n hx hb dX12_beginsRules_8 rfl (lv_at hl 1 rfl) ?_
  refine x_get E iX12 hP 0 rfl rfl 49 (by decide) wq192 rfl dX12_beginsRules_9 ?_
  refine lv_iload_n hx hb dX12_beginsRules_12 rfl (lv_at hl 0 rfl) ?_
  refine lv_iconst (v := 0) hx hb dX12_beginsRules_13 (by decide) ?_
  refine x_iastG (wg := fun g10 => [(h0, .inr (12, [v0_0, v0_1, v0_2, v0_3, v0_4, v0_5, v0_6, v0_7, v0_8, v0_9, v0_10, v0_11, v0_12, v0_13, v0_14, v0_15, v0_16, v0_17, v0_18, v0_19, v0_20, v0_21, v0_22, v0_23, v0_24, v0_25, v0_26, v0_27, v0_28, v0_29, v0_30, v0_31, v0_32, v0_33, v0_34, v0_35, v0_36, v0_37, v0_38, v0_39, v0_40, v0_41, v0_42, v0_43, v0_44, v0_45, v0_46, v0_47, v0_48, .ref h1, v0_50, v0_51, v0_52, v0_53, v0_54, v0_55, v0_56, v0_57, v0_58, v0_59, v0_60, v0_61, v0_62, v0_63, v0_64])), (h1, .inl (cyI, 10, .inl g10))]) E hP hD hS 1 rfl (by decide) (fun _ => rfl) dX12_beginsRules_14 (fun g10 H locs hP hD hS => ?_)
  refine lv_iinc (v := 10) (lv' := [(1, .int 10), (0, .ref h0)]) hx hb dX12_beginsRules_15 hl (k := 0) rfl (by decide) (by decide) rfl (fun ls hl => ?_)
  refine lv_goto (tgt := 2) hx hb dX12_beginsRules_18 (by decide) ?_
  refine lv_iload_n hx hb dX12_beginsRules_2 rfl (lv_at hl 0 rfl) ?_
  refine lv_bipush (v := 10) hx hb dX12_beginsRules_3 (by decide) ?_
  refine lv_icmp_ge (tgt := 21) hx hb dX12_beginsRules_5 (by decide) (fun c9 => ?_) (fun c9 => absurd (by decide) c9)
  refine lv_aload_n hx hb dX12_beginsRules_21 rfl (lv_at hl 1 rfl) ?_
  refine lv_iconst (v := 0) hx hb dX12_beginsRules_22 (by decide) ?_
  refine x_put (ws' := [(h0, .inr (12, [v0_0, v0_1, v0_2, v0_3, v0_4, v0_5, v0_6, v0_7, v0_8, v0_9, v0_10, v0_11, v0_12, v0_13, v0_14, v0_15, v0_16, v0_17, v0_18, v0_19, v0_20, v0_21, v0_22, v0_23, v0_24, v0_25, v0_26, v0_27, v0_28, v0_29, v0_30, v0_31, v0_32, v0_33, v0_34, v0_35, v0_36, v0_37, v0_38, v0_39, v0_40, v0_41, v0_42, v0_43, v0_44, v0_45, v0_46, v0_47, v0_48, .ref h1, v0_50, .int 0, v0_52, v0_53, v0_54, v0_55, v0_56, v0_57, v0_58, v0_59, v0_60, v0_61, v0_62, v0_63, v0_64])), (h1, .inl (cyI, 10, .inl g10))]) E iX12 tyX12 tyX12_ok nmX12 hP hD hS 0 rfl rfl 51 (by decide) wq291 rfl rfl rfl rfl rfl dX12_beginsRules_23 (fun H locs hP hD hS => ?_)
  refine lv_aload_n hx hb dX12_beginsRules_26 rfl (lv_at hl 1 rfl) ?_
  refine lv_iconst (v := 0) hx hb dX12_beginsRules_27 (by decide) ?_
  refine x_put (ws' := [(h0, .inr (12, [v0_0, v0_1, v0_2, v0_3, v0_4, v0_5, v0_6, v0_7, v0_8, v0_9, v0_10, v0_11, v0_12, v0_13, v0_14, v0_15, v0_16, v0_17, v0_18, v0_19, v0_20, v0_21, v0_22, v0_23, v0_24, v0_25, v0_26, v0_27, v0_28, v0_29, v0_30, v0_31, v0_32, v0_33, v0_34, v0_35, v0_36, v0_37, v0_38, v0_39, v0_40, v0_41, v0_42, v0_43, v0_44, v0_45, v0_46, v0_47, v0_48, .ref h1, v0_50, .int 0, .int 0, v0_53, v0_54, v0_55, v0_56, v0_57, v0_58, v0_59, v0_60, v0_61, v0_62, v0_63, v0_64])), (h1, .inl (cyI, 10, .inl g10))]) E iX12 tyX12 tyX12_ok nmX12 hP hD hS 0 rfl rfl 52 (by decide) wq292 rfl rfl rfl rfl rfl dX12_beginsRules_28 (fun H locs hP hD hS => ?_)
  refine lv_aload_n hx hb dX12_beginsRules_31 rfl (lv_at hl 1 rfl) ?_
  refine lv_bipush (v := 60) hx hb dX12_beginsRules_32 (by decide) ?_
  refine x_put (ws' := [(h0, .inr (12, [v0_0, v0_1, v0_2, v0_3, v0_4, v0_5, v0_6, v0_7, v0_8, v0_9, v0_10, v0_11, v0_12, v0_13, v0_14, v0_15, v0_16, v0_17, v0_18, v0_19, v0_20, v0_21, v0_22, v0_23, v0_24, v0_25, v0_26, v0_27, v0_28, v0_29, v0_30, v0_31, v0_32, v0_33, v0_34, v0_35, v0_36, v0_37, v0_38, v0_39, v0_40, .int 60, v0_42, v0_43, v0_44, v0_45, v0_46, v0_47, v0_48, .ref h1, v0_50, .int 0, .int 0, v0_53, v0_54, v0_55, v0_56, v0_57, v0_58, v0_59, v0_60, v0_61, v0_62, v0_63, v0_64])), (h1, .inl (cyI, 10, .inl g10))]) E iX12 tyX12 tyX12_ok nmX12 hP hD hS 0 rfl rfl 41 (by decide) wq187 rfl rfl rfl rfl rfl dX12_beginsRules_34 (fun H locs hP hD hS => ?_)
  refine lv_aload_n hx hb dX12_beginsRules_37 rfl (lv_at hl 1 rfl) ?_
  refine lv_iconst (v := 0) hx hb dX12_beginsRules_38 (by decide) ?_
  refine x_put (ws' := [(h0, .inr (12, [v0_0, v0_1, v0_2, v0_3, v0_4, v0_5, v0_6, v0_7, v0_8, v0_9, v0_10, v0_11, v0_12, v0_13, v0_14, v0_15, v0_16, v0_17, v0_18, v0_19, v0_20, v0_21, v0_22, v0_23, v0_24, v0_25, v0_26, v0_27, v0_28, v0_29, v0_30, v0_31, v0_32, v0_33, v0_34, v0_35, v0_36, v0_37, v0_38, v0_39, v0_40, .int 60, .int 0, v0_43, v0_44, v0_45, v0_46, v0_47, v0_48, .ref h1, v0_50, .int 0, .int 0, v0_53, v0_54, v0_55, v0_56, v0_57, v0_58, v0_59, v0_60, v0_61, v0_62, v0_63, v0_64])), (h1, .inl (cyI, 10, .inl g10))]) E iX12 tyX12 tyX12_ok nmX12 hP hD hS 0 rfl rfl 42 (by decide) wq293 rfl rfl rfl rfl rfl dX12_beginsRules_39 (fun H locs hP hD hS => ?_)
  refine lv_aload_n hx hb dX12_beginsRules_42 rfl (lv_at hl 1 rfl) ?_
  refine lv_iconst (v := 0) hx hb dX12_beginsRules_43 (by decide) ?_
  refine x_put (ws' := [(h0, .inr (12, [v0_0, v0_1, v0_2, v0_3, v0_4, v0_5, v0_6, v0_7, v0_8, v0_9, v0_10, v0_11, v0_12, v0_13, v0_14, v0_15, v0_16, v0_17, v0_18, v0_19, v0_20, v0_21, v0_22, v0_23, v0_24, v0_25, v0_26, v0_27, v0_28, .int 0, v0_30, v0_31, v0_32, v0_33, v0_34, v0_35, v0_36, v0_37, v0_38, v0_39, v0_40, .int 60, .int 0, v0_43, v0_44, v0_45, v0_46, v0_47, v0_48, .ref h1, v0_50, .int 0, .int 0, v0_53, v0_54, v0_55, v0_56, v0_57, v0_58, v0_59, v0_60, v0_61, v0_62, v0_63, v0_64])), (h1, .inl (cyI, 10, .inl g10))]) E iX12 tyX12 tyX12_ok nmX12 hP hD hS 0 rfl rfl 29 (by decide) wq294 rfl rfl rfl rfl rfl dX12_beginsRules_44 (fun H locs hP hD hS => ?_)
  exact x_vret E hr hlk hP hD hS (fun k => [].getD k 0, fun k => [g10].getD k (fun _ => 0)) [0, 1] (by decide) rfl dX12_beginsRules_47

set_option maxHeartbeats 4000000 in
set_option maxRecDepth 100000 in
theorem mX12_goOn (l : Launch) (D : va_G) (cyI cyJ : ClassId) (Z : xZ) (h0 : Nat) (v0_0 : Value) (v0_1 : Value) (v0_2 : Value) (v0_3 : Value) (v0_4 : Value) (v0_8 : Value) (v0_9 : Value) (v0_10 : Value) (v0_11 : Value) (v0_12 : Value) (v0_13 : Value) (v0_14 : Value) (v0_15 : Value) (v0_16 : Value) (v0_17 : Value) (v0_18 : Value) (v0_19 : Value) (v0_20 : Value) (v0_21 : Value) (v0_22 : Value) (v0_23 : Value) (v0_24 : Value) (v0_25 : Value) (v0_26 : Value) (v0_27 : Value) (v0_28 : Value) (v0_29 : Value) (v0_30 : Value) (v0_31 : Value) (v0_32 : Value) (v0_33 : Value) (v0_34 : Value) (v0_35 : Value) (v0_36 : Value) (v0_37 : Value) (v0_38 : Value) (v0_39 : Value) (v0_40 : Value) (v0_41 : Value) (v0_42 : Value) (v0_43 : Value) (v0_44 : Value) (v0_45 : Value) (v0_46 : Value) (v0_47 : Value) (v0_48 : Value) (v0_49 : Value) (v0_50 : Value) (v0_51 : Value) (v0_52 : Value) (v0_53 : Value) (v0_54 : Value) (v0_55 : Value) (v0_56 : Value) (v0_57 : Value) (v0_58 : Value) (v0_59 : Value) (v0_60 : Value) (v0_61 : Value) (v0_62 : Value) (v0_63 : Value) (v0_64 : Value) : MetV l yX12_goOn (Cond.code yX12_goOn cX12_goOn 2 none) { frames := 0, cells := 0, slots := 0, locals := 0 } D cyI cyJ Z [.ref h0] [(h0, .inr (12, [v0_0, v0_1, v0_2, v0_3, v0_4, .int 0, .int 0, .int 0, v0_8, v0_9, v0_10, v0_11, v0_12, v0_13, v0_14, v0_15, v0_16, v0_17, v0_18, v0_19, v0_20, v0_21, v0_22, v0_23, v0_24, v0_25, v0_26, v0_27, v0_28, v0_29, v0_30, v0_31, v0_32, v0_33, v0_34, v0_35, v0_36, v0_37, v0_38, v0_39, v0_40, v0_41, v0_42, v0_43, v0_44, v0_45, v0_46, v0_47, v0_48, v0_49, v0_50, v0_51, v0_52, v0_53, v0_54, v0_55, v0_56, v0_57, v0_58, v0_59, v0_60, v0_61, v0_62, v0_63, v0_64]))] (fun _ : Unit => ([(h0, .inr (12, [v0_0, v0_1, v0_2, v0_3, v0_4, .int 0, .int 0, .int 0, v0_8, .int 1, .int 0, v0_11, v0_12, v0_13, v0_14, v0_15, v0_16, v0_17, v0_18, v0_19, v0_20, v0_21, v0_22, v0_23, v0_24, v0_25, v0_26, v0_27, v0_28, v0_29, v0_30, v0_31, v0_32, v0_33, v0_34, v0_35, v0_36, v0_37, v0_38, v0_39, v0_40, v0_41, v0_42, v0_43, v0_44, v0_45, v0_46, v0_47, v0_48, v0_49, v0_50, v0_51, v0_52, v0_53, v0_54, v0_55, v0_56, v0_57, v0_58, v0_59, v0_60, v0_61, v0_62, v0_63, v0_64]))] : va_W)) 0 0 := by
  refine met_v (by decide) rfl ?_
  intro p e s m below meth c A ls E hr hlk hnm hP hD hA hl
  have hS : va_S A s.heap s.heap [] := va_S.rf
  have hx := E.1.1
  have hb := E.1.2.1
  have hl : lv_has ls 2 [(0, .ref h0)] := hl
  refine lv_aload_n hx hb dX12_goOn_0 rfl (lv_at hl 0 rfl) ?_
  refine x_get E iX12 hP 0 rfl rfl 7 (by decide) wq300 rfl dX12_goOn_1 ?_
  refine lv_if_le (tgt := 8) hx hb dX12_goOn_4 (by decide) (fun c9 => ?_) (fun c9 => absurd (by decide) c9)
  refine lv_aload_n hx hb dX12_goOn_8 rfl (lv_at hl 0 rfl) ?_
  refine x_get E iX12 hP 0 rfl rfl 6 (by decide) wq299 rfl dX12_goOn_9 ?_
  refine lv_aload_n hx hb dX12_goOn_12 rfl (lv_at hl 0 rfl) ?_
  refine x_get E iX12 hP 0 rfl rfl 5 (by decide) wq298 rfl dX12_goOn_13 ?_
  refine lv_icmp_ge (tgt := 46) hx hb dX12_goOn_16 (by decide) (fun c9 => ?_) (fun c9 => absurd (by decide) c9)
  refine lv_aload_n hx hb dX12_goOn_46 rfl (lv_at hl 0 rfl) ?_
  refine lv_aload_n hx hb dX12_goOn_47 rfl (lv_at hl 0 rfl) ?_
  refine x_get E iX12 hP 0 rfl rfl 6 (by decide) wq299 rfl dX12_goOn_48 ?_
  refine x_put (ws' := [(h0, .inr (12, [v0_0, v0_1, v0_2, v0_3, v0_4, .int 0, .int 0, .int 0, v0_8, v0_9, .int 0, v0_11, v0_12, v0_13, v0_14, v0_15, v0_16, v0_17, v0_18, v0_19, v0_20, v0_21, v0_22, v0_23, v0_24, v0_25, v0_26, v0_27, v0_28, v0_29, v0_30, v0_31, v0_32, v0_33, v0_34, v0_35, v0_36, v0_37, v0_38, v0_39, v0_40, v0_41, v0_42, v0_43, v0_44, v0_45, v0_46, v0_47, v0_48, v0_49, v0_50, v0_51, v0_52, v0_53, v0_54, v0_55, v0_56, v0_57, v0_58, v0_59, v0_60, v0_61, v0_62, v0_63, v0_64]))]) E iX12 tyX12 tyX12_ok nmX12 hP hD hS 0 rfl rfl 10 (by decide) wq304 rfl rfl rfl rfl rfl dX12_goOn_51 (fun H locs hP hD hS => ?_)
  refine lv_aload_n hx hb dX12_goOn_54 rfl (lv_at hl 0 rfl) ?_
  refine x_get E iX12 hP 0 rfl rfl 6 (by decide) wq299 rfl dX12_goOn_55 ?_
  refine lv_aload_n hx hb dX12_goOn_58 rfl (lv_at hl 0 rfl) ?_
  refine x_get E iX12 hP 0 rfl rfl 5 (by decide) wq298 rfl dX12_goOn_59 ?_
  refine lv_icmp_ne (tgt := 71) hx hb dX12_goOn_62 (by decide) (fun c9 => absurd (by decide) c9) (fun c9 => ?_)
  refine lv_aload_n hx hb dX12_goOn_65 rfl (lv_at hl 0 rfl) ?_
  refine lv_iconst (v := 1) hx hb dX12_goOn_66 (by decide) ?_
  refine x_put (ws' := [(h0, .inr (12, [v0_0, v0_1, v0_2, v0_3, v0_4, .int 0, .int 0, .int 0, v0_8, .int 1, .int 0, v0_11, v0_12, v0_13, v0_14, v0_15, v0_16, v0_17, v0_18, v0_19, v0_20, v0_21, v0_22, v0_23, v0_24, v0_25, v0_26, v0_27, v0_28, v0_29, v0_30, v0_31, v0_32, v0_33, v0_34, v0_35, v0_36, v0_37, v0_38, v0_39, v0_40, v0_41, v0_42, v0_43, v0_44, v0_45, v0_46, v0_47, v0_48, v0_49, v0_50, v0_51, v0_52, v0_53, v0_54, v0_55, v0_56, v0_57, v0_58, v0_59, v0_60, v0_61, v0_62, v0_63, v0_64]))]) E iX12 tyX12 tyX12_ok nmX12 hP hD hS 0 rfl rfl 9 (by decide) wq305 rfl rfl rfl rfl rfl dX12_goOn_67 (fun H locs hP hD hS => ?_)
  exact x_vret E hr hlk hP hD hS () [0] (by decide) rfl dX12_goOn_70

set_option maxHeartbeats 4000000 in
set_option maxRecDepth 100000 in
theorem mX12_begins (l : Launch) (D : va_G) (cyI cyJ : ClassId) (Z : xZ) (h0 : Nat) (v0_0 : Value) (v0_1 : Value) (v0_2 : Value) (v0_3 : Value) (v0_4 : Value) (v0_5 : Value) (v0_6 : Value) (v0_7 : Value) (v0_8 : Value) (v0_9 : Value) (v0_10 : Value) (v0_11 : Value) (v0_12 : Value) (v0_13 : Value) (v0_14 : Value) (v0_15 : Value) (v0_16 : Value) (v0_17 : Value) (v0_18 : Value) (v0_19 : Value) (v0_20 : Value) (v0_21 : Value) (v0_22 : Value) (v0_23 : Value) (v0_24 : Value) (v0_25 : Value) (v0_26 : Value) (v0_27 : Value) (v0_28 : Value) (v0_29 : Value) (v0_30 : Value) (v0_31 : Value) (v0_32 : Value) (v0_33 : Value) (v0_34 : Value) (v0_35 : Value) (v0_36 : Value) (v0_37 : Value) (v0_38 : Value) (v0_39 : Value) (v0_40 : Value) (v0_41 : Value) (v0_42 : Value) (v0_43 : Value) (v0_44 : Value) (v0_45 : Value) (v0_46 : Value) (v0_47 : Value) (v0_48 : Value) (v0_49 : Value) (v0_50 : Value) (v0_51 : Value) (v0_52 : Value) (v0_53 : Value) (v0_54 : Value) (v0_55 : Value) (v0_56 : Value) (v0_57 : Value) (v0_58 : Value) (v0_59 : Value) (v0_60 : Value) (v0_61 : Value) (v0_62 : Value) (v0_63 : Value) (v0_64 : Value) : MetV l yX12_begins (Cond.code yX12_begins cX12_begins 2 none) { frames := 1, cells := 0, slots := 0, locals := 21 } D cyI cyJ Z [.ref h0, .int 0] [(h0, .inr (12, [v0_0, v0_1, v0_2, v0_3, v0_4, v0_5, v0_6, v0_7, v0_8, v0_9, v0_10, v0_11, v0_12, v0_13, v0_14, v0_15, v0_16, v0_17, v0_18, v0_19, v0_20, v0_21, v0_22, v0_23, v0_24, v0_25, v0_26, v0_27, v0_28, v0_29, v0_30, v0_31, v0_32, v0_33, v0_34, v0_35, v0_36, v0_37, v0_38, v0_39, v0_40, v0_41, v0_42, v0_43, v0_44, v0_45, v0_46, v0_47, v0_48, v0_49, v0_50, v0_51, v0_52, v0_53, v0_54, v0_55, v0_56, v0_57, v0_58, v0_59, v0_60, v0_61, v0_62, v0_63, v0_64]))] (fun _ : Unit => ([(h0, .inr (12, [v0_0, v0_1, v0_2, v0_3, .int 0, .int 0, .int 0, .int 0, v0_8, .int 1, .int 0, v0_11, v0_12, .int 0, v0_14, v0_15, v0_16, v0_17, v0_18, v0_19, v0_20, v0_21, v0_22, v0_23, v0_24, v0_25, v0_26, v0_27, v0_28, v0_29, v0_30, v0_31, v0_32, .int 0, .int 0, v0_35, v0_36, v0_37, v0_38, v0_39, v0_40, v0_41, v0_42, v0_43, v0_44, v0_45, v0_46, v0_47, v0_48, v0_49, v0_50, v0_51, v0_52, v0_53, v0_54, v0_55, v0_56, v0_57, v0_58, v0_59, v0_60, v0_61, v0_62, v0_63, v0_64]))] : va_W)) 0 0 := by
  refine met_v (by decide) rfl ?_
  intro p e s m below meth c A ls E hr hlk hnm hP hD hA hl
  have hS : va_S A s.heap s.heap [] := va_S.rf
  have hx := E.1.1
  have hb := E.1.2.1
  have hl : lv_has ls 2 [(0, .ref h0), (1, .int 0)] := hl
  refine lv_aload_n hx hb dX12_begins_0 rfl (lv_at hl 0 rfl) ?_
  refine lv_iload_n hx hb dX12_begins_1 rfl (lv_at hl 1 rfl) ?_
  refine x_put (ws' := [(h0, .inr (12, [v0_0, v0_1, v0_2, v0_3, v0_4, .int 0, v0_6, v0_7, v0_8, v0_9, v0_10, v0_11, v0_12, v0_13, v0_14, v0_15, v0_16, v0_17, v0_18, v0_19, v0_20, v0_21, v0_22, v0_23, v0_24, v0_25, v0_26, v0_27, v0_28, v0_29, v0_30, v0_31, v0_32, v0_33, v0_34, v0_35, v0_36, v0_37, v0_38, v0_39, v0_40, v0_41, v0_42, v0_43, v0_44, v0_45, v0_46, v0_47, v0_48, v0_49, v0_50, v0_51, v0_52, v0_53, v0_54, v0_55, v0_56, v0_57, v0_58, v0_59, v0_60, v0_61, v0_62, v0_63, v0_64]))]) E iX12 tyX12 tyX12_ok nmX12 hP hD hS 0 rfl rfl 5 (by decide) wq298 rfl rfl rfl rfl rfl dX12_begins_2 (fun H locs hP hD hS => ?_)
  refine lv_aload_n hx hb dX12_begins_5 rfl (lv_at hl 0 rfl) ?_
  refine lv_iconst (v := 0) hx hb dX12_begins_6 (by decide) ?_
  refine x_put (ws' := [(h0, .inr (12, [v0_0, v0_1, v0_2, v0_3, .int 0, .int 0, v0_6, v0_7, v0_8, v0_9, v0_10, v0_11, v0_12, v0_13, v0_14, v0_15, v0_16, v0_17, v0_18, v0_19, v0_20, v0_21, v0_22, v0_23, v0_24, v0_25, v0_26, v0_27, v0_28, v0_29, v0_30, v0_31, v0_32, v0_33, v0_34, v0_35, v0_36, v0_37, v0_38, v0_39, v0_40, v0_41, v0_42, v0_43, v0_44, v0_45, v0_46, v0_47, v0_48, v0_49, v0_50, v0_51, v0_52, v0_53, v0_54, v0_55, v0_56, v0_57, v0_58, v0_59, v0_60, v0_61, v0_62, v0_63, v0_64]))]) E iX12 tyX12 tyX12_ok nmX12 hP hD hS 0 rfl rfl 4 (by decide) wq203 rfl rfl rfl rfl rfl dX12_begins_7 (fun H locs hP hD hS => ?_)
  refine lv_aload_n hx hb dX12_begins_10 rfl (lv_at hl 0 rfl) ?_
  refine lv_iconst (v := 0) hx hb dX12_begins_11 (by decide) ?_
  refine x_put (ws' := [(h0, .inr (12, [v0_0, v0_1, v0_2, v0_3, .int 0, .int 0, .int 0, v0_7, v0_8, v0_9, v0_10, v0_11, v0_12, v0_13, v0_14, v0_15, v0_16, v0_17, v0_18, v0_19, v0_20, v0_21, v0_22, v0_23, v0_24, v0_25, v0_26, v0_27, v0_28, v0_29, v0_30, v0_31, v0_32, v0_33, v0_34, v0_35, v0_36, v0_37, v0_38, v0_39, v0_40, v0_41, v0_42, v0_43, v0_44, v0_45, v0_46, v0_47, v0_48, v0_49, v0_50, v0_51, v0_52, v0_53, v0_54, v0_55, v0_56, v0_57, v0_58, v0_59, v0_60, v0_61, v0_62, v0_63, v0_64]))]) E iX12 tyX12 tyX12_ok nmX12 hP hD hS 0 rfl rfl 6 (by decide) wq299 rfl rfl rfl rfl rfl dX12_begins_12 (fun H locs hP hD hS => ?_)
  refine lv_aload_n hx hb dX12_begins_15 rfl (lv_at hl 0 rfl) ?_
  refine lv_iconst (v := 0) hx hb dX12_begins_16 (by decide) ?_
  refine x_put (ws' := [(h0, .inr (12, [v0_0, v0_1, v0_2, v0_3, .int 0, .int 0, .int 0, .int 0, v0_8, v0_9, v0_10, v0_11, v0_12, v0_13, v0_14, v0_15, v0_16, v0_17, v0_18, v0_19, v0_20, v0_21, v0_22, v0_23, v0_24, v0_25, v0_26, v0_27, v0_28, v0_29, v0_30, v0_31, v0_32, v0_33, v0_34, v0_35, v0_36, v0_37, v0_38, v0_39, v0_40, v0_41, v0_42, v0_43, v0_44, v0_45, v0_46, v0_47, v0_48, v0_49, v0_50, v0_51, v0_52, v0_53, v0_54, v0_55, v0_56, v0_57, v0_58, v0_59, v0_60, v0_61, v0_62, v0_63, v0_64]))]) E iX12 tyX12 tyX12_ok nmX12 hP hD hS 0 rfl rfl 7 (by decide) wq300 rfl rfl rfl rfl rfl dX12_begins_17 (fun H locs hP hD hS => ?_)
  refine lv_aload_n hx hb dX12_begins_20 rfl (lv_at hl 0 rfl) ?_
  refine lv_iconst (v := 0) hx hb dX12_begins_21 (by decide) ?_
  refine x_put (ws' := [(h0, .inr (12, [v0_0, v0_1, v0_2, v0_3, .int 0, .int 0, .int 0, .int 0, v0_8, v0_9, v0_10, v0_11, v0_12, .int 0, v0_14, v0_15, v0_16, v0_17, v0_18, v0_19, v0_20, v0_21, v0_22, v0_23, v0_24, v0_25, v0_26, v0_27, v0_28, v0_29, v0_30, v0_31, v0_32, v0_33, v0_34, v0_35, v0_36, v0_37, v0_38, v0_39, v0_40, v0_41, v0_42, v0_43, v0_44, v0_45, v0_46, v0_47, v0_48, v0_49, v0_50, v0_51, v0_52, v0_53, v0_54, v0_55, v0_56, v0_57, v0_58, v0_59, v0_60, v0_61, v0_62, v0_63, v0_64]))]) E iX12 tyX12 tyX12_ok nmX12 hP hD hS 0 rfl rfl 13 (by decide) wq301 rfl rfl rfl rfl rfl dX12_begins_22 (fun H locs hP hD hS => ?_)
  refine lv_aload_n hx hb dX12_begins_25 rfl (lv_at hl 0 rfl) ?_
  refine lv_iconst (v := 0) hx hb dX12_begins_26 (by decide) ?_
  refine x_put (ws' := [(h0, .inr (12, [v0_0, v0_1, v0_2, v0_3, .int 0, .int 0, .int 0, .int 0, v0_8, v0_9, v0_10, v0_11, v0_12, .int 0, v0_14, v0_15, v0_16, v0_17, v0_18, v0_19, v0_20, v0_21, v0_22, v0_23, v0_24, v0_25, v0_26, v0_27, v0_28, v0_29, v0_30, v0_31, v0_32, .int 0, v0_34, v0_35, v0_36, v0_37, v0_38, v0_39, v0_40, v0_41, v0_42, v0_43, v0_44, v0_45, v0_46, v0_47, v0_48, v0_49, v0_50, v0_51, v0_52, v0_53, v0_54, v0_55, v0_56, v0_57, v0_58, v0_59, v0_60, v0_61, v0_62, v0_63, v0_64]))]) E iX12 tyX12 tyX12_ok nmX12 hP hD hS 0 rfl rfl 33 (by decide) wq302 rfl rfl rfl rfl rfl dX12_begins_27 (fun H locs hP hD hS => ?_)
  refine lv_aload_n hx hb dX12_begins_30 rfl (lv_at hl 0 rfl) ?_
  refine lv_iconst (v := 0) hx hb dX12_begins_31 (by decide) ?_
  refine x_put (ws' := [(h0, .inr (12, [v0_0, v0_1, v0_2, v0_3, .int 0, .int 0, .int 0, .int 0, v0_8, v0_9, v0_10, v0_11, v0_12, .int 0, v0_14, v0_15, v0_16, v0_17, v0_18, v0_19, v0_20, v0_21, v0_22, v0_23, v0_24, v0_25, v0_26, v0_27, v0_28, v0_29, v0_30, v0_31, v0_32, .int 0, .int 0, v0_35, v0_36, v0_37, v0_38, v0_39, v0_40, v0_41, v0_42, v0_43, v0_44, v0_45, v0_46, v0_47, v0_48, v0_49, v0_50, v0_51, v0_52, v0_53, v0_54, v0_55, v0_56, v0_57, v0_58, v0_59, v0_60, v0_61, v0_62, v0_63, v0_64]))]) E iX12 tyX12 tyX12_ok nmX12 hP hD hS 0 rfl rfl 34 (by decide) wq303 rfl rfl rfl rfl rfl dX12_begins_32 (fun H locs hP hD hS => ?_)
  refine lv_aload_n hx hb dX12_begins_35 rfl (lv_at hl 0 rfl) ?_
  refine x_Vv (rest := []) (ws' := fun _ => [(h0, .inr (12, [v0_0, v0_1, v0_2, v0_3, .int 0, .int 0, .int 0, .int 0, v0_8, .int 1, .int 0, v0_11, v0_12, .int 0, v0_14, v0_15, v0_16, v0_17, v0_18, v0_19, v0_20, v0_21, v0_22, v0_23, v0_24, v0_25, v0_26, v0_27, v0_28, v0_29, v0_30, v0_31, v0_32, .int 0, .int 0, v0_35, v0_36, v0_37, v0_38, v0_39, v0_40, v0_41, v0_42, v0_43, v0_44, v0_45, v0_46, v0_47, v0_48, v0_49, v0_50, v0_51, v0_52, v0_53, v0_54, v0_55, v0_56, v0_57, v0_58, v0_59, v0_60, v0_61, v0_62, v0_63, v0_64]))]) (wr := []) E (mX12_goOn l D cyI cyJ Z h0 v0_0 v0_1 v0_2 v0_3 (.int 0) v0_8 v0_9 v0_10 v0_11 v0_12 (.int 0) v0_14 v0_15 v0_16 v0_17 v0_18 v0_19 v0_20 v0_21 v0_22 v0_23 v0_24 v0_25 v0_26 v0_27 v0_28 v0_29 v0_30 v0_31 v0_32 (.int 0) (.int 0) v0_35 v0_36 v0_37 v0_38 v0_39 v0_40 v0_41 v0_42 v0_43 v0_44 v0_45 v0_46 v0_47 v0_48 v0_49 v0_50 v0_51 v0_52 v0_53 v0_54 v0_55 v0_56 v0_57 v0_58 v0_59 v0_60 v0_61 v0_62 v0_63 v0_64) kX12_goOn wq306 wq307 wq308 ⟨rfl, rfl, Nat.le_of_ble_eq_true rfl, Nat.le_of_ble_eq_true rfl⟩ hP hD hS hA [0] [] rfl rfl (by decide) (fun _ => rfl) 0 rfl rfl rfl hl.1 rfl (Nat.le_of_ble_eq_true rfl) dX12_begins_36 ⟨rfl, rfl⟩ ⟨Nat.le_of_ble_eq_true rfl, Nat.le_of_ble_eq_true rfl⟩ (fun _ H locs hP hD hS => ?_)
  exact x_vret E hr hlk hP hD hS () [0] (by decide) rfl dX12_begins_39

set_option maxHeartbeats 4000000 in
set_option maxRecDepth 100000 in
theorem mX12_isWord (l : Launch) (D : va_G) (cyI cyJ : ClassId) (Z : xZ) (h0 : Nat) (h1 : Nat) (v0_0 : Value) (v0_1 : Value) (v0_2 : Value) (v0_3 : Value) (v0_4 : Value) (v0_5 : Value) (v0_6 : Value) (v0_8 : Value) (v0_10 : Value) (v0_11 : Value) (v0_12 : Value) (v0_13 : Value) (v0_14 : Value) (v0_15 : Value) (v0_16 : Value) (v0_17 : Value) (v0_18 : Value) (v0_19 : Value) (v0_20 : Value) (v0_21 : Value) (v0_22 : Value) (v0_23 : Value) (v0_24 : Value) (v0_25 : Value) (v0_26 : Value) (v0_27 : Value) (v0_28 : Value) (v0_29 : Value) (v0_30 : Value) (v0_31 : Value) (v0_32 : Value) (v0_33 : Value) (v0_34 : Value) (v0_35 : Value) (v0_36 : Value) (v0_37 : Value) (v0_38 : Value) (v0_39 : Value) (v0_40 : Value) (v0_41 : Value) (v0_42 : Value) (v0_43 : Value) (v0_44 : Value) (v0_45 : Value) (v0_46 : Value) (v0_47 : Value) (v0_48 : Value) (v0_49 : Value) (v0_50 : Value) (v0_51 : Value) (v0_52 : Value) (v0_53 : Value) (v0_54 : Value) (v0_55 : Value) (v0_56 : Value) (v0_57 : Value) (v0_58 : Value) (v0_59 : Value) (v0_60 : Value) (v0_61 : Value) (v0_62 : Value) (v0_63 : Value) (v0_64 : Value) : MetI l yX12_isWord (Cond.code yX12_isWord cX12_isWord 2 (some .boolean)) { frames := 0, cells := 0, slots := 0, locals := 0 } D cyI cyJ Z [.ref h0, .ref h1] [(h0, .inr (12, [v0_0, v0_1, v0_2, v0_3, v0_4, v0_5, v0_6, .int 0, v0_8, .int 1, v0_10, v0_11, v0_12, v0_13, v0_14, v0_15, v0_16, v0_17, v0_18, v0_19, v0_20, v0_21, v0_22, v0_23, v0_24, v0_25, v0_26, v0_27, v0_28, v0_29, v0_30, v0_31, v0_32, v0_33, v0_34, v0_35, v0_36, v0_37, v0_38, v0_39, v0_40, v0_41, v0_42, v0_43, v0_44, v0_45, v0_46, v0_47, v0_48, v0_49, v0_50, v0_51, v0_52, v0_53, v0_54, v0_55, v0_56, v0_57, v0_58, v0_59, v0_60, v0_61, v0_62, v0_63, v0_64]))] (fun _ : Unit => 0) (fun _ : Unit => ([(h0, .inr (12, [v0_0, v0_1, v0_2, v0_3, v0_4, v0_5, v0_6, .int 0, v0_8, .int 1, v0_10, v0_11, v0_12, v0_13, v0_14, v0_15, v0_16, v0_17, v0_18, v0_19, v0_20, v0_21, v0_22, v0_23, v0_24, v0_25, v0_26, v0_27, v0_28, v0_29, v0_30, v0_31, v0_32, v0_33, v0_34, v0_35, v0_36, v0_37, v0_38, v0_39, v0_40, v0_41, v0_42, v0_43, v0_44, v0_45, v0_46, v0_47, v0_48, v0_49, v0_50, v0_51, v0_52, v0_53, v0_54, v0_55, v0_56, v0_57, v0_58, v0_59, v0_60, v0_61, v0_62, v0_63, v0_64]))] : va_W)) 0 0 := by
  refine met_i (by decide) rfl ?_
  intro p e s m below meth c A ls E hr hlk hP hD hA hl
  have hS : va_S A s.heap s.heap [] := va_S.rf
  have hx := E.1.1
  have hb := E.1.2.1
  have hl : lv_has ls 2 [(0, .ref h0), (1, .ref h1)] := hl
  refine lv_aload_n hx hb dX12_isWord_0 rfl (lv_at hl 0 rfl) ?_
  refine x_get E iX12 hP 0 rfl rfl 7 (by decide) wq300 rfl dX12_isWord_1 ?_
  refine lv_if_ne (tgt := 31) hx hb dX12_isWord_4 (by decide) (fun c9 => absurd (by decide) c9) (fun c9 => ?_)
  refine lv_aload_n hx hb dX12_isWord_7 rfl (lv_at hl 0 rfl) ?_
  refine x_get E iX12 hP 0 rfl rfl 9 (by decide) wq305 rfl dX12_isWord_8 ?_
  refine lv_iconst (v := 2) hx hb dX12_isWord_11 (by decide) ?_
  refine lv_icmp_ne (tgt := 31) hx hb dX12_isWord_12 (by decide) (fun c9 => ?_) (fun c9 => absurd c9 (by decide))
  refine lv_iconst (v := 0) hx hb dX12_isWord_31 (by decide) ?_
  exact x_iret E hr hlk hP hD hS () rfl [0] (by decide) rfl rfl dX12_isWord_32

set_option maxHeartbeats 4000000 in
set_option maxRecDepth 100000 in
theorem mX12_flawAt (l : Launch) (D : va_G) (cyI cyJ : ClassId) (Z : xZ) (h0 : Nat) (v0_0 : Value) (v0_1 : Value) (v0_2 : Value) (v0_3 : Value) (v0_4 : Value) (v0_5 : Value) (v0_6 : Value) (v0_8 : Value) (v0_9 : Value) (v0_10 : Value) (v0_11 : Value) (v0_12 : Value) (v0_13 : Value) (v0_14 : Value) (v0_15 : Value) (v0_16 : Value) (v0_17 : Value) (v0_18 : Value) (v0_19 : Value) (v0_20 : Value) (v0_21 : Value) (v0_22 : Value) (v0_23 : Value) (v0_24 : Value) (v0_25 : Value) (v0_26 : Value) (v0_27 : Value) (v0_28 : Value) (v0_29 : Value) (v0_30 : Value) (v0_31 : Value) (v0_32 : Value) (v0_33 : Value) (v0_34 : Value) (v0_35 : Value) (v0_36 : Value) (v0_37 : Value) (v0_38 : Value) (v0_39 : Value) (v0_40 : Value) (v0_41 : Value) (v0_42 : Value) (v0_43 : Value) (v0_44 : Value) (v0_45 : Value) (v0_46 : Value) (v0_47 : Value) (v0_48 : Value) (v0_49 : Value) (v0_50 : Value) (v0_51 : Value) (v0_52 : Value) (v0_53 : Value) (v0_54 : Value) (v0_55 : Value) (v0_56 : Value) (v0_57 : Value) (v0_58 : Value) (v0_59 : Value) (v0_60 : Value) (v0_61 : Value) (v0_62 : Value) (v0_63 : Value) (v0_64 : Value) : MetV l yX12_flawAt (Cond.code yX12_flawAt cX12_flawAt 3 none) { frames := 0, cells := 0, slots := 0, locals := 0 } D cyI cyJ Z [.ref h0, .int 1, .int 0] [(h0, .inr (12, [v0_0, v0_1, v0_2, v0_3, v0_4, v0_5, v0_6, .int 0, v0_8, v0_9, v0_10, v0_11, v0_12, v0_13, v0_14, v0_15, v0_16, v0_17, v0_18, v0_19, v0_20, v0_21, v0_22, v0_23, v0_24, v0_25, v0_26, v0_27, v0_28, v0_29, v0_30, v0_31, v0_32, v0_33, v0_34, v0_35, v0_36, v0_37, v0_38, v0_39, v0_40, v0_41, v0_42, v0_43, v0_44, v0_45, v0_46, v0_47, v0_48, v0_49, v0_50, v0_51, v0_52, v0_53, v0_54, v0_55, v0_56, v0_57, v0_58, v0_59, v0_60, v0_61, v0_62, v0_63, v0_64]))] (fun _ : Unit => ([(h0, .inr (12, [v0_0, v0_1, v0_2, v0_3, v0_4, v0_5, v0_6, .int 1, .int 0, v0_9, v0_10, v0_11, v0_12, v0_13, v0_14, v0_15, v0_16, v0_17, v0_18, v0_19, v0_20, v0_21, v0_22, v0_23, v0_24, v0_25, v0_26, v0_27, v0_28, v0_29, v0_30, v0_31, v0_32, v0_33, v0_34, v0_35, v0_36, v0_37, v0_38, v0_39, v0_40, v0_41, v0_42, v0_43, v0_44, v0_45, v0_46, v0_47, v0_48, v0_49, v0_50, v0_51, v0_52, v0_53, v0_54, v0_55, v0_56, v0_57, v0_58, v0_59, v0_60, v0_61, v0_62, v0_63, v0_64]))] : va_W)) 0 0 := by
  refine met_v (by decide) rfl ?_
  intro p e s m below meth c A ls E hr hlk hnm hP hD hA hl
  have hS : va_S A s.heap s.heap [] := va_S.rf
  have hx := E.1.1
  have hb := E.1.2.1
  have hl : lv_has ls 3 [(0, .ref h0), (1, .int 1), (2, .int 0)] := hl
  refine lv_aload_n hx hb dX12_flawAt_0 rfl (lv_at hl 0 rfl) ?_
  refine x_get E iX12 hP 0 rfl rfl 7 (by decide) wq300 rfl dX12_flawAt_1 ?_
  refine lv_if_le (tgt := 8) hx hb dX12_flawAt_4 (by decide) (fun c9 => ?_) (fun c9 => absurd (by decide) c9)
  refine lv_aload_n hx hb dX12_flawAt_8 rfl (lv_at hl 0 rfl) ?_
  refine lv_iload_n hx hb dX12_flawAt_9 rfl (lv_at hl 1 rfl) ?_
  refine x_put (ws' := [(h0, .inr (12, [v0_0, v0_1, v0_2, v0_3, v0_4, v0_5, v0_6, .int 1, v0_8, v0_9, v0_10, v0_11, v0_12, v0_13, v0_14, v0_15, v0_16, v0_17, v0_18, v0_19, v0_20, v0_21, v0_22, v0_23, v0_24, v0_25, v0_26, v0_27, v0_28, v0_29, v0_30, v0_31, v0_32, v0_33, v0_34, v0_35, v0_36, v0_37, v0_38, v0_39, v0_40, v0_41, v0_42, v0_43, v0_44, v0_45, v0_46, v0_47, v0_48, v0_49, v0_50, v0_51, v0_52, v0_53, v0_54, v0_55, v0_56, v0_57, v0_58, v0_59, v0_60, v0_61, v0_62, v0_63, v0_64]))]) E iX12 tyX12 tyX12_ok nmX12 hP hD hS 0 rfl rfl 7 (by decide) wq300 rfl rfl rfl rfl rfl dX12_flawAt_10 (fun H locs hP hD hS => ?_)
  refine lv_aload_n hx hb dX12_flawAt_13 rfl (lv_at hl 0 rfl) ?_
  refine lv_iload_n hx hb dX12_flawAt_14 rfl (lv_at hl 2 rfl) ?_
  refine x_put (ws' := [(h0, .inr (12, [v0_0, v0_1, v0_2, v0_3, v0_4, v0_5, v0_6, .int 1, .int 0, v0_9, v0_10, v0_11, v0_12, v0_13, v0_14, v0_15, v0_16, v0_17, v0_18, v0_19, v0_20, v0_21, v0_22, v0_23, v0_24, v0_25, v0_26, v0_27, v0_28, v0_29, v0_30, v0_31, v0_32, v0_33, v0_34, v0_35, v0_36, v0_37, v0_38, v0_39, v0_40, v0_41, v0_42, v0_43, v0_44, v0_45, v0_46, v0_47, v0_48, v0_49, v0_50, v0_51, v0_52, v0_53, v0_54, v0_55, v0_56, v0_57, v0_58, v0_59, v0_60, v0_61, v0_62, v0_63, v0_64]))]) E iX12 tyX12 tyX12_ok nmX12 hP hD hS 0 rfl rfl 8 (by decide) wq315 rfl rfl rfl rfl rfl dX12_flawAt_15 (fun H locs hP hD hS => ?_)
  exact x_vret E hr hlk hP hD hS () [0] (by decide) rfl dX12_flawAt_18

set_option maxHeartbeats 4000000 in
set_option maxRecDepth 100000 in
theorem mX12_flaw (l : Launch) (D : va_G) (cyI cyJ : ClassId) (Z : xZ) (h0 : Nat) (v0_0 : Value) (v0_1 : Value) (v0_2 : Value) (v0_3 : Value) (v0_4 : Value) (v0_5 : Value) (v0_6 : Value) (v0_8 : Value) (v0_9 : Value) (v0_11 : Value) (v0_12 : Value) (v0_13 : Value) (v0_14 : Value) (v0_15 : Value) (v0_16 : Value) (v0_17 : Value) (v0_18 : Value) (v0_19 : Value) (v0_20 : Value) (v0_21 : Value) (v0_22 : Value) (v0_23 : Value) (v0_24 : Value) (v0_25 : Value) (v0_26 : Value) (v0_27 : Value) (v0_28 : Value) (v0_29 : Value) (v0_30 : Value) (v0_31 : Value) (v0_32 : Value) (v0_33 : Value) (v0_34 : Value) (v0_35 : Value) (v0_36 : Value) (v0_37 : Value) (v0_38 : Value) (v0_39 : Value) (v0_40 : Value) (v0_41 : Value) (v0_42 : Value) (v0_43 : Value) (v0_44 : Value) (v0_45 : Value) (v0_46 : Value) (v0_47 : Value) (v0_48 : Value) (v0_49 : Value) (v0_50 : Value) (v0_51 : Value) (v0_52 : Value) (v0_53 : Value) (v0_54 : Value) (v0_55 : Value) (v0_56 : Value) (v0_57 : Value) (v0_58 : Value) (v0_59 : Value) (v0_60 : Value) (v0_61 : Value) (v0_62 : Value) (v0_63 : Value) (v0_64 : Value) : MetV l yX12_flaw (Cond.code yX12_flaw cX12_flaw 2 none) { frames := 1, cells := 0, slots := 0, locals := 22 } D cyI cyJ Z [.ref h0, .int 1] [(h0, .inr (12, [v0_0, v0_1, v0_2, v0_3, v0_4, v0_5, v0_6, .int 0, v0_8, v0_9, .int 0, v0_11, v0_12, v0_13, v0_14, v0_15, v0_16, v0_17, v0_18, v0_19, v0_20, v0_21, v0_22, v0_23, v0_24, v0_25, v0_26, v0_27, v0_28, v0_29, v0_30, v0_31, v0_32, v0_33, v0_34, v0_35, v0_36, v0_37, v0_38, v0_39, v0_40, v0_41, v0_42, v0_43, v0_44, v0_45, v0_46, v0_47, v0_48, v0_49, v0_50, v0_51, v0_52, v0_53, v0_54, v0_55, v0_56, v0_57, v0_58, v0_59, v0_60, v0_61, v0_62, v0_63, v0_64]))] (fun _ : Unit => ([(h0, .inr (12, [v0_0, v0_1, v0_2, v0_3, v0_4, v0_5, v0_6, .int 1, .int 0, v0_9, .int 0, v0_11, v0_12, v0_13, v0_14, v0_15, v0_16, v0_17, v0_18, v0_19, v0_20, v0_21, v0_22, v0_23, v0_24, v0_25, v0_26, v0_27, v0_28, v0_29, v0_30, v0_31, v0_32, v0_33, v0_34, v0_35, v0_36, v0_37, v0_38, v0_39, v0_40, v0_41, v0_42, v0_43, v0_44, v0_45, v0_46, v0_47, v0_48, v0_49, v0_50, v0_51, v0_52, v0_53, v0_54, v0_55, v0_56, v0_57, v0_58, v0_59, v0_60, v0_61, v0_62, v0_63, v0_64]))] : va_W)) 0 0 := by
  refine met_v (by decide) rfl ?_
  intro p e s m below meth c A ls E hr hlk hnm hP hD hA hl
  have hS : va_S A s.heap s.heap [] := va_S.rf
  have hx := E.1.1
  have hb := E.1.2.1
  have hl : lv_has ls 2 [(0, .ref h0), (1, .int 1)] := hl
  refine lv_aload_n hx hb dX12_flaw_0 rfl (lv_at hl 0 rfl) ?_
  refine lv_iload_n hx hb dX12_flaw_1 rfl (lv_at hl 1 rfl) ?_
  refine lv_aload_n hx hb dX12_flaw_2 rfl (lv_at hl 0 rfl) ?_
  refine x_get E iX12 hP 0 rfl rfl 10 (by decide) wq304 rfl dX12_flaw_3 ?_
  refine x_Vv (rest := []) (ws' := fun _ => [(h0, .inr (12, [v0_0, v0_1, v0_2, v0_3, v0_4, v0_5, v0_6, .int 1, .int 0, v0_9, .int 0, v0_11, v0_12, v0_13, v0_14, v0_15, v0_16, v0_17, v0_18, v0_19, v0_20, v0_21, v0_22, v0_23, v0_24, v0_25, v0_26, v0_27, v0_28, v0_29, v0_30, v0_31, v0_32, v0_33, v0_34, v0_35, v0_36, v0_37, v0_38, v0_39, v0_40, v0_41, v0_42, v0_43, v0_44, v0_45, v0_46, v0_47, v0_48, v0_49, v0_50, v0_51, v0_52, v0_53, v0_54, v0_55, v0_56, v0_57, v0_58, v0_59, v0_60, v0_61, v0_62, v0_63, v0_64]))]) (wr := []) E (mX12_flawAt l D cyI cyJ Z h0 v0_0 v0_1 v0_2 v0_3 v0_4 v0_5 v0_6 v0_8 v0_9 (.int 0) v0_11 v0_12 v0_13 v0_14 v0_15 v0_16 v0_17 v0_18 v0_19 v0_20 v0_21 v0_22 v0_23 v0_24 v0_25 v0_26 v0_27 v0_28 v0_29 v0_30 v0_31 v0_32 v0_33 v0_34 v0_35 v0_36 v0_37 v0_38 v0_39 v0_40 v0_41 v0_42 v0_43 v0_44 v0_45 v0_46 v0_47 v0_48 v0_49 v0_50 v0_51 v0_52 v0_53 v0_54 v0_55 v0_56 v0_57 v0_58 v0_59 v0_60 v0_61 v0_62 v0_63 v0_64) kX12_flawAt wq316 wq317 wq318 ⟨rfl, rfl, Nat.le_of_ble_eq_true rfl, Nat.le_of_ble_eq_true rfl⟩ hP hD hS hA [0] [] rfl rfl (by decide) (fun _ => rfl) 0 rfl rfl rfl hl.1 rfl (Nat.le_of_ble_eq_true rfl) dX12_flaw_6 ⟨rfl, rfl⟩ ⟨Nat.le_of_ble_eq_true rfl, Nat.le_of_ble_eq_true rfl⟩ (fun _ H locs hP hD hS => ?_)
  exact x_vret E hr hlk hP hD hS () [0] (by decide) rfl dX12_flaw_9

set_option maxHeartbeats 4000000 in
set_option maxRecDepth 100000 in
theorem mX12_readLine (l : Launch) (D : va_G) (cyI cyJ : ClassId) (Z : xZ) (h0 : Nat) (v0_0 : Value) (v0_1 : Value) (v0_2 : Value) (v0_3 : Value) (v0_4 : Value) (v0_5 : Value) (v0_6 : Value) (v0_8 : Value) (v0_11 : Value) (v0_12 : Value) (v0_13 : Value) (v0_14 : Value) (v0_15 : Value) (v0_16 : Value) (v0_17 : Value) (v0_18 : Value) (v0_19 : Value) (v0_20 : Value) (v0_21 : Value) (v0_22 : Value) (v0_23 : Value) (v0_24 : Value) (v0_25 : Value) (v0_26 : Value) (v0_27 : Value) (v0_28 : Value) (v0_29 : Value) (v0_30 : Value) (v0_31 : Value) (v0_32 : Value) (v0_33 : Value) (v0_34 : Value) (v0_35 : Value) (v0_36 : Value) (v0_37 : Value) (v0_38 : Value) (v0_39 : Value) (v0_40 : Value) (v0_41 : Value) (v0_42 : Value) (v0_43 : Value) (v0_44 : Value) (v0_45 : Value) (v0_46 : Value) (v0_47 : Value) (v0_48 : Value) (v0_49 : Value) (v0_50 : Value) (v0_51 : Value) (v0_52 : Value) (v0_53 : Value) (v0_54 : Value) (v0_55 : Value) (v0_56 : Value) (v0_57 : Value) (v0_58 : Value) (v0_59 : Value) (v0_60 : Value) (v0_61 : Value) (v0_62 : Value) (v0_63 : Value) (v0_64 : Value) : MetV l yX12_readLine (Cond.code yX12_readLine cX12_readLine 1 none) { frames := 2, cells := 0, slots := 0, locals := 43 } D cyI cyJ Z [.ref h0] [(h0, .inr (12, [v0_0, v0_1, v0_2, v0_3, v0_4, v0_5, v0_6, .int 0, v0_8, .int 1, .int 0, v0_11, v0_12, v0_13, v0_14, v0_15, v0_16, v0_17, v0_18, v0_19, v0_20, v0_21, v0_22, v0_23, v0_24, v0_25, v0_26, v0_27, v0_28, v0_29, v0_30, v0_31, v0_32, v0_33, v0_34, v0_35, v0_36, v0_37, v0_38, v0_39, v0_40, v0_41, v0_42, v0_43, v0_44, v0_45, v0_46, v0_47, v0_48, v0_49, v0_50, v0_51, v0_52, v0_53, v0_54, v0_55, v0_56, v0_57, v0_58, v0_59, v0_60, v0_61, v0_62, v0_63, v0_64]))] (fun _ : Unit => ([(h0, .inr (12, [v0_0, v0_1, v0_2, v0_3, v0_4, v0_5, v0_6, .int 1, .int 0, .int 1, .int 0, v0_11, v0_12, v0_13, v0_14, v0_15, v0_16, v0_17, v0_18, v0_19, v0_20, v0_21, v0_22, v0_23, v0_24, v0_25, v0_26, v0_27, v0_28, v0_29, v0_30, v0_31, v0_32, v0_33, v0_34, v0_35, v0_36, v0_37, v0_38, v0_39, v0_40, v0_41, v0_42, v0_43, v0_44, v0_45, v0_46, v0_47, v0_48, v0_49, v0_50, .int 0, v0_52, v0_53, v0_54, v0_55, v0_56, v0_57, v0_58, v0_59, v0_60, v0_61, v0_62, v0_63, v0_64]))] : va_W)) 0 0 := by
  refine met_v (by decide) rfl ?_
  intro p e s m below meth c A ls E hr hlk hnm hP hD hA hl
  have hS : va_S A s.heap s.heap [] := va_S.rf
  have hx := E.1.1
  have hb := E.1.2.1
  have hl : lv_has ls 1 [(0, .ref h0)] := hl
  refine lv_aload_n hx hb dX12_readLine_0 rfl (lv_at hl 0 rfl) ?_
  refine lv_iconst (v := 0) hx hb dX12_readLine_1 (by decide) ?_
  refine x_put (ws' := [(h0, .inr (12, [v0_0, v0_1, v0_2, v0_3, v0_4, v0_5, v0_6, .int 0, v0_8, .int 1, .int 0, v0_11, v0_12, v0_13, v0_14, v0_15, v0_16, v0_17, v0_18, v0_19, v0_20, v0_21, v0_22, v0_23, v0_24, v0_25, v0_26, v0_27, v0_28, v0_29, v0_30, v0_31, v0_32, v0_33, v0_34, v0_35, v0_36, v0_37, v0_38, v0_39, v0_40, v0_41, v0_42, v0_43, v0_44, v0_45, v0_46, v0_47, v0_48, v0_49, v0_50, .int 0, v0_52, v0_53, v0_54, v0_55, v0_56, v0_57, v0_58, v0_59, v0_60, v0_61, v0_62, v0_63, v0_64]))]) E iX12 tyX12 tyX12_ok nmX12 hP hD hS 0 rfl rfl 51 (by decide) wq291 rfl rfl rfl rfl rfl dX12_readLine_2 (fun H locs hP hD hS => ?_)
  refine lv_aload_n hx hb dX12_readLine_5 rfl (lv_at hl 0 rfl) ?_
  refine x_str E qs0 dX12_readLine_6 (fun z1 => ?_)
  refine x_Vi (rest := []) (ws' := fun _ => [(h0, .inr (12, [v0_0, v0_1, v0_2, v0_3, v0_4, v0_5, v0_6, .int 0, v0_8, .int 1, .int 0, v0_11, v0_12, v0_13, v0_14, v0_15, v0_16, v0_17, v0_18, v0_19, v0_20, v0_21, v0_22, v0_23, v0_24, v0_25, v0_26, v0_27, v0_28, v0_29, v0_30, v0_31, v0_32, v0_33, v0_34, v0_35, v0_36, v0_37, v0_38, v0_39, v0_40, v0_41, v0_42, v0_43, v0_44, v0_45, v0_46, v0_47, v0_48, v0_49, v0_50, .int 0, v0_52, v0_53, v0_54, v0_55, v0_56, v0_57, v0_58, v0_59, v0_60, v0_61, v0_62, v0_63, v0_64]))]) (wr := []) E (mX12_isWord l D cyI cyJ Z h0 z1 v0_0 v0_1 v0_2 v0_3 v0_4 v0_5 v0_6 v0_8 (.int 0) v0_11 v0_12 v0_13 v0_14 v0_15 v0_16 v0_17 v0_18 v0_19 v0_20 v0_21 v0_22 v0_23 v0_24 v0_25 v0_26 v0_27 v0_28 v0_29 v0_30 v0_31 v0_32 v0_33 v0_34 v0_35 v0_36 v0_37 v0_38 v0_39 v0_40 v0_41 v0_42 v0_43 v0_44 v0_45 v0_46 v0_47 v0_48 v0_49 v0_50 (.int 0) v0_52 v0_53 v0_54 v0_55 v0_56 v0_57 v0_58 v0_59 v0_60 v0_61 v0_62 v0_63 v0_64) kX12_isWord wq312 wq313 wq314 ⟨rfl, rfl, Nat.le_of_ble_eq_true rfl, Nat.le_of_ble_eq_true rfl⟩ hP hD hS hA [0] [] rfl rfl (by decide) (fun _ => rfl) 0 rfl rfl rfl hl.1 rfl (Nat.le_of_ble_eq_true rfl) dX12_readLine_8 ⟨rfl, rfl⟩ ⟨Nat.le_of_ble_eq_true rfl, Nat.le_of_ble_eq_true rfl⟩ (fun _ H locs hP hD hS => ?_)
  refine lv_if_eq (tgt := 21) hx hb dX12_readLine_11 (by decide) (fun c9 => ?_) (fun c9 => absurd (by decide) c9)
  refine lv_aload_n hx hb dX12_readLine_21 rfl (lv_at hl 0 rfl) ?_
  refine x_str E qs1 dX12_readLine_22 (fun z2 => ?_)
  refine x_Vi (rest := []) (ws' := fun _ => [(h0, .inr (12, [v0_0, v0_1, v0_2, v0_3, v0_4, v0_5, v0_6, .int 0, v0_8, .int 1, .int 0, v0_11, v0_12, v0_13, v0_14, v0_15, v0_16, v0_17, v0_18, v0_19, v0_20, v0_21, v0_22, v0_23, v0_24, v0_25, v0_26, v0_27, v0_28, v0_29, v0_30, v0_31, v0_32, v0_33, v0_34, v0_35, v0_36, v0_37, v0_38, v0_39, v0_40, v0_41, v0_42, v0_43, v0_44, v0_45, v0_46, v0_47, v0_48, v0_49, v0_50, .int 0, v0_52, v0_53, v0_54, v0_55, v0_56, v0_57, v0_58, v0_59, v0_60, v0_61, v0_62, v0_63, v0_64]))]) (wr := []) E (mX12_isWord l D cyI cyJ Z h0 z2 v0_0 v0_1 v0_2 v0_3 v0_4 v0_5 v0_6 v0_8 (.int 0) v0_11 v0_12 v0_13 v0_14 v0_15 v0_16 v0_17 v0_18 v0_19 v0_20 v0_21 v0_22 v0_23 v0_24 v0_25 v0_26 v0_27 v0_28 v0_29 v0_30 v0_31 v0_32 v0_33 v0_34 v0_35 v0_36 v0_37 v0_38 v0_39 v0_40 v0_41 v0_42 v0_43 v0_44 v0_45 v0_46 v0_47 v0_48 v0_49 v0_50 (.int 0) v0_52 v0_53 v0_54 v0_55 v0_56 v0_57 v0_58 v0_59 v0_60 v0_61 v0_62 v0_63 v0_64) kX12_isWord wq312 wq313 wq314 ⟨rfl, rfl, Nat.le_of_ble_eq_true rfl, Nat.le_of_ble_eq_true rfl⟩ hP hD hS hA [0] [] rfl rfl (by decide) (fun _ => rfl) 0 rfl rfl rfl hl.1 rfl (Nat.le_of_ble_eq_true rfl) dX12_readLine_24 ⟨rfl, rfl⟩ ⟨Nat.le_of_ble_eq_true rfl, Nat.le_of_ble_eq_true rfl⟩ (fun _ H locs hP hD hS => ?_)
  refine lv_if_eq (tgt := 37) hx hb dX12_readLine_27 (by decide) (fun c9 => ?_) (fun c9 => absurd (by decide) c9)
  refine lv_aload_n hx hb dX12_readLine_37 rfl (lv_at hl 0 rfl) ?_
  refine x_str E qs2 dX12_readLine_38 (fun z3 => ?_)
  refine x_Vi (rest := []) (ws' := fun _ => [(h0, .inr (12, [v0_0, v0_1, v0_2, v0_3, v0_4, v0_5, v0_6, .int 0, v0_8, .int 1, .int 0, v0_11, v0_12, v0_13, v0_14, v0_15, v0_16, v0_17, v0_18, v0_19, v0_20, v0_21, v0_22, v0_23, v0_24, v0_25, v0_26, v0_27, v0_28, v0_29, v0_30, v0_31, v0_32, v0_33, v0_34, v0_35, v0_36, v0_37, v0_38, v0_39, v0_40, v0_41, v0_42, v0_43, v0_44, v0_45, v0_46, v0_47, v0_48, v0_49, v0_50, .int 0, v0_52, v0_53, v0_54, v0_55, v0_56, v0_57, v0_58, v0_59, v0_60, v0_61, v0_62, v0_63, v0_64]))]) (wr := []) E (mX12_isWord l D cyI cyJ Z h0 z3 v0_0 v0_1 v0_2 v0_3 v0_4 v0_5 v0_6 v0_8 (.int 0) v0_11 v0_12 v0_13 v0_14 v0_15 v0_16 v0_17 v0_18 v0_19 v0_20 v0_21 v0_22 v0_23 v0_24 v0_25 v0_26 v0_27 v0_28 v0_29 v0_30 v0_31 v0_32 v0_33 v0_34 v0_35 v0_36 v0_37 v0_38 v0_39 v0_40 v0_41 v0_42 v0_43 v0_44 v0_45 v0_46 v0_47 v0_48 v0_49 v0_50 (.int 0) v0_52 v0_53 v0_54 v0_55 v0_56 v0_57 v0_58 v0_59 v0_60 v0_61 v0_62 v0_63 v0_64) kX12_isWord wq312 wq313 wq314 ⟨rfl, rfl, Nat.le_of_ble_eq_true rfl, Nat.le_of_ble_eq_true rfl⟩ hP hD hS hA [0] [] rfl rfl (by decide) (fun _ => rfl) 0 rfl rfl rfl hl.1 rfl (Nat.le_of_ble_eq_true rfl) dX12_readLine_40 ⟨rfl, rfl⟩ ⟨Nat.le_of_ble_eq_true rfl, Nat.le_of_ble_eq_true rfl⟩ (fun _ H locs hP hD hS => ?_)
  refine lv_if_eq (tgt := 53) hx hb dX12_readLine_43 (by decide) (fun c9 => ?_) (fun c9 => absurd (by decide) c9)
  refine lv_aload_n hx hb dX12_readLine_53 rfl (lv_at hl 0 rfl) ?_
  refine x_str E qs3 dX12_readLine_54 (fun z4 => ?_)
  refine x_Vi (rest := []) (ws' := fun _ => [(h0, .inr (12, [v0_0, v0_1, v0_2, v0_3, v0_4, v0_5, v0_6, .int 0, v0_8, .int 1, .int 0, v0_11, v0_12, v0_13, v0_14, v0_15, v0_16, v0_17, v0_18, v0_19, v0_20, v0_21, v0_22, v0_23, v0_24, v0_25, v0_26, v0_27, v0_28, v0_29, v0_30, v0_31, v0_32, v0_33, v0_34, v0_35, v0_36, v0_37, v0_38, v0_39, v0_40, v0_41, v0_42, v0_43, v0_44, v0_45, v0_46, v0_47, v0_48, v0_49, v0_50, .int 0, v0_52, v0_53, v0_54, v0_55, v0_56, v0_57, v0_58, v0_59, v0_60, v0_61, v0_62, v0_63, v0_64]))]) (wr := []) E (mX12_isWord l D cyI cyJ Z h0 z4 v0_0 v0_1 v0_2 v0_3 v0_4 v0_5 v0_6 v0_8 (.int 0) v0_11 v0_12 v0_13 v0_14 v0_15 v0_16 v0_17 v0_18 v0_19 v0_20 v0_21 v0_22 v0_23 v0_24 v0_25 v0_26 v0_27 v0_28 v0_29 v0_30 v0_31 v0_32 v0_33 v0_34 v0_35 v0_36 v0_37 v0_38 v0_39 v0_40 v0_41 v0_42 v0_43 v0_44 v0_45 v0_46 v0_47 v0_48 v0_49 v0_50 (.int 0) v0_52 v0_53 v0_54 v0_55 v0_56 v0_57 v0_58 v0_59 v0_60 v0_61 v0_62 v0_63 v0_64) kX12_isWord wq312 wq313 wq314 ⟨rfl, rfl, Nat.le_of_ble_eq_true rfl, Nat.le_of_ble_eq_true rfl⟩ hP hD hS hA [0] [] rfl rfl (by decide) (fun _ => rfl) 0 rfl rfl rfl hl.1 rfl (Nat.le_of_ble_eq_true rfl) dX12_readLine_56 ⟨rfl, rfl⟩ ⟨Nat.le_of_ble_eq_true rfl, Nat.le_of_ble_eq_true rfl⟩ (fun _ H locs hP hD hS => ?_)
  refine lv_if_eq (tgt := 69) hx hb dX12_readLine_59 (by decide) (fun c9 => ?_) (fun c9 => absurd (by decide) c9)
  refine lv_aload_n hx hb dX12_readLine_69 rfl (lv_at hl 0 rfl) ?_
  refine lv_iconst (v := 1) hx hb dX12_readLine_70 (by decide) ?_
  refine x_Vv (rest := []) (ws' := fun _ => [(h0, .inr (12, [v0_0, v0_1, v0_2, v0_3, v0_4, v0_5, v0_6, .int 1, .int 0, .int 1, .int 0, v0_11, v0_12, v0_13, v0_14, v0_15, v0_16, v0_17, v0_18, v0_19, v0_20, v0_21, v0_22, v0_23, v0_24, v0_25, v0_26, v0_27, v0_28, v0_29, v0_30, v0_31, v0_32, v0_33, v0_34, v0_35, v0_36, v0_37, v0_38, v0_39, v0_40, v0_41, v0_42, v0_43, v0_44, v0_45, v0_46, v0_47, v0_48, v0_49, v0_50, .int 0, v0_52, v0_53, v0_54, v0_55, v0_56, v0_57, v0_58, v0_59, v0_60, v0_61, v0_62, v0_63, v0_64]))]) (wr := []) E (mX12_flaw l D cyI cyJ Z h0 v0_0 v0_1 v0_2 v0_3 v0_4 v0_5 v0_6 v0_8 (.int 1) v0_11 v0_12 v0_13 v0_14 v0_15 v0_16 v0_17 v0_18 v0_19 v0_20 v0_21 v0_22 v0_23 v0_24 v0_25 v0_26 v0_27 v0_28 v0_29 v0_30 v0_31 v0_32 v0_33 v0_34 v0_35 v0_36 v0_37 v0_38 v0_39 v0_40 v0_41 v0_42 v0_43 v0_44 v0_45 v0_46 v0_47 v0_48 v0_49 v0_50 (.int 0) v0_52 v0_53 v0_54 v0_55 v0_56 v0_57 v0_58 v0_59 v0_60 v0_61 v0_62 v0_63 v0_64) kX12_flaw wq319 wq320 wq321 ⟨rfl, rfl, Nat.le_of_ble_eq_true rfl, Nat.le_of_ble_eq_true rfl⟩ hP hD hS hA [0] [] rfl rfl (by decide) (fun _ => rfl) 0 rfl rfl rfl hl.1 rfl (Nat.le_of_ble_eq_true rfl) dX12_readLine_71 ⟨rfl, rfl⟩ ⟨Nat.le_of_ble_eq_true rfl, Nat.le_of_ble_eq_true rfl⟩ (fun _ H locs hP hD hS => ?_)
  exact x_vret E hr hlk hP hD hS () [0] (by decide) rfl dX12_readLine_74
