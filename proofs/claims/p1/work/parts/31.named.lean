set_option maxHeartbeats 4000000 in
set_option maxRecDepth 100000 in
theorem mX11_named_0 (l : Launch) (hst : l.stackTraces = false) (D : va_G) (cyI cyJ : ClassId) (Z : xZ) (h0 : Nat) (h1 : Nat) (h2 : Nat) (h3 : Nat) (h4 : Nat) (h5 : Nat) (v0_0 : Value) (v0_2 : Value) (v0_3 : Value) (v0_4 : Value) (v0_5 : Value) (v0_6 : Value) (v0_7 : Value) (v0_8 : Value) (v0_9 : Value) (v0_11 : Value) (v0_12 : Value) (v0_13 : Value) (v0_14 : Value) (v0_15 : Value) (v1_1 : Value) (v1_5 : Value) (v1_6 : Value) (v1_7 : Value) (v1_8 : Value) (v1_9 : Value) (v1_10 : Value) (v1_11 : Value) (f2 : Nat → Int32) : MetX l yX11_named (Cond.code yX11_named cX11_named 4 (some .int)) { frames := 6, cells := 1, slots := 6, locals := 90 } D cyI cyJ Z [.ref h0, .int 0] [(h0, .inr (11, [v0_0, .int 0, v0_2, v0_3, v0_4, v0_5, v0_6, v0_7, v0_8, v0_9, .ref h1, v0_11, v0_12, v0_13, v0_14, v0_15])), (h1, .inr (8, [.ref h2, v1_1, .ref h3, .ref h4, .ref h5, v1_5, v1_6, v1_7, v1_8, v1_9, v1_10, v1_11])), (h2, .inl (cyI, 400, .inl f2)), (h3, .inl (cyI, 401, .inl (fun _ => 0))), (h4, .inl (cyI, 401, .inl (fun _ => 0))), (h5, .inl (cyI, 401, .inl (fun _ => 0)))] 1 6 := by
  refine met_x (by decide) rfl ?_
  intro p e s m below meth c A ls E hex hlk hP hD hA hl
  have hS : va_S A s.heap s.heap [] := va_S.rf
  have hx := E.1.1
  have hb := E.1.2.1
  have hl : lv_has ls 4 [(0, .ref h0), (1, .int 0)] := hl
  refine lv_iconst (v := (-1)) hx hb dX11_named_0 (by decide) ?_
  refine lv_istore_n (lv' := [(2, .int (-1)), (0, .ref h0), (1, .int 0)]) hx hb dX11_named_1 rfl hl (by decide) rfl (fun ls hl => ?_)
  refine lv_iload_n hx hb dX11_named_2 rfl (lv_at hl 2 rfl) ?_
  refine lv_if_lt (tgt := 40) hx hb dX11_named_3 (by decide) (fun c9 => absurd c9 (by decide)) (fun c9 => ?_)
  refine lv_iload_n hx hb dX11_named_6 rfl (lv_at hl 2 rfl) ?_
  refine lv_aload_n hx hb dX11_named_7 rfl (lv_at hl 1 rfl) ?_
  refine x_get E iX11 hP 0 rfl rfl 1 (by decide) wq198 rfl dX11_named_8 ?_
  refine lv_icmp_gt (tgt := 40) hx hb dX11_named_11 (by decide) (fun c9 => absurd c9 (by decide)) (fun c9 => ?_)
  refine lv_aload_n hx hb dX11_named_14 rfl (lv_at hl 1 rfl) ?_
  refine x_get E iX11 hP 0 rfl rfl 10 (by decide) wq95 rfl dX11_named_15 ?_
  refine lv_iload_n hx hb dX11_named_18 rfl (lv_at hl 2 rfl) ?_
  refine x_Vi (rest := []) (ws' := fun _ => [(h0, .inr (11, [v0_0, .int 0, v0_2, v0_3, v0_4, v0_5, v0_6, v0_7, v0_8, v0_9, .ref h1, v0_11, v0_12, v0_13, v0_14, v0_15])), (h1, .inr (8, [.ref h2, v1_1, .ref h3, .ref h4, .ref h5, .int 1, .int 0, .int 0, .int 0, .int (-1), .int 0, .int (-1)])), (h2, .inl (cyI, 400, .inl f2)), (h3, .inl (cyI, 401, .inl (upd (fun _ => 0) 0 0))), (h4, .inl (cyI, 401, .inl (upd (fun _ => 0) 0 0))), (h5, .inl (cyI, 401, .inl (upd (fun _ => 0) 0 (-1))))]) (wr := [(h0, .inr (11, [v0_0, .int 0, v0_2, v0_3, v0_4, v0_5, v0_6, v0_7, v0_8, v0_9, .ref h1, v0_11, v0_12, v0_13, v0_14, v0_15]))]) E (mX8_onlyName l D cyI cyJ Z h1 h2 h3 h4 h5 v1_1 v1_5 v1_6 v1_7 v1_8 v1_9 v1_10 v1_11 f2) kX8_onlyName wq474 wq475 wq476 ⟨rfl, rfl, Nat.le_of_ble_eq_true rfl, Nat.le_of_ble_eq_true rfl⟩ hP hD hS hA [1, 2, 3, 4, 5] [0] rfl rfl (by decide) (fun _ => rfl) 1 rfl rfl rfl hl.1 rfl (Nat.le_of_ble_eq_true rfl) dX11_named_19 ⟨rfl, rfl⟩ ⟨Nat.le_of_ble_eq_true rfl, Nat.le_of_ble_eq_true rfl⟩ (fun _ H locs hP hD hS => ?_)
  refine lv_istore_n (lv' := [(3, .int (-1)), (2, .int (-1)), (0, .ref h0), (1, .int 0)]) hx hb dX11_named_22 rfl hl (by decide) rfl (fun ls hl => ?_)
  refine lv_iload_n hx hb dX11_named_23 rfl (lv_at hl 0 rfl) ?_
  refine lv_if_ge (tgt := 31) hx hb dX11_named_24 (by decide) (fun c9 => absurd c9 (by decide)) (fun c9 => ?_)
  refine lv_iconst (v := (-1)) hx hb dX11_named_27 (by decide) ?_
  refine lv_goto (tgt := 39) hx hb dX11_named_28 (by decide) ?_
  refine lv_istore_n (lv' := [(2, .int (-1)), (3, .int (-1)), (0, .ref h0), (1, .int 0)]) hx hb dX11_named_39 rfl hl (by decide) rfl (fun ls hl => ?_)
  refine lv_iload_n hx hb dX11_named_40 rfl (lv_at hl 0 rfl) ?_
  refine lv_if_ge (tgt := 55) hx hb dX11_named_41 (by decide) (fun c9 => absurd c9 (by decide)) (fun c9 => ?_)
  exact x_thr hst E hex hlk hS hl.1 (Nat.le_of_ble_eq_true rfl) (Nat.le_of_ble_eq_true rfl) ⟨Nat.le_of_ble_eq_true rfl, Nat.le_of_ble_eq_true rfl⟩ ⟨Nat.le_of_ble_eq_true rfl, Nat.le_of_ble_eq_true rfl⟩

set_option maxHeartbeats 4000000 in
set_option maxRecDepth 100000 in
theorem mX11_named_x (l : Launch) (hst : l.stackTraces = false) (D : va_G) (cyI cyJ : ClassId) (Z : xZ) (h0 : Nat) (p0 : Int32) (hf1_0 : ¬ p0 = 0) (v0_0 : Value) (v0_2 : Value) (v0_3 : Value) (v0_4 : Value) (v0_5 : Value) (v0_6 : Value) (v0_7 : Value) (v0_8 : Value) (v0_9 : Value) (v0_10 : Value) (v0_11 : Value) (v0_12 : Value) (v0_13 : Value) (v0_14 : Value) (v0_15 : Value) : MetX l yX11_named (Cond.code yX11_named cX11_named 4 (some .int)) { frames := 6, cells := 1, slots := 6, locals := 90 } D cyI cyJ Z [.ref h0, .int p0] [(h0, .inr (11, [v0_0, .int 0, v0_2, v0_3, v0_4, v0_5, v0_6, v0_7, v0_8, v0_9, v0_10, v0_11, v0_12, v0_13, v0_14, v0_15]))] 1 6 := by
  refine met_x (by decide) rfl ?_
  intro p e s m below meth c A ls E hex hlk hP hD hA hl
  have hS : va_S A s.heap s.heap [] := va_S.rf
  have hx := E.1.1
  have hb := E.1.2.1
  have hl : lv_has ls 4 [(0, .ref h0), (1, .int p0)] := hl
  refine lv_iconst (v := (-1)) hx hb dX11_named_0 (by decide) ?_
  refine lv_istore_n (lv' := [(2, .int (-1)), (0, .ref h0), (1, .int p0)]) hx hb dX11_named_1 rfl hl (by decide) rfl (fun ls hl => ?_)
  refine lv_iload_n hx hb dX11_named_2 rfl (lv_at hl 2 rfl) ?_
  refine lv_if_lt (tgt := 40) hx hb dX11_named_3 (by decide) (fun c1 => ?_) (fun c1 => ?_)
  · refine lv_iload_n hx hb dX11_named_40 rfl (lv_at hl 0 rfl) ?_
    refine lv_if_ge (tgt := 55) hx hb dX11_named_41 (by decide) (fun c9 => absurd c9 (by decide)) (fun c9 => ?_)
    exact x_thr hst E hex hlk hS hl.1 (Nat.le_of_ble_eq_true rfl) (Nat.le_of_ble_eq_true rfl) ⟨Nat.le_of_ble_eq_true rfl, Nat.le_of_ble_eq_true rfl⟩ ⟨Nat.le_of_ble_eq_true rfl, Nat.le_of_ble_eq_true rfl⟩
  · refine lv_iload_n hx hb dX11_named_6 rfl (lv_at hl 2 rfl) ?_
    refine lv_aload_n hx hb dX11_named_7 rfl (lv_at hl 1 rfl) ?_
    refine x_get E iX11 hP 0 rfl rfl 1 (by decide) wq198 rfl dX11_named_8 ?_
    refine lv_icmp_gt (tgt := 40) hx hb dX11_named_11 (by decide) (fun c9 => ?_) (fun c9 => (by exfalso; have k0 : ¬ ((p0 : Int32).toInt = (0 : Int32).toInt) := fun z => hf1_0 (Int32.toInt_inj.mp z); have k1 : ¬ ((p0 : Int32).toInt < (0 : Int32).toInt) := fun z => c1 (Int32.lt_iff_toInt_lt.mpr z); have k2 : ¬ ((0 : Int32).toInt < (p0 : Int32).toInt) := fun z => c9 (Int32.lt_iff_toInt_lt.mpr z); have l0 : (0 : Int32).toInt = 0 := (by decide); omega))
    refine lv_iload_n hx hb dX11_named_40 rfl (lv_at hl 0 rfl) ?_
    refine lv_if_ge (tgt := 55) hx hb dX11_named_41 (by decide) (fun c9 => absurd c9 (by decide)) (fun c9 => ?_)
    exact x_thr hst E hex hlk hS hl.1 (Nat.le_of_ble_eq_true rfl) (Nat.le_of_ble_eq_true rfl) ⟨Nat.le_of_ble_eq_true rfl, Nat.le_of_ble_eq_true rfl⟩ ⟨Nat.le_of_ble_eq_true rfl, Nat.le_of_ble_eq_true rfl⟩
