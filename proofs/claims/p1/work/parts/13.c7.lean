set_option maxHeartbeats 4000000 in
set_option maxRecDepth 100000 in
theorem mX12_readPiece_1 (l : Launch) (D : va_G) (cyI cyJ : ClassId) (Z : xZ) (h0 : Nat) (v0_0 : Value) (v0_1 : Value) (v0_2 : Value) (v0_3 : Value) (v0_4 : Value) (v0_5 : Value) (v0_6 : Value) (v0_8 : Value) (v0_9 : Value) (v0_11 : Value) (v0_12 : Value) (v0_13 : Value) (v0_14 : Value) (v0_15 : Value) (v0_16 : Value) (v0_17 : Value) (v0_18 : Value) (v0_19 : Value) (v0_20 : Value) (v0_21 : Value) (v0_22 : Value) (v0_23 : Value) (v0_24 : Value) (v0_25 : Value) (v0_26 : Value) (v0_27 : Value) (v0_28 : Value) (v0_29 : Value) (v0_30 : Value) (v0_31 : Value) (v0_32 : Value) (v0_33 : Value) (v0_34 : Value) (v0_35 : Value) (v0_36 : Value) (v0_37 : Value) (v0_38 : Value) (v0_39 : Value) (v0_40 : Value) (v0_41 : Value) (v0_42 : Value) (v0_43 : Value) (v0_44 : Value) (v0_45 : Value) (v0_46 : Value) (v0_47 : Value) (v0_48 : Value) (v0_49 : Value) (v0_50 : Value) (v0_51 : Value) (v0_52 : Value) (v0_53 : Value) (v0_54 : Value) (v0_55 : Value) (v0_56 : Value) (v0_57 : Value) (v0_58 : Value) (v0_59 : Value) (v0_60 : Value) (v0_61 : Value) (v0_62 : Value) (v0_63 : Value) (v0_64 : Value) : MetI l yX12_readPiece (Cond.code yX12_readPiece cX12_readPiece 2 (some .int)) { frames := 2, cells := 0, slots := 0, locals := 43 } D cyI cyJ Z [.ref h0] [(h0, .inr (12, [v0_0, v0_1, v0_2, v0_3, v0_4, v0_5, v0_6, .int 1, v0_8, v0_9, .int 0, v0_11, v0_12, v0_13, v0_14, v0_15, v0_16, v0_17, v0_18, v0_19, v0_20, v0_21, v0_22, v0_23, v0_24, v0_25, v0_26, v0_27, v0_28, v0_29, v0_30, v0_31, v0_32, v0_33, v0_34, v0_35, v0_36, v0_37, v0_38, v0_39, v0_40, v0_41, v0_42, v0_43, v0_44, v0_45, v0_46, v0_47, v0_48, v0_49, v0_50, v0_51, v0_52, v0_53, v0_54, v0_55, v0_56, v0_57, v0_58, v0_59, v0_60, v0_61, v0_62, v0_63, v0_64]))] (fun _ : Unit => 0) (fun _ : Unit => ([(h0, .inr (12, [v0_0, v0_1, v0_2, v0_3, v0_4, v0_5, v0_6, .int 1, v0_8, v0_9, .int 0, v0_11, v0_12, v0_13, v0_14, v0_15, v0_16, v0_17, v0_18, v0_19, v0_20, v0_21, v0_22, v0_23, v0_24, v0_25, v0_26, v0_27, v0_28, v0_29, v0_30, v0_31, v0_32, v0_33, v0_34, v0_35, v0_36, v0_37, v0_38, v0_39, v0_40, v0_41, v0_42, v0_43, v0_44, v0_45, v0_46, v0_47, v0_48, v0_49, v0_50, v0_51, v0_52, v0_53, v0_54, v0_55, v0_56, v0_57, v0_58, v0_59, v0_60, v0_61, v0_62, v0_63, v0_64]))] : va_W)) 0 0 := by
  refine met_i (by decide) rfl ?_
  intro p e s m below meth c A ls E hr hlk hP hD hA hl
  have hS : va_S A s.heap s.heap [] := va_S.rf
  have hx := E.1.1
  have hb := E.1.2.1
  have hl : lv_has ls 2 [(0, .ref h0)] := hl
  refine lv_aload_n hx hb dX12_readPiece_0 rfl (lv_at hl 0 rfl) ?_
  refine x_Vi (rest := []) (ws' := fun _ => [(h0, .inr (12, [v0_0, v0_1, v0_2, v0_3, v0_4, v0_5, v0_6, .int 1, v0_8, v0_9, .int 0, v0_11, v0_12, v0_13, v0_14, v0_15, v0_16, v0_17, v0_18, v0_19, v0_20, v0_21, v0_22, v0_23, v0_24, v0_25, v0_26, v0_27, v0_28, v0_29, v0_30, v0_31, v0_32, v0_33, v0_34, v0_35, v0_36, v0_37, v0_38, v0_39, v0_40, v0_41, v0_42, v0_43, v0_44, v0_45, v0_46, v0_47, v0_48, v0_49, v0_50, v0_51, v0_52, v0_53, v0_54, v0_55, v0_56, v0_57, v0_58, v0_59, v0_60, v0_61, v0_62, v0_63, v0_64]))]) (wr := []) E (mX12_isName_1 l D cyI cyJ Z h0 v0_0 v0_1 v0_2 v0_3 v0_4 v0_5 v0_6 v0_8 v0_9 (.int 0) v0_11 v0_12 v0_13 v0_14 v0_15 v0_16 v0_17 v0_18 v0_19 v0_20 v0_21 v0_22 v0_23 v0_24 v0_25 v0_26 v0_27 v0_28 v0_29 v0_30 v0_31 v0_32 v0_33 v0_34 v0_35 v0_36 v0_37 v0_38 v0_39 v0_40 v0_41 v0_42 v0_43 v0_44 v0_45 v0_46 v0_47 v0_48 v0_49 v0_50 v0_51 v0_52 v0_53 v0_54 v0_55 v0_56 v0_57 v0_58 v0_59 v0_60 v0_61 v0_62 v0_63 v0_64) kX12_isName wq368 wq369 wq370 ⟨rfl, rfl, Nat.le_of_ble_eq_true rfl, Nat.le_of_ble_eq_true rfl⟩ hP hD hS hA [0] [] rfl rfl (by decide) (fun _ => rfl) 0 rfl rfl rfl hl.1 rfl (Nat.le_of_ble_eq_true rfl) dX12_readPiece_1 ⟨rfl, rfl⟩ ⟨Nat.le_of_ble_eq_true rfl, Nat.le_of_ble_eq_true rfl⟩ (fun _ H locs hP hD hS => ?_)
  refine lv_if_eq (tgt := 12) hx hb dX12_readPiece_4 (by decide) (fun c9 => ?_) (fun c9 => absurd (by decide) c9)
  refine lv_aload_n hx hb dX12_readPiece_12 rfl (lv_at hl 0 rfl) ?_
  refine lv_bipush (v := 92) hx hb dX12_readPiece_13 (by decide) ?_
  refine x_Vi (rest := []) (ws' := fun _ => [(h0, .inr (12, [v0_0, v0_1, v0_2, v0_3, v0_4, v0_5, v0_6, .int 1, v0_8, v0_9, .int 0, v0_11, v0_12, v0_13, v0_14, v0_15, v0_16, v0_17, v0_18, v0_19, v0_20, v0_21, v0_22, v0_23, v0_24, v0_25, v0_26, v0_27, v0_28, v0_29, v0_30, v0_31, v0_32, v0_33, v0_34, v0_35, v0_36, v0_37, v0_38, v0_39, v0_40, v0_41, v0_42, v0_43, v0_44, v0_45, v0_46, v0_47, v0_48, v0_49, v0_50, v0_51, v0_52, v0_53, v0_54, v0_55, v0_56, v0_57, v0_58, v0_59, v0_60, v0_61, v0_62, v0_63, v0_64]))]) (wr := []) E (mX12_isSign_4 l D cyI cyJ Z h0 v0_0 v0_1 v0_2 v0_3 v0_4 v0_5 v0_6 v0_8 v0_9 (.int 0) v0_11 v0_12 v0_13 v0_14 v0_15 v0_16 v0_17 v0_18 v0_19 v0_20 v0_21 v0_22 v0_23 v0_24 v0_25 v0_26 v0_27 v0_28 v0_29 v0_30 v0_31 v0_32 v0_33 v0_34 v0_35 v0_36 v0_37 v0_38 v0_39 v0_40 v0_41 v0_42 v0_43 v0_44 v0_45 v0_46 v0_47 v0_48 v0_49 v0_50 v0_51 v0_52 v0_53 v0_54 v0_55 v0_56 v0_57 v0_58 v0_59 v0_60 v0_61 v0_62 v0_63 v0_64) kX12_isSign wq325 wq326 wq327 ⟨rfl, rfl, Nat.le_of_ble_eq_true rfl, Nat.le_of_ble_eq_true rfl⟩ hP hD hS hA [0] [] rfl rfl (by decide) (fun _ => rfl) 0 rfl rfl rfl hl.1 rfl (Nat.le_of_ble_eq_true rfl) dX12_readPiece_15 ⟨rfl, rfl⟩ ⟨Nat.le_of_ble_eq_true rfl, Nat.le_of_ble_eq_true rfl⟩ (fun _ H locs hP hD hS => ?_)
  refine lv_if_eq (tgt := 26) hx hb dX12_readPiece_18 (by decide) (fun c9 => ?_) (fun c9 => absurd (by decide) c9)
  refine lv_aload_n hx hb dX12_readPiece_26 rfl (lv_at hl 0 rfl) ?_
  refine lv_bipush (v := 40) hx hb dX12_readPiece_27 (by decide) ?_
  refine x_Vi (rest := []) (ws' := fun _ => [(h0, .inr (12, [v0_0, v0_1, v0_2, v0_3, v0_4, v0_5, v0_6, .int 1, v0_8, v0_9, .int 0, v0_11, v0_12, v0_13, v0_14, v0_15, v0_16, v0_17, v0_18, v0_19, v0_20, v0_21, v0_22, v0_23, v0_24, v0_25, v0_26, v0_27, v0_28, v0_29, v0_30, v0_31, v0_32, v0_33, v0_34, v0_35, v0_36, v0_37, v0_38, v0_39, v0_40, v0_41, v0_42, v0_43, v0_44, v0_45, v0_46, v0_47, v0_48, v0_49, v0_50, v0_51, v0_52, v0_53, v0_54, v0_55, v0_56, v0_57, v0_58, v0_59, v0_60, v0_61, v0_62, v0_63, v0_64]))]) (wr := []) E (mX12_isSign_3 l D cyI cyJ Z h0 v0_0 v0_1 v0_2 v0_3 v0_4 v0_5 v0_6 v0_8 v0_9 (.int 0) v0_11 v0_12 v0_13 v0_14 v0_15 v0_16 v0_17 v0_18 v0_19 v0_20 v0_21 v0_22 v0_23 v0_24 v0_25 v0_26 v0_27 v0_28 v0_29 v0_30 v0_31 v0_32 v0_33 v0_34 v0_35 v0_36 v0_37 v0_38 v0_39 v0_40 v0_41 v0_42 v0_43 v0_44 v0_45 v0_46 v0_47 v0_48 v0_49 v0_50 v0_51 v0_52 v0_53 v0_54 v0_55 v0_56 v0_57 v0_58 v0_59 v0_60 v0_61 v0_62 v0_63 v0_64) kX12_isSign wq325 wq326 wq327 ⟨rfl, rfl, Nat.le_of_ble_eq_true rfl, Nat.le_of_ble_eq_true rfl⟩ hP hD hS hA [0] [] rfl rfl (by decide) (fun _ => rfl) 0 rfl rfl rfl hl.1 rfl (Nat.le_of_ble_eq_true rfl) dX12_readPiece_29 ⟨rfl, rfl⟩ ⟨Nat.le_of_ble_eq_true rfl, Nat.le_of_ble_eq_true rfl⟩ (fun _ H locs hP hD hS => ?_)
  refine lv_if_ne (tgt := 42) hx hb dX12_readPiece_32 (by decide) (fun c9 => absurd (by decide) c9) (fun c9 => ?_)
  refine lv_aload_n hx hb dX12_readPiece_35 rfl (lv_at hl 0 rfl) ?_
  refine lv_iconst (v := 1) hx hb dX12_readPiece_36 (by decide) ?_
  refine x_Vv (rest := []) (ws' := fun _ => [(h0, .inr (12, [v0_0, v0_1, v0_2, v0_3, v0_4, v0_5, v0_6, .int 1, v0_8, v0_9, .int 0, v0_11, v0_12, v0_13, v0_14, v0_15, v0_16, v0_17, v0_18, v0_19, v0_20, v0_21, v0_22, v0_23, v0_24, v0_25, v0_26, v0_27, v0_28, v0_29, v0_30, v0_31, v0_32, v0_33, v0_34, v0_35, v0_36, v0_37, v0_38, v0_39, v0_40, v0_41, v0_42, v0_43, v0_44, v0_45, v0_46, v0_47, v0_48, v0_49, v0_50, v0_51, v0_52, v0_53, v0_54, v0_55, v0_56, v0_57, v0_58, v0_59, v0_60, v0_61, v0_62, v0_63, v0_64]))]) (wr := []) E (mX12_flaw_1 l D cyI cyJ Z h0 v0_0 v0_1 v0_2 v0_3 v0_4 v0_5 v0_6 v0_8 v0_9 v0_11 v0_12 v0_13 v0_14 v0_15 v0_16 v0_17 v0_18 v0_19 v0_20 v0_21 v0_22 v0_23 v0_24 v0_25 v0_26 v0_27 v0_28 v0_29 v0_30 v0_31 v0_32 v0_33 v0_34 v0_35 v0_36 v0_37 v0_38 v0_39 v0_40 v0_41 v0_42 v0_43 v0_44 v0_45 v0_46 v0_47 v0_48 v0_49 v0_50 v0_51 v0_52 v0_53 v0_54 v0_55 v0_56 v0_57 v0_58 v0_59 v0_60 v0_61 v0_62 v0_63 v0_64) kX12_flaw wq319 wq320 wq321 ⟨rfl, rfl, Nat.le_of_ble_eq_true rfl, Nat.le_of_ble_eq_true rfl⟩ hP hD hS hA [0] [] rfl rfl (by decide) (fun _ => rfl) 0 rfl rfl rfl hl.1 rfl (Nat.le_of_ble_eq_true rfl) dX12_readPiece_37 ⟨rfl, rfl⟩ ⟨Nat.le_of_ble_eq_true rfl, Nat.le_of_ble_eq_true rfl⟩ (fun _ H locs hP hD hS => ?_)
  refine lv_iconst (v := 0) hx hb dX12_readPiece_40 (by decide) ?_
  exact x_iret E hr hlk hP hD hS () rfl [0] (by decide) rfl rfl dX12_readPiece_41

set_option maxHeartbeats 4000000 in
set_option maxRecDepth 100000 in
theorem mX12_readSide_1 (l : Launch) (D : va_G) (cyI cyJ : ClassId) (Z : xZ) (h0 : Nat) (v0_0 : Value) (v0_1 : Value) (v0_2 : Value) (v0_3 : Value) (v0_4 : Value) (v0_5 : Value) (v0_6 : Value) (v0_8 : Value) (v0_9 : Value) (v0_11 : Value) (v0_12 : Value) (v0_13 : Value) (v0_14 : Value) (v0_15 : Value) (v0_16 : Value) (v0_17 : Value) (v0_18 : Value) (v0_19 : Value) (v0_20 : Value) (v0_21 : Value) (v0_22 : Value) (v0_23 : Value) (v0_24 : Value) (v0_25 : Value) (v0_26 : Value) (v0_27 : Value) (v0_28 : Value) (v0_29 : Value) (v0_30 : Value) (v0_31 : Value) (v0_32 : Value) (v0_34 : Value) (v0_35 : Value) (v0_36 : Value) (v0_37 : Value) (v0_38 : Value) (v0_39 : Value) (v0_40 : Value) (v0_41 : Value) (v0_42 : Value) (v0_43 : Value) (v0_44 : Value) (v0_45 : Value) (v0_46 : Value) (v0_47 : Value) (v0_48 : Value) (v0_49 : Value) (v0_50 : Value) (v0_51 : Value) (v0_52 : Value) (v0_53 : Value) (v0_54 : Value) (v0_55 : Value) (v0_56 : Value) (v0_57 : Value) (v0_58 : Value) (v0_59 : Value) (v0_60 : Value) (v0_61 : Value) (v0_62 : Value) (v0_63 : Value) (v0_64 : Value) : MetI l yX12_readSide (Cond.code yX12_readSide cX12_readSide 5 (some .int)) { frames := 3, cells := 0, slots := 0, locals := 64 } D cyI cyJ Z [.ref h0] [(h0, .inr (12, [v0_0, v0_1, v0_2, v0_3, v0_4, v0_5, v0_6, .int 1, v0_8, v0_9, .int 0, v0_11, v0_12, v0_13, v0_14, v0_15, v0_16, v0_17, v0_18, v0_19, v0_20, v0_21, v0_22, v0_23, v0_24, v0_25, v0_26, v0_27, v0_28, v0_29, v0_30, v0_31, v0_32, .int 0, v0_34, v0_35, v0_36, v0_37, v0_38, v0_39, v0_40, v0_41, v0_42, v0_43, v0_44, v0_45, v0_46, v0_47, v0_48, v0_49, v0_50, v0_51, v0_52, v0_53, v0_54, v0_55, v0_56, v0_57, v0_58, v0_59, v0_60, v0_61, v0_62, v0_63, v0_64]))] (fun _ : Unit => 0) (fun _ : Unit => ([(h0, .inr (12, [v0_0, v0_1, v0_2, v0_3, v0_4, v0_5, v0_6, .int 1, v0_8, v0_9, .int 0, v0_11, v0_12, v0_13, v0_14, v0_15, v0_16, v0_17, v0_18, v0_19, v0_20, v0_21, v0_22, v0_23, v0_24, v0_25, v0_26, v0_27, v0_28, v0_29, v0_30, v0_31, v0_32, .int 0, v0_34, v0_35, v0_36, v0_37, v0_38, v0_39, v0_40, v0_41, v0_42, v0_43, v0_44, v0_45, v0_46, v0_47, v0_48, v0_49, v0_50, v0_51, v0_52, v0_53, v0_54, v0_55, v0_56, v0_57, v0_58, v0_59, v0_60, v0_61, v0_62, v0_63, v0_64]))] : va_W)) 0 0 := by
  refine met_i (by decide) rfl ?_
  intro p e s m below meth c A ls E hr hlk hP hD hA hl
  have hS : va_S A s.heap s.heap [] := va_S.rf
  have hx := E.1.1
  have hb := E.1.2.1
  have hl : lv_has ls 5 [(0, .ref h0)] := hl
  refine lv_aload_n hx hb dX12_readSide_0 rfl (lv_at hl 0 rfl) ?_
  refine x_get E iX12 hP 0 rfl rfl 33 (by decide) wq302 rfl dX12_readSide_1 ?_
  refine lv_istore_n (lv' := [(1, .int 0), (0, .ref h0)]) hx hb dX12_readSide_4 rfl hl (by decide) rfl (fun ls hl => ?_)
  refine lv_aload_n hx hb dX12_readSide_5 rfl (lv_at hl 1 rfl) ?_
  refine x_Vi (rest := []) (ws' := fun _ => [(h0, .inr (12, [v0_0, v0_1, v0_2, v0_3, v0_4, v0_5, v0_6, .int 1, v0_8, v0_9, .int 0, v0_11, v0_12, v0_13, v0_14, v0_15, v0_16, v0_17, v0_18, v0_19, v0_20, v0_21, v0_22, v0_23, v0_24, v0_25, v0_26, v0_27, v0_28, v0_29, v0_30, v0_31, v0_32, .int 0, v0_34, v0_35, v0_36, v0_37, v0_38, v0_39, v0_40, v0_41, v0_42, v0_43, v0_44, v0_45, v0_46, v0_47, v0_48, v0_49, v0_50, v0_51, v0_52, v0_53, v0_54, v0_55, v0_56, v0_57, v0_58, v0_59, v0_60, v0_61, v0_62, v0_63, v0_64]))]) (wr := []) E (mX12_readPiece_1 l D cyI cyJ Z h0 v0_0 v0_1 v0_2 v0_3 v0_4 v0_5 v0_6 v0_8 v0_9 v0_11 v0_12 v0_13 v0_14 v0_15 v0_16 v0_17 v0_18 v0_19 v0_20 v0_21 v0_22 v0_23 v0_24 v0_25 v0_26 v0_27 v0_28 v0_29 v0_30 v0_31 v0_32 (.int 0) v0_34 v0_35 v0_36 v0_37 v0_38 v0_39 v0_40 v0_41 v0_42 v0_43 v0_44 v0_45 v0_46 v0_47 v0_48 v0_49 v0_50 v0_51 v0_52 v0_53 v0_54 v0_55 v0_56 v0_57 v0_58 v0_59 v0_60 v0_61 v0_62 v0_63 v0_64) kX12_readPiece wq371 wq372 wq373 ⟨rfl, rfl, Nat.le_of_ble_eq_true rfl, Nat.le_of_ble_eq_true rfl⟩ hP hD hS hA [0] [] rfl rfl (by decide) (fun _ => rfl) 0 rfl rfl rfl hl.1 rfl (Nat.le_of_ble_eq_true rfl) dX12_readSide_6 ⟨rfl, rfl⟩ ⟨Nat.le_of_ble_eq_true rfl, Nat.le_of_ble_eq_true rfl⟩ (fun _ H locs hP hD hS => ?_)
  refine lv_istore_n (lv' := [(2, .int 0), (1, .int 0), (0, .ref h0)]) hx hb dX12_readSide_9 rfl hl (by decide) rfl (fun ls hl => ?_)
  refine lv_aload_n hx hb dX12_readSide_10 rfl (lv_at hl 2 rfl) ?_
  refine x_Vi (rest := []) (ws' := fun _ => [(h0, .inr (12, [v0_0, v0_1, v0_2, v0_3, v0_4, v0_5, v0_6, .int 1, v0_8, v0_9, .int 0, v0_11, v0_12, v0_13, v0_14, v0_15, v0_16, v0_17, v0_18, v0_19, v0_20, v0_21, v0_22, v0_23, v0_24, v0_25, v0_26, v0_27, v0_28, v0_29, v0_30, v0_31, v0_32, .int 0, v0_34, v0_35, v0_36, v0_37, v0_38, v0_39, v0_40, v0_41, v0_42, v0_43, v0_44, v0_45, v0_46, v0_47, v0_48, v0_49, v0_50, v0_51, v0_52, v0_53, v0_54, v0_55, v0_56, v0_57, v0_58, v0_59, v0_60, v0_61, v0_62, v0_63, v0_64]))]) (wr := []) E (mX12_beginsPiece l D cyI cyJ Z h0 v0_0 v0_1 v0_2 v0_3 v0_4 v0_5 v0_6 v0_8 v0_9 (.int 0) v0_11 v0_12 v0_13 v0_14 v0_15 v0_16 v0_17 v0_18 v0_19 v0_20 v0_21 v0_22 v0_23 v0_24 v0_25 v0_26 v0_27 v0_28 v0_29 v0_30 v0_31 v0_32 (.int 0) v0_34 v0_35 v0_36 v0_37 v0_38 v0_39 v0_40 v0_41 v0_42 v0_43 v0_44 v0_45 v0_46 v0_47 v0_48 v0_49 v0_50 v0_51 v0_52 v0_53 v0_54 v0_55 v0_56 v0_57 v0_58 v0_59 v0_60 v0_61 v0_62 v0_63 v0_64) kX12_beginsPiece wq374 wq375 wq376 ⟨rfl, rfl, Nat.le_of_ble_eq_true rfl, Nat.le_of_ble_eq_true rfl⟩ hP hD hS hA [0] [] rfl rfl (by decide) (fun _ => rfl) 0 rfl rfl rfl hl.1 rfl (Nat.le_of_ble_eq_true rfl) dX12_readSide_11 ⟨rfl, rfl⟩ ⟨Nat.le_of_ble_eq_true rfl, Nat.le_of_ble_eq_true rfl⟩ (fun _ H locs hP hD hS => ?_)
  refine lv_if_eq (tgt := 92) hx hb dX12_readSide_14 (by decide) (fun c9 => ?_) (fun c9 => absurd (by decide) c9)
  refine lv_iload_n hx hb dX12_readSide_92 rfl (lv_at hl 0 rfl) ?_
  exact x_iret E hr hlk hP hD hS () rfl [0] (by decide) rfl rfl dX12_readSide_93

set_option maxHeartbeats 4000000 in
set_option maxRecDepth 100000 in
theorem mX12_readPieces_1 (l : Launch) (D : va_G) (cyI cyJ : ClassId) (Z : xZ) (h0 : Nat) (v0_0 : Value) (v0_1 : Value) (v0_2 : Value) (v0_3 : Value) (v0_4 : Value) (v0_5 : Value) (v0_6 : Value) (v0_8 : Value) (v0_9 : Value) (v0_11 : Value) (v0_12 : Value) (v0_13 : Value) (v0_14 : Value) (v0_15 : Value) (v0_16 : Value) (v0_17 : Value) (v0_18 : Value) (v0_19 : Value) (v0_20 : Value) (v0_21 : Value) (v0_22 : Value) (v0_23 : Value) (v0_24 : Value) (v0_25 : Value) (v0_26 : Value) (v0_27 : Value) (v0_28 : Value) (v0_29 : Value) (v0_30 : Value) (v0_31 : Value) (v0_32 : Value) (v0_34 : Value) (v0_35 : Value) (v0_36 : Value) (v0_37 : Value) (v0_38 : Value) (v0_39 : Value) (v0_40 : Value) (v0_41 : Value) (v0_42 : Value) (v0_43 : Value) (v0_44 : Value) (v0_45 : Value) (v0_46 : Value) (v0_47 : Value) (v0_48 : Value) (v0_49 : Value) (v0_50 : Value) (v0_51 : Value) (v0_52 : Value) (v0_53 : Value) (v0_54 : Value) (v0_55 : Value) (v0_56 : Value) (v0_57 : Value) (v0_58 : Value) (v0_59 : Value) (v0_60 : Value) (v0_61 : Value) (v0_62 : Value) (v0_63 : Value) (v0_64 : Value) : MetI l yX12_readPieces (Cond.code yX12_readPieces cX12_readPieces 5 (some .int)) { frames := 4, cells := 0, slots := 0, locals := 88 } D cyI cyJ Z [.ref h0] [(h0, .inr (12, [v0_0, v0_1, v0_2, v0_3, v0_4, v0_5, v0_6, .int 1, v0_8, v0_9, .int 0, v0_11, v0_12, v0_13, v0_14, v0_15, v0_16, v0_17, v0_18, v0_19, v0_20, v0_21, v0_22, v0_23, v0_24, v0_25, v0_26, v0_27, v0_28, v0_29, v0_30, v0_31, v0_32, .int 0, v0_34, v0_35, v0_36, v0_37, v0_38, v0_39, v0_40, v0_41, v0_42, v0_43, v0_44, v0_45, v0_46, v0_47, v0_48, v0_49, v0_50, v0_51, v0_52, v0_53, v0_54, v0_55, v0_56, v0_57, v0_58, v0_59, v0_60, v0_61, v0_62, v0_63, v0_64]))] (fun _ : Unit => 0) (fun _ : Unit => ([(h0, .inr (12, [v0_0, v0_1, v0_2, v0_3, v0_4, v0_5, v0_6, .int 1, v0_8, v0_9, .int 0, v0_11, v0_12, v0_13, v0_14, v0_15, v0_16, v0_17, v0_18, v0_19, v0_20, v0_21, v0_22, v0_23, v0_24, v0_25, v0_26, v0_27, v0_28, v0_29, v0_30, v0_31, v0_32, .int 0, v0_34, v0_35, v0_36, v0_37, v0_38, v0_39, v0_40, v0_41, v0_42, v0_43, v0_44, v0_45, v0_46, v0_47, v0_48, v0_49, v0_50, v0_51, v0_52, v0_53, v0_54, v0_55, v0_56, v0_57, v0_58, v0_59, v0_60, v0_61, v0_62, v0_63, v0_64]))] : va_W)) 0 0 := by
  refine met_i (by decide) rfl ?_
  intro p e s m below meth c A ls E hr hlk hP hD hA hl
  have hS : va_S A s.heap s.heap [] := va_S.rf
  have hx := E.1.1
  have hb := E.1.2.1
  have hl : lv_has ls 5 [(0, .ref h0)] := hl
  refine lv_aload_n hx hb dX12_readPieces_0 rfl (lv_at hl 0 rfl) ?_
  refine x_get E iX12 hP 0 rfl rfl 33 (by decide) wq302 rfl dX12_readPieces_1 ?_
  refine lv_istore_n (lv' := [(1, .int 0), (0, .ref h0)]) hx hb dX12_readPieces_4 rfl hl (by decide) rfl (fun ls hl => ?_)
  refine lv_aload_n hx hb dX12_readPieces_5 rfl (lv_at hl 1 rfl) ?_
  refine x_Vi (rest := []) (ws' := fun _ => [(h0, .inr (12, [v0_0, v0_1, v0_2, v0_3, v0_4, v0_5, v0_6, .int 1, v0_8, v0_9, .int 0, v0_11, v0_12, v0_13, v0_14, v0_15, v0_16, v0_17, v0_18, v0_19, v0_20, v0_21, v0_22, v0_23, v0_24, v0_25, v0_26, v0_27, v0_28, v0_29, v0_30, v0_31, v0_32, .int 0, v0_34, v0_35, v0_36, v0_37, v0_38, v0_39, v0_40, v0_41, v0_42, v0_43, v0_44, v0_45, v0_46, v0_47, v0_48, v0_49, v0_50, v0_51, v0_52, v0_53, v0_54, v0_55, v0_56, v0_57, v0_58, v0_59, v0_60, v0_61, v0_62, v0_63, v0_64]))]) (wr := []) E (mX12_readSide_1 l D cyI cyJ Z h0 v0_0 v0_1 v0_2 v0_3 v0_4 v0_5 v0_6 v0_8 v0_9 v0_11 v0_12 v0_13 v0_14 v0_15 v0_16 v0_17 v0_18 v0_19 v0_20 v0_21 v0_22 v0_23 v0_24 v0_25 v0_26 v0_27 v0_28 v0_29 v0_30 v0_31 v0_32 v0_34 v0_35 v0_36 v0_37 v0_38 v0_39 v0_40 v0_41 v0_42 v0_43 v0_44 v0_45 v0_46 v0_47 v0_48 v0_49 v0_50 v0_51 v0_52 v0_53 v0_54 v0_55 v0_56 v0_57 v0_58 v0_59 v0_60 v0_61 v0_62 v0_63 v0_64) kX12_readSide wq377 wq378 wq379 ⟨rfl, rfl, Nat.le_of_ble_eq_true rfl, Nat.le_of_ble_eq_true rfl⟩ hP hD hS hA [0] [] rfl rfl (by decide) (fun _ => rfl) 0 rfl rfl rfl hl.1 rfl (Nat.le_of_ble_eq_true rfl) dX12_readPieces_6 ⟨rfl, rfl⟩ ⟨Nat.le_of_ble_eq_true rfl, Nat.le_of_ble_eq_true rfl⟩ (fun _ H locs hP hD hS => ?_)
  refine lv_istore_n (lv' := [(2, .int 0), (1, .int 0), (0, .ref h0)]) hx hb dX12_readPieces_9 rfl hl (by decide) rfl (fun ls hl => ?_)
  refine lv_aload_n hx hb dX12_readPieces_10 rfl (lv_at hl 2 rfl) ?_
  refine lv_bipush (v := 61) hx hb dX12_readPieces_11 (by decide) ?_
  refine x_Vi (rest := []) (ws' := fun _ => [(h0, .inr (12, [v0_0, v0_1, v0_2, v0_3, v0_4, v0_5, v0_6, .int 1, v0_8, v0_9, .int 0, v0_11, v0_12, v0_13, v0_14, v0_15, v0_16, v0_17, v0_18, v0_19, v0_20, v0_21, v0_22, v0_23, v0_24, v0_25, v0_26, v0_27, v0_28, v0_29, v0_30, v0_31, v0_32, .int 0, v0_34, v0_35, v0_36, v0_37, v0_38, v0_39, v0_40, v0_41, v0_42, v0_43, v0_44, v0_45, v0_46, v0_47, v0_48, v0_49, v0_50, v0_51, v0_52, v0_53, v0_54, v0_55, v0_56, v0_57, v0_58, v0_59, v0_60, v0_61, v0_62, v0_63, v0_64]))]) (wr := []) E (mX12_isSign_5 l D cyI cyJ Z h0 v0_0 v0_1 v0_2 v0_3 v0_4 v0_5 v0_6 v0_8 v0_9 (.int 0) v0_11 v0_12 v0_13 v0_14 v0_15 v0_16 v0_17 v0_18 v0_19 v0_20 v0_21 v0_22 v0_23 v0_24 v0_25 v0_26 v0_27 v0_28 v0_29 v0_30 v0_31 v0_32 (.int 0) v0_34 v0_35 v0_36 v0_37 v0_38 v0_39 v0_40 v0_41 v0_42 v0_43 v0_44 v0_45 v0_46 v0_47 v0_48 v0_49 v0_50 v0_51 v0_52 v0_53 v0_54 v0_55 v0_56 v0_57 v0_58 v0_59 v0_60 v0_61 v0_62 v0_63 v0_64) kX12_isSign wq325 wq326 wq327 ⟨rfl, rfl, Nat.le_of_ble_eq_true rfl, Nat.le_of_ble_eq_true rfl⟩ hP hD hS hA [0] [] rfl rfl (by decide) (fun _ => rfl) 0 rfl rfl rfl hl.1 rfl (Nat.le_of_ble_eq_true rfl) dX12_readPieces_13 ⟨rfl, rfl⟩ ⟨Nat.le_of_ble_eq_true rfl, Nat.le_of_ble_eq_true rfl⟩ (fun _ H locs hP hD hS => ?_)
  refine lv_if_ne (tgt := 21) hx hb dX12_readPieces_16 (by decide) (fun c9 => absurd (by decide) c9) (fun c9 => ?_)
  refine lv_iload_n hx hb dX12_readPieces_19 rfl (lv_at hl 0 rfl) ?_
  exact x_iret E hr hlk hP hD hS () rfl [0] (by decide) rfl rfl dX12_readPieces_20

set_option maxHeartbeats 4000000 in
set_option maxRecDepth 100000 in
theorem mX12_readTerm_1 (l : Launch) (D : va_G) (cyI cyJ : ClassId) (Z : xZ) (h0 : Nat) (v0_0 : Value) (v0_1 : Value) (v0_2 : Value) (v0_3 : Value) (v0_4 : Value) (v0_5 : Value) (v0_6 : Value) (v0_8 : Value) (v0_9 : Value) (v0_11 : Value) (v0_12 : Value) (v0_13 : Value) (v0_14 : Value) (v0_15 : Value) (v0_16 : Value) (v0_17 : Value) (v0_18 : Value) (v0_19 : Value) (v0_20 : Value) (v0_21 : Value) (v0_22 : Value) (v0_23 : Value) (v0_24 : Value) (v0_25 : Value) (v0_26 : Value) (v0_27 : Value) (v0_28 : Value) (v0_29 : Value) (v0_30 : Value) (v0_31 : Value) (v0_32 : Value) (v0_33 : Value) (v0_34 : Value) (v0_35 : Value) (v0_36 : Value) (v0_37 : Value) (v0_38 : Value) (v0_39 : Value) (v0_40 : Value) (v0_41 : Value) (v0_42 : Value) (v0_43 : Value) (v0_44 : Value) (v0_45 : Value) (v0_46 : Value) (v0_47 : Value) (v0_48 : Value) (v0_49 : Value) (v0_50 : Value) (v0_51 : Value) (v0_52 : Value) (v0_53 : Value) (v0_54 : Value) (v0_55 : Value) (v0_56 : Value) (v0_57 : Value) (v0_58 : Value) (v0_59 : Value) (v0_60 : Value) (v0_61 : Value) (v0_62 : Value) (v0_63 : Value) (v0_64 : Value) : MetI l yX12_readTerm (Cond.code yX12_readTerm cX12_readTerm 5 (some .int)) { frames := 5, cells := 0, slots := 0, locals := 112 } D cyI cyJ Z [.ref h0, .int 299520, .int 0] [(h0, .inr (12, [v0_0, v0_1, v0_2, v0_3, v0_4, v0_5, v0_6, .int 1, v0_8, v0_9, .int 0, v0_11, v0_12, v0_13, v0_14, v0_15, v0_16, v0_17, v0_18, v0_19, v0_20, v0_21, v0_22, v0_23, v0_24, v0_25, v0_26, v0_27, v0_28, v0_29, v0_30, v0_31, v0_32, v0_33, v0_34, v0_35, v0_36, v0_37, v0_38, v0_39, v0_40, v0_41, v0_42, v0_43, v0_44, v0_45, v0_46, v0_47, v0_48, v0_49, v0_50, v0_51, v0_52, v0_53, v0_54, v0_55, v0_56, v0_57, v0_58, v0_59, v0_60, v0_61, v0_62, v0_63, v0_64]))] (fun _ : Unit => 0) (fun _ : Unit => ([(h0, .inr (12, [v0_0, v0_1, v0_2, v0_3, v0_4, v0_5, v0_6, .int 1, v0_8, v0_9, .int 0, v0_11, v0_12, v0_13, v0_14, v0_15, v0_16, v0_17, v0_18, v0_19, v0_20, v0_21, v0_22, v0_23, v0_24, v0_25, v0_26, v0_27, v0_28, v0_29, v0_30, v0_31, v0_32, .int 0, .int 0, .int 0, v0_36, v0_37, v0_38, v0_39, v0_40, v0_41, v0_42, v0_43, v0_44, v0_45, v0_46, v0_47, v0_48, v0_49, v0_50, v0_51, v0_52, v0_53, v0_54, v0_55, v0_56, v0_57, v0_58, v0_59, v0_60, v0_61, v0_62, v0_63, v0_64]))] : va_W)) 0 0 := by
  refine met_i (by decide) rfl ?_
  intro p e s m below meth c A ls E hr hlk hP hD hA hl
  have hS : va_S A s.heap s.heap [] := va_S.rf
  have hx := E.1.1
  have hb := E.1.2.1
  have hl : lv_has ls 5 [(0, .ref h0), (1, .int 299520), (2, .int 0)] := hl
  refine lv_aload_n hx hb dX12_readTerm_0 rfl (lv_at hl 0 rfl) ?_
  refine lv_iconst (v := 0) hx hb dX12_readTerm_1 (by decide) ?_
  refine x_put (ws' := [(h0, .inr (12, [v0_0, v0_1, v0_2, v0_3, v0_4, v0_5, v0_6, .int 1, v0_8, v0_9, .int 0, v0_11, v0_12, v0_13, v0_14, v0_15, v0_16, v0_17, v0_18, v0_19, v0_20, v0_21, v0_22, v0_23, v0_24, v0_25, v0_26, v0_27, v0_28, v0_29, v0_30, v0_31, v0_32, .int 0, v0_34, v0_35, v0_36, v0_37, v0_38, v0_39, v0_40, v0_41, v0_42, v0_43, v0_44, v0_45, v0_46, v0_47, v0_48, v0_49, v0_50, v0_51, v0_52, v0_53, v0_54, v0_55, v0_56, v0_57, v0_58, v0_59, v0_60, v0_61, v0_62, v0_63, v0_64]))]) E iX12 tyX12 tyX12_ok nmX12 hP hD hS 0 rfl rfl 33 (by decide) wq302 rfl rfl rfl rfl rfl dX12_readTerm_2 (fun H locs hP hD hS => ?_)
  refine lv_aload_n hx hb dX12_readTerm_5 rfl (lv_at hl 0 rfl) ?_
  refine lv_iconst (v := 0) hx hb dX12_readTerm_6 (by decide) ?_
  refine x_put (ws' := [(h0, .inr (12, [v0_0, v0_1, v0_2, v0_3, v0_4, v0_5, v0_6, .int 1, v0_8, v0_9, .int 0, v0_11, v0_12, v0_13, v0_14, v0_15, v0_16, v0_17, v0_18, v0_19, v0_20, v0_21, v0_22, v0_23, v0_24, v0_25, v0_26, v0_27, v0_28, v0_29, v0_30, v0_31, v0_32, .int 0, .int 0, v0_35, v0_36, v0_37, v0_38, v0_39, v0_40, v0_41, v0_42, v0_43, v0_44, v0_45, v0_46, v0_47, v0_48, v0_49, v0_50, v0_51, v0_52, v0_53, v0_54, v0_55, v0_56, v0_57, v0_58, v0_59, v0_60, v0_61, v0_62, v0_63, v0_64]))]) E iX12 tyX12 tyX12_ok nmX12 hP hD hS 0 rfl rfl 34 (by decide) wq303 rfl rfl rfl rfl rfl dX12_readTerm_7 (fun H locs hP hD hS => ?_)
  refine lv_aload_n hx hb dX12_readTerm_10 rfl (lv_at hl 0 rfl) ?_
  refine lv_aload_n hx hb dX12_readTerm_11 rfl (lv_at hl 0 rfl) ?_
  refine x_get E iX12 hP 0 rfl rfl 10 (by decide) wq304 rfl dX12_readTerm_12 ?_
  refine x_put (ws' := [(h0, .inr (12, [v0_0, v0_1, v0_2, v0_3, v0_4, v0_5, v0_6, .int 1, v0_8, v0_9, .int 0, v0_11, v0_12, v0_13, v0_14, v0_15, v0_16, v0_17, v0_18, v0_19, v0_20, v0_21, v0_22, v0_23, v0_24, v0_25, v0_26, v0_27, v0_28, v0_29, v0_30, v0_31, v0_32, .int 0, .int 0, .int 0, v0_36, v0_37, v0_38, v0_39, v0_40, v0_41, v0_42, v0_43, v0_44, v0_45, v0_46, v0_47, v0_48, v0_49, v0_50, v0_51, v0_52, v0_53, v0_54, v0_55, v0_56, v0_57, v0_58, v0_59, v0_60, v0_61, v0_62, v0_63, v0_64]))]) E iX12 tyX12 tyX12_ok nmX12 hP hD hS 0 rfl rfl 35 (by decide) wq367 rfl rfl rfl rfl rfl dX12_readTerm_15 (fun H locs hP hD hS => ?_)
  refine lv_aload_n hx hb dX12_readTerm_18 rfl (lv_at hl 0 rfl) ?_
  refine x_Vi (rest := []) (ws' := fun _ => [(h0, .inr (12, [v0_0, v0_1, v0_2, v0_3, v0_4, v0_5, v0_6, .int 1, v0_8, v0_9, .int 0, v0_11, v0_12, v0_13, v0_14, v0_15, v0_16, v0_17, v0_18, v0_19, v0_20, v0_21, v0_22, v0_23, v0_24, v0_25, v0_26, v0_27, v0_28, v0_29, v0_30, v0_31, v0_32, .int 0, .int 0, .int 0, v0_36, v0_37, v0_38, v0_39, v0_40, v0_41, v0_42, v0_43, v0_44, v0_45, v0_46, v0_47, v0_48, v0_49, v0_50, v0_51, v0_52, v0_53, v0_54, v0_55, v0_56, v0_57, v0_58, v0_59, v0_60, v0_61, v0_62, v0_63, v0_64]))]) (wr := []) E (mX12_readPieces_1 l D cyI cyJ Z h0 v0_0 v0_1 v0_2 v0_3 v0_4 v0_5 v0_6 v0_8 v0_9 v0_11 v0_12 v0_13 v0_14 v0_15 v0_16 v0_17 v0_18 v0_19 v0_20 v0_21 v0_22 v0_23 v0_24 v0_25 v0_26 v0_27 v0_28 v0_29 v0_30 v0_31 v0_32 (.int 0) (.int 0) v0_36 v0_37 v0_38 v0_39 v0_40 v0_41 v0_42 v0_43 v0_44 v0_45 v0_46 v0_47 v0_48 v0_49 v0_50 v0_51 v0_52 v0_53 v0_54 v0_55 v0_56 v0_57 v0_58 v0_59 v0_60 v0_61 v0_62 v0_63 v0_64) kX12_readPieces wq380 wq381 wq382 ⟨rfl, rfl, Nat.le_of_ble_eq_true rfl, Nat.le_of_ble_eq_true rfl⟩ hP hD hS hA [0] [] rfl rfl (by decide) (fun _ => rfl) 0 rfl rfl rfl hl.1 rfl (Nat.le_of_ble_eq_true rfl) dX12_readTerm_19 ⟨rfl, rfl⟩ ⟨Nat.le_of_ble_eq_true rfl, Nat.le_of_ble_eq_true rfl⟩ (fun _ H locs hP hD hS => ?_)
  refine lv_istore_n (lv' := [(3, .int 0), (0, .ref h0), (1, .int 299520), (2, .int 0)]) hx hb dX12_readTerm_22 rfl hl (by decide) rfl (fun ls hl => ?_)
  refine lv_iload_n hx hb dX12_readTerm_23 rfl (lv_at hl 3 rfl) ?_
  refine lv_iconst (v := 1) hx hb dX12_readTerm_24 (by decide) ?_
  refine lv_icmp_ne (tgt := 32) hx hb dX12_readTerm_25 (by decide) (fun c9 => ?_) (fun c9 => absurd c9 (by decide))
  refine lv_iload_n hx hb dX12_readTerm_32 rfl (lv_at hl 3 rfl) ?_
  refine lv_iconst (v := 2) hx hb dX12_readTerm_33 (by decide) ?_
  refine lv_icmp_ne (tgt := 53) hx hb dX12_readTerm_34 (by decide) (fun c9 => ?_) (fun c9 => absurd c9 (by decide))
  refine lv_aload_n hx hb dX12_readTerm_53 rfl (lv_at hl 1 rfl) ?_
  refine x_get E iX12 hP 0 rfl rfl 33 (by decide) wq302 rfl dX12_readTerm_54 ?_
  refine lv_bipush (v := 100) hx hb dX12_readTerm_57 (by decide) ?_
  refine lv_icmp_le (tgt := 71) hx hb dX12_readTerm_59 (by decide) (fun c9 => ?_) (fun c9 => absurd (by decide) c9)
  refine lv_aload_n hx hb dX12_readTerm_71 rfl (lv_at hl 1 rfl) ?_
  refine x_get E iX12 hP 0 rfl rfl 7 (by decide) wq300 rfl dX12_readTerm_72 ?_
  refine lv_if_le (tgt := 80) hx hb dX12_readTerm_75 (by decide) (fun c9 => absurd c9 (by decide)) (fun c9 => ?_)
  refine lv_iconst (v := 0) hx hb dX12_readTerm_78 (by decide) ?_
  exact x_iret E hr hlk hP hD hS () rfl [0] (by decide) rfl rfl dX12_readTerm_79

set_option maxHeartbeats 4000000 in
set_option maxRecDepth 100000 in
theorem mX12_convert (l : Launch) (D : va_G) (cyI cyJ : ClassId) (Z : xZ) (h0 : Nat) (h1 : Nat) (v0_0 : Value) (v0_1 : Value) (v0_2 : Value) (v0_3 : Value) (v0_5 : Value) (v0_6 : Value) (v0_7 : Value) (v0_8 : Value) (v0_9 : Value) (v0_10 : Value) (v0_11 : Value) (v0_12 : Value) (v0_13 : Value) (v0_14 : Value) (v0_15 : Value) (v0_16 : Value) (v0_17 : Value) (v0_18 : Value) (v0_19 : Value) (v0_20 : Value) (v0_21 : Value) (v0_22 : Value) (v0_23 : Value) (v0_24 : Value) (v0_25 : Value) (v0_26 : Value) (v0_27 : Value) (v0_28 : Value) (v0_29 : Value) (v0_30 : Value) (v0_31 : Value) (v0_32 : Value) (v0_33 : Value) (v0_34 : Value) (v0_35 : Value) (v0_36 : Value) (v0_37 : Value) (v0_38 : Value) (v0_39 : Value) (v0_40 : Value) (v0_41 : Value) (v0_42 : Value) (v0_43 : Value) (v0_44 : Value) (v0_45 : Value) (v0_46 : Value) (v0_47 : Value) (v0_48 : Value) (v0_50 : Value) (v0_51 : Value) (v0_52 : Value) (v0_53 : Value) (v0_54 : Value) (v0_55 : Value) (v0_56 : Value) (v0_57 : Value) (v0_58 : Value) (v0_59 : Value) (v0_60 : Value) (v0_61 : Value) (v0_62 : Value) (v0_63 : Value) (v0_64 : Value) (f1 : Nat → Int32) : MetI l yX12_convert (Cond.code yX12_convert cX12_convert 4 (some .int)) { frames := 6, cells := 0, slots := 0, locals := 136 } D cyI cyJ Z [.ref h0, .int 0] [(h0, .inr (12, [v0_0, v0_1, v0_2, v0_3, .int 0, v0_5, v0_6, v0_7, v0_8, v0_9, v0_10, v0_11, v0_12, v0_13, v0_14, v0_15, v0_16, v0_17, v0_18, v0_19, v0_20, v0_21, v0_22, v0_23, v0_24, v0_25, v0_26, v0_27, v0_28, v0_29, v0_30, v0_31, v0_32, v0_33, v0_34, v0_35, v0_36, v0_37, v0_38, v0_39, v0_40, v0_41, v0_42, v0_43, v0_44, v0_45, v0_46, v0_47, v0_48, .ref h1, v0_50, v0_51, v0_52, v0_53, v0_54, v0_55, v0_56, v0_57, v0_58, v0_59, v0_60, v0_61, v0_62, v0_63, v0_64])), (h1, .inl (cyI, 10, .inl f1))] (fun _ : Unit => (-1)) (fun _ : Unit => ([] : va_W)) 0 0 := by
  refine met_i (by decide) rfl ?_
  intro p e s m below meth c A ls E hr hlk hP hD hA hl
  have hS : va_S A s.heap s.heap [] := va_S.rf
  have hx := E.1.1
  have hb := E.1.2.1
  have hl : lv_has ls 4 [(0, .ref h0), (1, .int 0)] := hl
  refine lv_aload_n hx hb dX12_convert_0 rfl (lv_at hl 0 rfl) ?_
  refine lv_iconst (v := 0) hx hb dX12_convert_1 (by decide) ?_
  refine x_put (ws' := [(h0, .inr (12, [.int 0, v0_1, v0_2, v0_3, .int 0, v0_5, v0_6, v0_7, v0_8, v0_9, v0_10, v0_11, v0_12, v0_13, v0_14, v0_15, v0_16, v0_17, v0_18, v0_19, v0_20, v0_21, v0_22, v0_23, v0_24, v0_25, v0_26, v0_27, v0_28, v0_29, v0_30, v0_31, v0_32, v0_33, v0_34, v0_35, v0_36, v0_37, v0_38, v0_39, v0_40, v0_41, v0_42, v0_43, v0_44, v0_45, v0_46, v0_47, v0_48, .ref h1, v0_50, v0_51, v0_52, v0_53, v0_54, v0_55, v0_56, v0_57, v0_58, v0_59, v0_60, v0_61, v0_62, v0_63, v0_64])), (h1, .inl (cyI, 10, .inl f1))]) E iX12 tyX12 tyX12_ok nmX12 hP hD hS 0 rfl rfl 0 (by decide) wq202 rfl rfl rfl rfl rfl dX12_convert_2 (fun H locs hP hD hS => ?_)
  refine lv_aload_n hx hb dX12_convert_5 rfl (lv_at hl 0 rfl) ?_
  refine lv_iload_n hx hb dX12_convert_6 rfl (lv_at hl 1 rfl) ?_
  refine x_Vi (rest := []) (ws' := fun _ => [(h1, .inl (cyI, 10, .inl f1)), (h0, .inr (12, [.int 0, v0_1, v0_2, v0_3, .int 0, v0_5, v0_6, v0_7, v0_8, v0_9, v0_10, v0_11, v0_12, v0_13, v0_14, v0_15, v0_16, v0_17, v0_18, v0_19, v0_20, v0_21, v0_22, v0_23, v0_24, v0_25, v0_26, v0_27, v0_28, v0_29, v0_30, v0_31, v0_32, v0_33, v0_34, v0_35, v0_36, v0_37, v0_38, v0_39, v0_40, v0_41, v0_42, v0_43, v0_44, v0_45, v0_46, v0_47, v0_48, .ref h1, v0_50, v0_51, v0_52, v0_53, v0_54, v0_55, v0_56, v0_57, v0_58, v0_59, v0_60, v0_61, v0_62, v0_63, v0_64]))]) (wr := [(h1, .inl (cyI, 10, .inl f1))]) E (mX12_isLong l D cyI cyJ Z h0 (.int 0) v0_1 v0_2 v0_3 v0_5 v0_6 v0_7 v0_8 v0_9 v0_10 v0_11 v0_12 v0_13 v0_14 v0_15 v0_16 v0_17 v0_18 v0_19 v0_20 v0_21 v0_22 v0_23 v0_24 v0_25 v0_26 v0_27 v0_28 v0_29 v0_30 v0_31 v0_32 v0_33 v0_34 v0_35 v0_36 v0_37 v0_38 v0_39 v0_40 v0_41 v0_42 v0_43 v0_44 v0_45 v0_46 v0_47 v0_48 (.ref h1) v0_50 v0_51 v0_52 v0_53 v0_54 v0_55 v0_56 v0_57 v0_58 v0_59 v0_60 v0_61 v0_62 v0_63 v0_64) kX12_isLong wq285 wq286 wq287 ⟨rfl, rfl, Nat.le_of_ble_eq_true rfl, Nat.le_of_ble_eq_true rfl⟩ hP hD hS hA [0] [1] rfl rfl (by decide) (fun _ => rfl) 0 rfl rfl rfl hl.1 rfl (Nat.le_of_ble_eq_true rfl) dX12_convert_7 ⟨rfl, rfl⟩ ⟨Nat.le_of_ble_eq_true rfl, Nat.le_of_ble_eq_true rfl⟩ (fun _ H locs hP hD hS => ?_)
  refine lv_if_eq (tgt := 19) hx hb dX12_convert_10 (by decide) (fun c9 => ?_) (fun c9 => absurd (by decide) c9)
  refine lv_aload_n hx hb dX12_convert_19 rfl (lv_at hl 0 rfl) ?_
  refine x_Vv (rest := []) (ws' := fun u1 => [(h0, .inr (12, [.int 0, v0_1, v0_2, v0_3, .int 0, v0_5, v0_6, v0_7, v0_8, v0_9, v0_10, v0_11, v0_12, v0_13, v0_14, v0_15, v0_16, v0_17, v0_18, v0_19, v0_20, v0_21, v0_22, v0_23, v0_24, v0_25, v0_26, v0_27, v0_28, .int 0, v0_30, v0_31, v0_32, v0_33, v0_34, v0_35, v0_36, v0_37, v0_38, v0_39, v0_40, .int 60, .int 0, v0_43, v0_44, v0_45, v0_46, v0_47, v0_48, .ref h1, v0_50, .int 0, .int 0, v0_53, v0_54, v0_55, v0_56, v0_57, v0_58, v0_59, v0_60, v0_61, v0_62, v0_63, v0_64])), (h1, .inl (cyI, 10, .inl (u1.2 0)))]) (wr := []) E (mX12_beginsRules l D cyI cyJ Z h0 h1 (.int 0) v0_1 v0_2 v0_3 (.int 0) v0_5 v0_6 v0_7 v0_8 v0_9 v0_10 v0_11 v0_12 v0_13 v0_14 v0_15 v0_16 v0_17 v0_18 v0_19 v0_20 v0_21 v0_22 v0_23 v0_24 v0_25 v0_26 v0_27 v0_28 v0_29 v0_30 v0_31 v0_32 v0_33 v0_34 v0_35 v0_36 v0_37 v0_38 v0_39 v0_40 v0_41 v0_42 v0_43 v0_44 v0_45 v0_46 v0_47 v0_48 v0_50 v0_51 v0_52 v0_53 v0_54 v0_55 v0_56 v0_57 v0_58 v0_59 v0_60 v0_61 v0_62 v0_63 v0_64 f1) kX12_beginsRules wq295 wq296 wq297 ⟨rfl, rfl, Nat.le_of_ble_eq_true rfl, Nat.le_of_ble_eq_true rfl⟩ hP hD hS hA [1, 0] [] rfl rfl (by decide) (fun _ => rfl) 1 rfl rfl rfl hl.1 rfl (Nat.le_of_ble_eq_true rfl) dX12_convert_20 ⟨rfl, rfl⟩ ⟨Nat.le_of_ble_eq_true rfl, Nat.le_of_ble_eq_true rfl⟩ (fun u1 H locs hP hD hS => ?_)
  refine lv_aload_n hx hb dX12_convert_23 rfl (lv_at hl 0 rfl) ?_
  refine lv_iconst (v := 0) hx hb dX12_convert_24 (by decide) ?_
  refine x_put (ws' := [(h0, .inr (12, [.int 0, v0_1, v0_2, v0_3, .int 0, v0_5, v0_6, v0_7, v0_8, v0_9, v0_10, v0_11, v0_12, v0_13, v0_14, v0_15, v0_16, v0_17, v0_18, v0_19, v0_20, v0_21, v0_22, v0_23, v0_24, v0_25, v0_26, v0_27, v0_28, .int 0, v0_30, v0_31, v0_32, v0_33, v0_34, v0_35, v0_36, v0_37, v0_38, v0_39, v0_40, .int 60, .int 0, v0_43, v0_44, v0_45, v0_46, v0_47, v0_48, .ref h1, v0_50, .int 0, .int 0, v0_53, v0_54, v0_55, v0_56, v0_57, .int 0, v0_59, v0_60, v0_61, v0_62, v0_63, v0_64])), (h1, .inl (cyI, 10, .inl (u1.2 0)))]) E iX12 tyX12 tyX12_ok nmX12 hP hD hS 0 rfl rfl 58 (by decide) wq409 rfl rfl rfl rfl rfl dX12_convert_25 (fun H locs hP hD hS => ?_)
  refine lv_aload_n hx hb dX12_convert_28 rfl (lv_at hl 0 rfl) ?_
  refine lv_iload_n hx hb dX12_convert_29 rfl (lv_at hl 1 rfl) ?_
  refine x_Vv (rest := []) (ws' := fun _ => [(h1, .inl (cyI, 10, .inl (u1.2 0))), (h0, .inr (12, [.int 0, v0_1, v0_2, v0_3, .int 0, .int 0, .int 0, .int 0, v0_8, .int 1, .int 0, v0_11, v0_12, .int 0, v0_14, v0_15, v0_16, v0_17, v0_18, v0_19, v0_20, v0_21, v0_22, v0_23, v0_24, v0_25, v0_26, v0_27, v0_28, .int 0, v0_30, v0_31, v0_32, .int 0, .int 0, v0_35, v0_36, v0_37, v0_38, v0_39, v0_40, .int 60, .int 0, v0_43, v0_44, v0_45, v0_46, v0_47, v0_48, .ref h1, v0_50, .int 0, .int 0, v0_53, v0_54, v0_55, v0_56, v0_57, .int 0, v0_59, v0_60, v0_61, v0_62, v0_63, v0_64]))]) (wr := [(h1, .inl (cyI, 10, .inl (u1.2 0)))]) E (mX12_begins l D cyI cyJ Z h0 (.int 0) v0_1 v0_2 v0_3 (.int 0) v0_5 v0_6 v0_7 v0_8 v0_9 v0_10 v0_11 v0_12 v0_13 v0_14 v0_15 v0_16 v0_17 v0_18 v0_19 v0_20 v0_21 v0_22 v0_23 v0_24 v0_25 v0_26 v0_27 v0_28 (.int 0) v0_30 v0_31 v0_32 v0_33 v0_34 v0_35 v0_36 v0_37 v0_38 v0_39 v0_40 (.int 60) (.int 0) v0_43 v0_44 v0_45 v0_46 v0_47 v0_48 (.ref h1) v0_50 (.int 0) (.int 0) v0_53 v0_54 v0_55 v0_56 v0_57 (.int 0) v0_59 v0_60 v0_61 v0_62 v0_63 v0_64) kX12_begins wq309 wq310 wq311 ⟨rfl, rfl, Nat.le_of_ble_eq_true rfl, Nat.le_of_ble_eq_true rfl⟩ hP hD hS hA [0] [1] rfl rfl (by decide) (fun _ => rfl) 0 rfl rfl rfl hl.1 rfl (Nat.le_of_ble_eq_true rfl) dX12_convert_30 ⟨rfl, rfl⟩ ⟨Nat.le_of_ble_eq_true rfl, Nat.le_of_ble_eq_true rfl⟩ (fun _ H locs hP hD hS => ?_)
  refine lv_aload_n hx hb dX12_convert_33 rfl (lv_at hl 0 rfl) ?_
  refine x_Vi (rest := []) (ws' := fun _ => [(h1, .inl (cyI, 10, .inl (u1.2 0))), (h0, .inr (12, [.int 0, v0_1, v0_2, v0_3, .int 0, .int 0, .int 0, .int 1, .int 0, .int 1, .int 0, v0_11, v0_12, .int 0, v0_14, v0_15, v0_16, v0_17, v0_18, v0_19, v0_20, v0_21, v0_22, v0_23, v0_24, v0_25, v0_26, v0_27, v0_28, .int 0, v0_30, v0_31, v0_32, .int 0, .int 0, v0_35, v0_36, v0_37, v0_38, v0_39, v0_40, .int 60, .int 0, v0_43, v0_44, v0_45, v0_46, v0_47, v0_48, .ref h1, v0_50, .int 0, .int 0, v0_53, v0_54, v0_55, v0_56, v0_57, .int 0, v0_59, v0_60, v0_61, v0_62, v0_63, v0_64]))]) (wr := [(h1, .inl (cyI, 10, .inl (u1.2 0)))]) E (mX12_readConv l D cyI cyJ Z h0 (.int 0) v0_1 v0_2 v0_3 (.int 0) (.int 0) (.int 0) v0_8 v0_11 v0_12 (.int 0) v0_14 v0_15 v0_16 v0_17 v0_18 v0_19 v0_20 v0_21 v0_22 v0_23 v0_24 v0_25 v0_26 v0_27 v0_28 (.int 0) v0_30 v0_31 v0_32 (.int 0) (.int 0) v0_35 v0_36 v0_37 v0_38 v0_39 v0_40 (.int 60) (.int 0) v0_43 v0_44 v0_45 v0_46 v0_47 v0_48 (.ref h1) v0_50 (.int 0) (.int 0) v0_53 v0_54 v0_55 v0_56 v0_57 (.int 0) v0_59 v0_60 v0_61 v0_62 v0_63 v0_64) kX12_readConv wq419 wq420 wq421 ⟨rfl, rfl, Nat.le_of_ble_eq_true rfl, Nat.le_of_ble_eq_true rfl⟩ hP hD hS hA [1] [0] rfl rfl (by decide) (fun _ => rfl) 1 rfl rfl rfl hl.1 rfl (Nat.le_of_ble_eq_true rfl) dX12_convert_34 ⟨rfl, rfl⟩ ⟨Nat.le_of_ble_eq_true rfl, Nat.le_of_ble_eq_true rfl⟩ (fun _ H locs hP hD hS => ?_)
  refine lv_istore_n (lv' := [(2, .int 0), (0, .ref h0), (1, .int 0)]) hx hb dX12_convert_37 rfl hl (by decide) rfl (fun ls hl => ?_)
  refine lv_aload_n hx hb dX12_convert_38 rfl (lv_at hl 1 rfl) ?_
  refine lv_bipush (v := 59) hx hb dX12_convert_39 (by decide) ?_
  refine x_Vv (rest := []) (ws' := fun _ => [(h1, .inl (cyI, 10, .inl (u1.2 0))), (h0, .inr (12, [.int 0, v0_1, v0_2, v0_3, .int 0, .int 0, .int 0, .int 1, .int 0, .int 1, .int 0, v0_11, v0_12, .int 0, v0_14, v0_15, v0_16, v0_17, v0_18, v0_19, v0_20, v0_21, v0_22, v0_23, v0_24, v0_25, v0_26, v0_27, v0_28, .int 0, v0_30, v0_31, v0_32, .int 0, .int 0, v0_35, v0_36, v0_37, v0_38, v0_39, v0_40, .int 60, .int 0, v0_43, v0_44, v0_45, v0_46, v0_47, v0_48, .ref h1, v0_50, .int 0, .int 0, v0_53, v0_54, v0_55, v0_56, v0_57, .int 0, v0_59, v0_60, v0_61, v0_62, v0_63, v0_64]))]) (wr := [(h1, .inl (cyI, 10, .inl (u1.2 0)))]) E (mX12_needs l D cyI cyJ Z h0 (.int 0) v0_1 v0_2 v0_3 (.int 0) (.int 0) (.int 0) (.int 0) (.int 1) v0_11 v0_12 (.int 0) v0_14 v0_15 v0_16 v0_17 v0_18 v0_19 v0_20 v0_21 v0_22 v0_23 v0_24 v0_25 v0_26 v0_27 v0_28 (.int 0) v0_30 v0_31 v0_32 (.int 0) (.int 0) v0_35 v0_36 v0_37 v0_38 v0_39 v0_40 (.int 60) (.int 0) v0_43 v0_44 v0_45 v0_46 v0_47 v0_48 (.ref h1) v0_50 (.int 0) (.int 0) v0_53 v0_54 v0_55 v0_56 v0_57 (.int 0) v0_59 v0_60 v0_61 v0_62 v0_63 v0_64) kX12_needs wq422 wq423 wq424 ⟨rfl, rfl, Nat.le_of_ble_eq_true rfl, Nat.le_of_ble_eq_true rfl⟩ hP hD hS hA [1] [0] rfl rfl (by decide) (fun _ => rfl) 1 rfl rfl rfl hl.1 rfl (Nat.le_of_ble_eq_true rfl) dX12_convert_41 ⟨rfl, rfl⟩ ⟨Nat.le_of_ble_eq_true rfl, Nat.le_of_ble_eq_true rfl⟩ (fun _ H locs hP hD hS => ?_)
  refine lv_aload_n hx hb dX12_convert_44 rfl (lv_at hl 1 rfl) ?_
  refine lv_aload_n hx hb dX12_convert_45 rfl (lv_at hl 1 rfl) ?_
  refine x_Vi (rest := [.ref h0]) (ws' := fun _ => [(h1, .inl (cyI, 10, .inl (u1.2 0))), (h0, .inr (12, [.int 0, v0_1, v0_2, v0_3, .int 0, .int 0, .int 0, .int 1, .int 0, .int 1, .int 0, v0_11, v0_12, .int 0, v0_14, v0_15, v0_16, v0_17, v0_18, v0_19, v0_20, v0_21, v0_22, v0_23, v0_24, v0_25, v0_26, v0_27, v0_28, .int 0, v0_30, v0_31, v0_32, .int 0, .int 0, v0_35, v0_36, v0_37, v0_38, v0_39, v0_40, .int 60, .int 1, v0_43, v0_44, v0_45, v0_46, v0_47, v0_48, .ref h1, v0_50, .int 0, .int 0, v0_53, v0_54, v0_55, v0_56, v0_57, .int 0, v0_59, v0_60, v0_61, v0_62, v0_63, v0_64]))]) (wr := [(h1, .inl (cyI, 10, .inl (u1.2 0)))]) E (mX12_newReg l D cyI cyJ Z h0 (.int 0) v0_1 v0_2 v0_3 (.int 0) (.int 0) (.int 0) (.int 1) (.int 0) (.int 1) (.int 0) v0_11 v0_12 (.int 0) v0_14 v0_15 v0_16 v0_17 v0_18 v0_19 v0_20 v0_21 v0_22 v0_23 v0_24 v0_25 v0_26 v0_27 v0_28 (.int 0) v0_30 v0_31 v0_32 (.int 0) (.int 0) v0_35 v0_36 v0_37 v0_38 v0_39 v0_40 (.int 60) v0_43 v0_44 v0_45 v0_46 v0_47 v0_48 (.ref h1) v0_50 (.int 0) (.int 0) v0_53 v0_54 v0_55 v0_56 v0_57 (.int 0) v0_59 v0_60 v0_61 v0_62 v0_63 v0_64) kX12_newReg wq364 wq365 wq366 ⟨rfl, rfl, Nat.le_of_ble_eq_true rfl, Nat.le_of_ble_eq_true rfl⟩ hP hD hS hA [1] [0] rfl rfl (by decide) (fun _ => rfl) 1 rfl rfl rfl hl.1 rfl (Nat.le_of_ble_eq_true rfl) dX12_convert_46 ⟨rfl, rfl⟩ ⟨Nat.le_of_ble_eq_true rfl, Nat.le_of_ble_eq_true rfl⟩ (fun _ H locs hP hD hS => ?_)
  refine lv_iconst (v := 0) hx hb dX12_convert_49 (by decide) ?_
  refine x_Vi (rest := []) (ws' := fun _ => [(h1, .inl (cyI, 10, .inl (u1.2 0))), (h0, .inr (12, [.int 0, v0_1, v0_2, v0_3, .int 0, .int 0, .int 0, .int 1, .int 0, .int 1, .int 0, v0_11, v0_12, .int 0, v0_14, v0_15, v0_16, v0_17, v0_18, v0_19, v0_20, v0_21, v0_22, v0_23, v0_24, v0_25, v0_26, v0_27, v0_28, .int 0, v0_30, v0_31, v0_32, .int 0, .int 0, .int 0, v0_36, v0_37, v0_38, v0_39, v0_40, .int 60, .int 1, v0_43, v0_44, v0_45, v0_46, v0_47, v0_48, .ref h1, v0_50, .int 0, .int 0, v0_53, v0_54, v0_55, v0_56, v0_57, .int 0, v0_59, v0_60, v0_61, v0_62, v0_63, v0_64]))]) (wr := [(h1, .inl (cyI, 10, .inl (u1.2 0)))]) E (mX12_readTerm_1 l D cyI cyJ Z h0 (.int 0) v0_1 v0_2 v0_3 (.int 0) (.int 0) (.int 0) (.int 0) (.int 1) v0_11 v0_12 (.int 0) v0_14 v0_15 v0_16 v0_17 v0_18 v0_19 v0_20 v0_21 v0_22 v0_23 v0_24 v0_25 v0_26 v0_27 v0_28 (.int 0) v0_30 v0_31 v0_32 (.int 0) (.int 0) v0_35 v0_36 v0_37 v0_38 v0_39 v0_40 (.int 60) (.int 1) v0_43 v0_44 v0_45 v0_46 v0_47 v0_48 (.ref h1) v0_50 (.int 0) (.int 0) v0_53 v0_54 v0_55 v0_56 v0_57 (.int 0) v0_59 v0_60 v0_61 v0_62 v0_63 v0_64) kX12_readTerm wq383 wq384 wq385 ⟨rfl, rfl, Nat.le_of_ble_eq_true rfl, Nat.le_of_ble_eq_true rfl⟩ hP hD hS hA [1] [0] rfl rfl (by decide) (fun _ => rfl) 1 rfl rfl rfl hl.1 rfl (Nat.le_of_ble_eq_true rfl) dX12_convert_50 ⟨rfl, rfl⟩ ⟨Nat.le_of_ble_eq_true rfl, Nat.le_of_ble_eq_true rfl⟩ (fun _ H locs hP hD hS => ?_)
  refine lv_istore_n (lv' := [(3, .int 0), (2, .int 0), (0, .ref h0), (1, .int 0)]) hx hb dX12_convert_53 rfl hl (by decide) rfl (fun ls hl => ?_)
  refine lv_aload_n hx hb dX12_convert_54 rfl (lv_at hl 2 rfl) ?_
  refine x_Vv (rest := []) (ws' := fun _ => [(h1, .inl (cyI, 10, .inl (u1.2 0))), (h0, .inr (12, [.int 0, v0_1, v0_2, v0_3, .int 0, .int 0, .int 0, .int 1, .int 0, .int 1, .int 0, v0_11, v0_12, .int 0, v0_14, v0_15, v0_16, v0_17, v0_18, v0_19, v0_20, v0_21, v0_22, v0_23, v0_24, v0_25, v0_26, v0_27, v0_28, .int 0, v0_30, v0_31, v0_32, .int 0, .int 0, .int 0, v0_36, v0_37, v0_38, v0_39, v0_40, .int 60, .int 1, v0_43, v0_44, v0_45, v0_46, v0_47, v0_48, .ref h1, v0_50, .int 0, .int 0, v0_53, v0_54, v0_55, v0_56, v0_57, .int 0, v0_59, v0_60, v0_61, v0_62, v0_63, v0_64]))]) (wr := [(h1, .inl (cyI, 10, .inl (u1.2 0)))]) E (mX12_needsEnd l D cyI cyJ Z h0 (.int 0) v0_1 v0_2 v0_3 (.int 0) (.int 0) (.int 0) (.int 1) (.int 0) (.int 0) v0_11 v0_12 (.int 0) v0_14 v0_15 v0_16 v0_17 v0_18 v0_19 v0_20 v0_21 v0_22 v0_23 v0_24 v0_25 v0_26 v0_27 v0_28 (.int 0) v0_30 v0_31 v0_32 (.int 0) (.int 0) (.int 0) v0_36 v0_37 v0_38 v0_39 v0_40 (.int 60) (.int 1) v0_43 v0_44 v0_45 v0_46 v0_47 v0_48 (.ref h1) v0_50 (.int 0) (.int 0) v0_53 v0_54 v0_55 v0_56 v0_57 (.int 0) v0_59 v0_60 v0_61 v0_62 v0_63 v0_64) kX12_needsEnd wq328 wq329 wq330 ⟨rfl, rfl, Nat.le_of_ble_eq_true rfl, Nat.le_of_ble_eq_true rfl⟩ hP hD hS hA [1] [0] rfl rfl (by decide) (fun _ => rfl) 1 rfl rfl rfl hl.1 rfl (Nat.le_of_ble_eq_true rfl) dX12_convert_55 ⟨rfl, rfl⟩ ⟨Nat.le_of_ble_eq_true rfl, Nat.le_of_ble_eq_true rfl⟩ (fun _ H locs hP hD hS => ?_)
  refine lv_aload_n hx hb dX12_convert_58 rfl (lv_at hl 2 rfl) ?_
  refine x_get E iX12 hP 1 rfl rfl 7 (by decide) wq300 rfl dX12_convert_59 ?_
  refine lv_if_le (tgt := 72) hx hb dX12_convert_62 (by decide) (fun c9 => absurd c9 (by decide)) (fun c9 => ?_)
  refine lv_aload_n hx hb dX12_convert_65 rfl (lv_at hl 2 rfl) ?_
  refine x_Vi (rest := []) (ws' := fun _ => [(h1, .inl (cyI, 10, .inl (u1.2 0))), (h0, .inr (12, [.int 0, .int 4, .int 0, v0_3, .int 0, .int 0, .int 0, .int 1, .int 0, .int 1, .int 0, v0_11, v0_12, .int 0, v0_14, v0_15, v0_16, v0_17, v0_18, v0_19, v0_20, v0_21, v0_22, v0_23, v0_24, v0_25, v0_26, v0_27, v0_28, .int 0, v0_30, v0_31, v0_32, .int 0, .int 0, .int 0, v0_36, v0_37, v0_38, v0_39, v0_40, .int 60, .int 1, v0_43, v0_44, v0_45, v0_46, v0_47, v0_48, .ref h1, v0_50, .int 0, .int 0, v0_53, v0_54, v0_55, v0_56, v0_57, .int 0, v0_59, v0_60, v0_61, v0_62, v0_63, v0_64]))]) (wr := [(h1, .inl (cyI, 10, .inl (u1.2 0)))]) E (mX12_faulty l D cyI cyJ Z h0 (.int 0) v0_1 v0_2 v0_3 (.int 0) (.int 0) (.int 0) (.int 1) (.int 1) (.int 0) v0_11 v0_12 (.int 0) v0_14 v0_15 v0_16 v0_17 v0_18 v0_19 v0_20 v0_21 v0_22 v0_23 v0_24 v0_25 v0_26 v0_27 v0_28 (.int 0) v0_30 v0_31 v0_32 (.int 0) (.int 0) (.int 0) v0_36 v0_37 v0_38 v0_39 v0_40 (.int 60) (.int 1) v0_43 v0_44 v0_45 v0_46 v0_47 v0_48 (.ref h1) v0_50 (.int 0) (.int 0) v0_53 v0_54 v0_55 v0_56 v0_57 (.int 0) v0_59 v0_60 v0_61 v0_62 v0_63 v0_64) kX12_faulty wq332 wq333 wq334 ⟨rfl, rfl, Nat.le_of_ble_eq_true rfl, Nat.le_of_ble_eq_true rfl⟩ hP hD hS hA [1] [0] rfl rfl (by decide) (fun _ => rfl) 1 rfl rfl rfl hl.1 rfl (Nat.le_of_ble_eq_true rfl) dX12_convert_66 ⟨rfl, rfl⟩ ⟨Nat.le_of_ble_eq_true rfl, Nat.le_of_ble_eq_true rfl⟩ (fun _ H locs hP hD hS => ?_)
  refine lv_goto (tgt := 84) hx hb dX12_convert_69 (by decide) ?_
  exact x_iret E hr hlk hP hD hS () rfl [] (by decide) rfl rfl dX12_convert_84

set_option maxHeartbeats 4000000 in
set_option maxRecDepth 100000 in
theorem mX11_convert_1 (l : Launch) (D : va_G) (cyI cyJ : ClassId) (Z : xZ) (h0 : Nat) (p0 : Int32) (hf1_0 : ¬ p0 = 0) (v0_0 : Value) (v0_2 : Value) (v0_3 : Value) (v0_4 : Value) (v0_5 : Value) (v0_6 : Value) (v0_7 : Value) (v0_8 : Value) (v0_9 : Value) (v0_10 : Value) (v0_11 : Value) (v0_12 : Value) (v0_13 : Value) (v0_14 : Value) (v0_15 : Value) : MetI l yX11_convert (Cond.code yX11_convert cX11_convert 4 (some .int)) { frames := 1, cells := 0, slots := 0, locals := 21 } D cyI cyJ Z [.ref h0, .int p0] [(h0, .inr (11, [v0_0, .int 0, v0_2, v0_3, v0_4, v0_5, v0_6, v0_7, v0_8, v0_9, v0_10, v0_11, v0_12, v0_13, v0_14, v0_15]))] (fun _ : Unit => (-1)) (fun _ : Unit => ([] : va_W)) 0 0 := by
  refine met_i (by decide) rfl ?_
  intro p e s m below meth c A ls E hr hlk hP hD hA hl
  have hS : va_S A s.heap s.heap [] := va_S.rf
  have hx := E.1.1
  have hb := E.1.2.1
  have hl : lv_has ls 4 [(0, .ref h0), (1, .int p0)] := hl
  refine lv_aload_n hx hb dX11_convert_0 rfl (lv_at hl 0 rfl) ?_
  refine lv_iload_n hx hb dX11_convert_1 rfl (lv_at hl 1 rfl) ?_
  refine x_Vi (rest := []) (ws' := fun _ => [(h0, .inr (11, [v0_0, .int 0, v0_2, v0_3, v0_4, v0_5, v0_6, v0_7, v0_8, v0_9, v0_10, v0_11, v0_12, v0_13, v0_14, v0_15]))]) (wr := []) E (mX11_opens_1 l D cyI cyJ Z h0 p0 hf1_0 v0_0 v0_2 v0_3 v0_4 v0_5 v0_6 v0_7 v0_8 v0_9 v0_10 v0_11 v0_12 v0_13 v0_14 v0_15) kX11_opens wq247 wq248 wq249 ⟨rfl, rfl, Nat.le_of_ble_eq_true rfl, Nat.le_of_ble_eq_true rfl⟩ hP hD hS hA [0] [] rfl rfl (by decide) (fun _ => rfl) 0 rfl rfl rfl hl.1 rfl (Nat.le_of_ble_eq_true rfl) dX11_convert_2 ⟨rfl, rfl⟩ ⟨Nat.le_of_ble_eq_true rfl, Nat.le_of_ble_eq_true rfl⟩ (fun _ H locs hP hD hS => ?_)
  refine lv_if_ne (tgt := 14) hx hb dX11_convert_5 (by decide) (fun c9 => absurd (by decide) c9) (fun c9 => ?_)
  refine lv_aload_n hx hb dX11_convert_8 rfl (lv_at hl 0 rfl) ?_
  refine lv_iconst (v := 2) hx hb dX11_convert_9 (by decide) ?_
  refine x_Vi (rest := []) (ws' := fun _ => [(h0, .inr (11, [v0_0, .int 0, v0_2, v0_3, .int 2, v0_5, v0_6, v0_7, v0_8, v0_9, v0_10, v0_11, v0_12, v0_13, v0_14, v0_15]))]) (wr := []) E (mX11_refused_1 l D cyI cyJ Z h0 v0_0 (.int 0) v0_2 v0_3 v0_4 v0_5 v0_6 v0_7 v0_8 v0_9 v0_10 v0_11 v0_12 v0_13 v0_14 v0_15) kX11_refused wq277 wq278 wq279 ⟨rfl, rfl, Nat.le_of_ble_eq_true rfl, Nat.le_of_ble_eq_true rfl⟩ hP hD hS hA [0] [] rfl rfl (by decide) (fun _ => rfl) 0 rfl rfl rfl hl.1 rfl (Nat.le_of_ble_eq_true rfl) dX11_convert_10 ⟨rfl, rfl⟩ ⟨Nat.le_of_ble_eq_true rfl, Nat.le_of_ble_eq_true rfl⟩ (fun _ H locs hP hD hS => ?_)
  exact x_iret E hr hlk hP hD hS () rfl [] (by decide) rfl rfl dX11_convert_13

set_option maxHeartbeats 4000000 in
set_option maxRecDepth 100000 in
theorem mX12_convert_1 (l : Launch) (D : va_G) (cyI cyJ : ClassId) (Z : xZ) (h0 : Nat) (p0 : Int32) (hf1_0 : ¬ p0 = 0) (v0_0 : Value) (v0_1 : Value) (v0_2 : Value) (v0_3 : Value) (v0_5 : Value) (v0_6 : Value) (v0_7 : Value) (v0_8 : Value) (v0_9 : Value) (v0_10 : Value) (v0_11 : Value) (v0_12 : Value) (v0_13 : Value) (v0_14 : Value) (v0_15 : Value) (v0_16 : Value) (v0_17 : Value) (v0_18 : Value) (v0_19 : Value) (v0_20 : Value) (v0_21 : Value) (v0_22 : Value) (v0_23 : Value) (v0_24 : Value) (v0_25 : Value) (v0_26 : Value) (v0_27 : Value) (v0_28 : Value) (v0_29 : Value) (v0_30 : Value) (v0_31 : Value) (v0_32 : Value) (v0_33 : Value) (v0_34 : Value) (v0_35 : Value) (v0_36 : Value) (v0_37 : Value) (v0_38 : Value) (v0_39 : Value) (v0_40 : Value) (v0_41 : Value) (v0_42 : Value) (v0_43 : Value) (v0_44 : Value) (v0_45 : Value) (v0_46 : Value) (v0_47 : Value) (v0_48 : Value) (v0_49 : Value) (v0_50 : Value) (v0_51 : Value) (v0_52 : Value) (v0_53 : Value) (v0_54 : Value) (v0_55 : Value) (v0_56 : Value) (v0_57 : Value) (v0_58 : Value) (v0_59 : Value) (v0_60 : Value) (v0_61 : Value) (v0_62 : Value) (v0_63 : Value) (v0_64 : Value) : MetI l yX12_convert (Cond.code yX12_convert cX12_convert 4 (some .int)) { frames := 2, cells := 0, slots := 0, locals := 43 } D cyI cyJ Z [.ref h0, .int p0] [(h0, .inr (12, [v0_0, v0_1, v0_2, v0_3, .int 0, v0_5, v0_6, v0_7, v0_8, v0_9, v0_10, v0_11, v0_12, v0_13, v0_14, v0_15, v0_16, v0_17, v0_18, v0_19, v0_20, v0_21, v0_22, v0_23, v0_24, v0_25, v0_26, v0_27, v0_28, v0_29, v0_30, v0_31, v0_32, v0_33, v0_34, v0_35, v0_36, v0_37, v0_38, v0_39, v0_40, v0_41, v0_42, v0_43, v0_44, v0_45, v0_46, v0_47, v0_48, v0_49, v0_50, v0_51, v0_52, v0_53, v0_54, v0_55, v0_56, v0_57, v0_58, v0_59, v0_60, v0_61, v0_62, v0_63, v0_64]))] (fun _ : Unit => (-1)) (fun _ : Unit => ([] : va_W)) 0 0 := by
  refine met_i (by decide) rfl ?_
  intro p e s m below meth c A ls E hr hlk hP hD hA hl
  have hS : va_S A s.heap s.heap [] := va_S.rf
  have hx := E.1.1
  have hb := E.1.2.1
  have hl : lv_has ls 4 [(0, .ref h0), (1, .int p0)] := hl
  refine lv_aload_n hx hb dX12_convert_0 rfl (lv_at hl 0 rfl) ?_
  refine lv_iconst (v := 0) hx hb dX12_convert_1 (by decide) ?_
  refine x_put (ws' := [(h0, .inr (12, [.int 0, v0_1, v0_2, v0_3, .int 0, v0_5, v0_6, v0_7, v0_8, v0_9, v0_10, v0_11, v0_12, v0_13, v0_14, v0_15, v0_16, v0_17, v0_18, v0_19, v0_20, v0_21, v0_22, v0_23, v0_24, v0_25, v0_26, v0_27, v0_28, v0_29, v0_30, v0_31, v0_32, v0_33, v0_34, v0_35, v0_36, v0_37, v0_38, v0_39, v0_40, v0_41, v0_42, v0_43, v0_44, v0_45, v0_46, v0_47, v0_48, v0_49, v0_50, v0_51, v0_52, v0_53, v0_54, v0_55, v0_56, v0_57, v0_58, v0_59, v0_60, v0_61, v0_62, v0_63, v0_64]))]) E iX12 tyX12 tyX12_ok nmX12 hP hD hS 0 rfl rfl 0 (by decide) wq202 rfl rfl rfl rfl rfl dX12_convert_2 (fun H locs hP hD hS => ?_)
  refine lv_aload_n hx hb dX12_convert_5 rfl (lv_at hl 0 rfl) ?_
  refine lv_iload_n hx hb dX12_convert_6 rfl (lv_at hl 1 rfl) ?_
  refine x_Vi (rest := []) (ws' := fun _ => [(h0, .inr (12, [.int 0, v0_1, v0_2, v0_3, .int 0, v0_5, v0_6, v0_7, v0_8, v0_9, v0_10, v0_11, v0_12, v0_13, v0_14, v0_15, v0_16, v0_17, v0_18, v0_19, v0_20, v0_21, v0_22, v0_23, v0_24, v0_25, v0_26, v0_27, v0_28, v0_29, v0_30, v0_31, v0_32, v0_33, v0_34, v0_35, v0_36, v0_37, v0_38, v0_39, v0_40, v0_41, v0_42, v0_43, v0_44, v0_45, v0_46, v0_47, v0_48, v0_49, v0_50, v0_51, v0_52, v0_53, v0_54, v0_55, v0_56, v0_57, v0_58, v0_59, v0_60, v0_61, v0_62, v0_63, v0_64]))]) (wr := []) E (mX12_isLong_1 l D cyI cyJ Z h0 p0 hf1_0 (.int 0) v0_1 v0_2 v0_3 v0_5 v0_6 v0_7 v0_8 v0_9 v0_10 v0_11 v0_12 v0_13 v0_14 v0_15 v0_16 v0_17 v0_18 v0_19 v0_20 v0_21 v0_22 v0_23 v0_24 v0_25 v0_26 v0_27 v0_28 v0_29 v0_30 v0_31 v0_32 v0_33 v0_34 v0_35 v0_36 v0_37 v0_38 v0_39 v0_40 v0_41 v0_42 v0_43 v0_44 v0_45 v0_46 v0_47 v0_48 v0_49 v0_50 v0_51 v0_52 v0_53 v0_54 v0_55 v0_56 v0_57 v0_58 v0_59 v0_60 v0_61 v0_62 v0_63 v0_64) kX12_isLong wq285 wq286 wq287 ⟨rfl, rfl, Nat.le_of_ble_eq_true rfl, Nat.le_of_ble_eq_true rfl⟩ hP hD hS hA [0] [] rfl rfl (by decide) (fun _ => rfl) 0 rfl rfl rfl hl.1 rfl (Nat.le_of_ble_eq_true rfl) dX12_convert_7 ⟨rfl, rfl⟩ ⟨Nat.le_of_ble_eq_true rfl, Nat.le_of_ble_eq_true rfl⟩ (fun _ H locs hP hD hS => ?_)
  refine lv_if_eq (tgt := 19) hx hb dX12_convert_10 (by decide) (fun c9 => absurd c9 (by decide)) (fun c9 => ?_)
  refine lv_aload_n hx hb dX12_convert_13 rfl (lv_at hl 0 rfl) ?_
  refine lv_iconst (v := 2) hx hb dX12_convert_14 (by decide) ?_
  refine x_Vi (rest := []) (ws' := fun _ => [(h0, .inr (12, [.int 0, .int 2, .int (-1), v0_3, .int 0, v0_5, v0_6, v0_7, v0_8, v0_9, v0_10, v0_11, v0_12, v0_13, v0_14, v0_15, v0_16, v0_17, v0_18, v0_19, v0_20, v0_21, v0_22, v0_23, v0_24, v0_25, v0_26, v0_27, v0_28, v0_29, v0_30, v0_31, v0_32, v0_33, v0_34, v0_35, v0_36, v0_37, v0_38, v0_39, v0_40, v0_41, v0_42, v0_43, v0_44, v0_45, v0_46, v0_47, v0_48, v0_49, v0_50, v0_51, v0_52, v0_53, v0_54, v0_55, v0_56, v0_57, v0_58, v0_59, v0_60, v0_61, v0_62, v0_63, v0_64]))]) (wr := []) E (mX12_refused l D cyI cyJ Z h0 (.int 0) v0_1 v0_2 v0_3 (.int 0) v0_5 v0_6 v0_7 v0_8 v0_9 v0_10 v0_11 v0_12 v0_13 v0_14 v0_15 v0_16 v0_17 v0_18 v0_19 v0_20 v0_21 v0_22 v0_23 v0_24 v0_25 v0_26 v0_27 v0_28 v0_29 v0_30 v0_31 v0_32 v0_33 v0_34 v0_35 v0_36 v0_37 v0_38 v0_39 v0_40 v0_41 v0_42 v0_43 v0_44 v0_45 v0_46 v0_47 v0_48 v0_49 v0_50 v0_51 v0_52 v0_53 v0_54 v0_55 v0_56 v0_57 v0_58 v0_59 v0_60 v0_61 v0_62 v0_63 v0_64) kX12_refused wq335 wq336 wq337 ⟨rfl, rfl, Nat.le_of_ble_eq_true rfl, Nat.le_of_ble_eq_true rfl⟩ hP hD hS hA [0] [] rfl rfl (by decide) (fun _ => rfl) 0 rfl rfl rfl hl.1 rfl (Nat.le_of_ble_eq_true rfl) dX12_convert_15 ⟨rfl, rfl⟩ ⟨Nat.le_of_ble_eq_true rfl, Nat.le_of_ble_eq_true rfl⟩ (fun _ H locs hP hD hS => ?_)
  exact x_iret E hr hlk hP hD hS () rfl [] (by decide) rfl rfl dX12_convert_18

set_option maxHeartbeats 4000000 in
set_option maxRecDepth 100000 in
theorem mX9_clear (l : Launch) (D : va_G) (cyI cyJ : ClassId) (Z : xZ) (h0 : Nat) (v0_0 : Value) (v0_1 : Value) (v0_2 : Value) (v0_3 : Value) (v0_4 : Value) (v0_5 : Value) (v0_6 : Value) (v0_7 : Value) (v0_8 : Value) (v0_9 : Value) (v0_10 : Value) (v0_11 : Value) (v0_12 : Value) (v0_13 : Value) (v0_14 : Value) : MetV l yX9_clear (Cond.code yX9_clear cX9_clear 1 none) { frames := 0, cells := 0, slots := 0, locals := 0 } D cyI cyJ Z [.ref h0] [(h0, .inr (9, [v0_0, v0_1, v0_2, v0_3, v0_4, v0_5, v0_6, v0_7, v0_8, v0_9, v0_10, v0_11, v0_12, v0_13, v0_14]))] (fun _ : Unit => ([(h0, .inr (9, [v0_0, v0_1, v0_2, v0_3, v0_4, v0_5, v0_6, v0_7, v0_8, .int 0, .int 0, .int 0, v0_12, v0_13, v0_14]))] : va_W)) 0 0 := by
  refine met_v (by decide) rfl ?_
  intro p e s m below meth c A ls E hr hlk hnm hP hD hA hl
  have hS : va_S A s.heap s.heap [] := va_S.rf
  have hx := E.1.1
  have hb := E.1.2.1
  have hl : lv_has ls 1 [(0, .ref h0)] := hl
  refine lv_aload_n hx hb dX9_clear_0 rfl (lv_at hl 0 rfl) ?_
  refine lv_iconst (v := 0) hx hb dX9_clear_1 (by decide) ?_
  refine x_put (ws' := [(h0, .inr (9, [v0_0, v0_1, v0_2, v0_3, v0_4, v0_5, v0_6, v0_7, v0_8, .int 0, v0_10, v0_11, v0_12, v0_13, v0_14]))]) E iX9 tyX9 tyX9_ok nmX9 hP hD hS 0 rfl rfl 9 (by decide) wq207 rfl rfl rfl rfl rfl dX9_clear_2 (fun H locs hP hD hS => ?_)
  refine lv_aload_n hx hb dX9_clear_5 rfl (lv_at hl 0 rfl) ?_
  refine lv_iconst (v := 0) hx hb dX9_clear_6 (by decide) ?_
  refine x_put (ws' := [(h0, .inr (9, [v0_0, v0_1, v0_2, v0_3, v0_4, v0_5, v0_6, v0_7, v0_8, .int 0, .int 0, v0_11, v0_12, v0_13, v0_14]))]) E iX9 tyX9 tyX9_ok nmX9 hP hD hS 0 rfl rfl 10 (by decide) wq209 rfl rfl rfl rfl rfl dX9_clear_7 (fun H locs hP hD hS => ?_)
  refine lv_aload_n hx hb dX9_clear_10 rfl (lv_at hl 0 rfl) ?_
  refine lv_iconst (v := 0) hx hb dX9_clear_11 (by decide) ?_
  refine x_put (ws' := [(h0, .inr (9, [v0_0, v0_1, v0_2, v0_3, v0_4, v0_5, v0_6, v0_7, v0_8, .int 0, .int 0, .int 0, v0_12, v0_13, v0_14]))]) E iX9 tyX9 tyX9_ok nmX9 hP hD hS 0 rfl rfl 11 (by decide) wq211 rfl rfl rfl rfl rfl dX9_clear_12 (fun H locs hP hD hS => ?_)
  exact x_vret E hr hlk hP hD hS () [0] (by decide) rfl dX9_clear_15

set_option maxHeartbeats 4000000 in
set_option maxRecDepth 100000 in
theorem mX3_clear (l : Launch) (D : va_G) (cyI cyJ : ClassId) (Z : xZ) (h0 : Nat) (h1 : Nat) (v0_0 : Value) (v0_1 : Value) (v0_2 : Value) (v0_4 : Value) (v0_5 : Value) (v0_6 : Value) (v0_7 : Value) (f1 : Nat → Int32) : MetV l yX3_clear (Cond.code yX3_clear cX3_clear 1 none) { frames := 1, cells := 0, slots := 0, locals := 23 } D cyI cyJ Z [.ref h0] [(h0, .inr (3, [v0_0, v0_1, v0_2, .ref h1, v0_4, v0_5, v0_6, v0_7])), (h1, .inl (cyI, 10, .inl f1))] (fun _ : Unit => ([(h0, .inr (3, [v0_0, v0_1, v0_2, .ref h1, v0_4, v0_5, v0_6, v0_7])), (h1, .inl (cyI, 10, .inl (fun _ => 0)))] : va_W)) 0 0 := by
  refine met_v (by decide) rfl ?_
  intro p e s m below meth c A ls E hr hlk hnm hP hD hA hl
  have hS : va_S A s.heap s.heap [] := va_S.rf
  have hx := E.1.1
  have hb := E.1.2.1
  have hl : lv_has ls 1 [(0, .ref h0)] := hl
  refine lv_aload_n hx hb dX3_clear_0 rfl (lv_at hl 0 rfl) ?_
  refine x_get E iX3 hP 0 rfl rfl 3 (by decide) wq75 rfl dX3_clear_1 ?_
  refine lv_iconst (v := 0) hx hb dX3_clear_4 (by decide) ?_
  refine x_Sv (rest := []) (ws' := fun _ => [(h0, .inr (3, [v0_0, v0_1, v0_2, .ref h1, v0_4, v0_5, v0_6, v0_7])), (h1, .inl (cyI, 10, .inl (fun _ => 0)))]) (wr := [(h0, .inr (3, [v0_0, v0_1, v0_2, .ref h1, v0_4, v0_5, v0_6, v0_7]))]) E (mJ7_fill l D cyI cyJ Z h1 10 (by decide) f1 0) kJ7_fill_53178 wq428 wq22 ⟨rfl, rfl, Nat.le_of_ble_eq_true rfl, Nat.le_of_ble_eq_true rfl⟩ hP hD hS hA [1] [0] rfl rfl (by decide) (fun _ => rfl) hl.1 rfl (Nat.le_of_ble_eq_true rfl) dX3_clear_5 ⟨rfl, rfl⟩ ⟨Nat.le_of_ble_eq_true rfl, Nat.le_of_ble_eq_true rfl⟩ (fun _ H locs hP hD hS => ?_)
  exact x_vret E hr hlk hP hD hS () [0, 1] (by decide) rfl dX3_clear_8

set_option maxHeartbeats 4000000 in
set_option maxRecDepth 100000 in
theorem mX0_clear (l : Launch) (D : va_G) (cyI cyJ : ClassId) (Z : xZ) (h0 : Nat) (v0_0 : Value) (v0_1 : Value) (v0_2 : Value) (v0_3 : Value) (v0_4 : Value) (v0_5 : Value) (v0_6 : Value) (v0_7 : Value) (v0_8 : Value) (v0_9 : Value) (v0_10 : Value) (v0_11 : Value) (v0_13 : Value) : MetV l yX0_clear (Cond.code yX0_clear cX0_clear 1 none) { frames := 2, cells := 0, slots := 0, locals := 41 } D cyI cyJ Z [.ref h0] [(h0, .inr (0, [v0_0, v0_1, v0_2, v0_3, v0_4, v0_5, v0_6, v0_7, v0_8, v0_9, v0_10, v0_11, .int 3, v0_13]))] (fun _ : Unit => ([(h0, .inr (0, [v0_0, v0_1, v0_2, v0_3, v0_4, v0_5, v0_6, v0_7, v0_8, v0_9, v0_10, v0_11, .int 3, .int 3]))] : va_W)) 0 0 := by
  refine met_v (by decide) rfl ?_
  intro p e s m below meth c A ls E hr hlk hnm hP hD hA hl
  have hS : va_S A s.heap s.heap [] := va_S.rf
  have hx := E.1.1
  have hb := E.1.2.1
  have hl : lv_has ls 1 [(0, .ref h0)] := hl
  refine lv_aload_n hx hb dX0_clear_0 rfl (lv_at hl 0 rfl) ?_
  refine lv_iconst (v := 3) hx hb dX0_clear_1 (by decide) ?_
  refine x_put (ws' := [(h0, .inr (0, [v0_0, v0_1, v0_2, v0_3, v0_4, v0_5, v0_6, v0_7, v0_8, v0_9, v0_10, v0_11, .int 3, .int 3]))]) E iX0 tyX0 tyX0_ok nmX0 hP hD hS 0 rfl rfl 13 (by decide) wq33 rfl rfl rfl rfl rfl dX0_clear_2 (fun H locs hP hD hS => ?_)
  refine lv_aload_n hx hb dX0_clear_5 rfl (lv_at hl 0 rfl) ?_
  refine x_Vv (rest := []) (ws' := fun _ => [(h0, .inr (0, [v0_0, v0_1, v0_2, v0_3, v0_4, v0_5, v0_6, v0_7, v0_8, v0_9, v0_10, v0_11, .int 3, .int 3]))]) (wr := []) E (mX0_cut l D cyI cyJ Z h0 v0_0 v0_1 v0_2 v0_3 v0_4 v0_5 v0_6 v0_7 v0_8 v0_9 v0_10 v0_11) kX0_cut wq432 wq271 wq272 ⟨rfl, rfl, Nat.le_of_ble_eq_true rfl, Nat.le_of_ble_eq_true rfl⟩ hP hD hS hA [0] [] rfl rfl (by decide) (fun _ => rfl) 0 rfl rfl rfl hl.1 rfl (Nat.le_of_ble_eq_true rfl) dX0_clear_6 ⟨rfl, rfl⟩ ⟨Nat.le_of_ble_eq_true rfl, Nat.le_of_ble_eq_true rfl⟩ (fun _ H locs hP hD hS => ?_)
  exact x_vret E hr hlk hP hD hS () [0] (by decide) rfl dX0_clear_9

set_option maxHeartbeats 4000000 in
set_option maxRecDepth 100000 in
theorem mX11_fresh (l : Launch) (D : va_G) (cyI cyJ : ClassId) (Z : xZ) (h0 : Nat) (h1 : Nat) (h2 : Nat) (h3 : Nat) (h4 : Nat) (v0_0 : Value) (v0_1 : Value) (v0_2 : Value) (v0_3 : Value) (v0_4 : Value) (v0_6 : Value) (v0_8 : Value) (v0_10 : Value) (v0_11 : Value) (v0_12 : Value) (v0_13 : Value) (v0_14 : Value) (v0_15 : Value) (v1_0 : Value) (v1_1 : Value) (v1_2 : Value) (v1_3 : Value) (v1_4 : Value) (v1_5 : Value) (v1_6 : Value) (v1_7 : Value) (v1_8 : Value) (v1_9 : Value) (v1_10 : Value) (v1_12 : Value) (v1_13 : Value) (v1_14 : Value) (v2_0 : Value) (v2_1 : Value) (v2_2 : Value) (v2_4 : Value) (v2_5 : Value) (v2_6 : Value) (v2_7 : Value) (f3 : Nat → Int32) (v4_0 : Value) (v4_1 : Value) (v4_2 : Value) (v4_3 : Value) (v4_4 : Value) (v4_5 : Value) (v4_6 : Value) (v4_7 : Value) (v4_8 : Value) (v4_9 : Value) (v4_10 : Value) (v4_11 : Value) (v4_13 : Value) : MetI l yX11_fresh (Cond.code yX11_fresh cX11_fresh 2 (some .int)) { frames := 3, cells := 0, slots := 0, locals := 61 } D cyI cyJ Z [.ref h0] [(h0, .inr (11, [v0_0, v0_1, v0_2, v0_3, v0_4, .ref h4, v0_6, .ref h1, v0_8, .ref h2, v0_10, v0_11, v0_12, v0_13, v0_14, v0_15])), (h1, .inr (9, [v1_0, v1_1, v1_2, v1_3, v1_4, v1_5, v1_6, v1_7, v1_8, v1_9, v1_10, .int 0, v1_12, v1_13, v1_14])), (h2, .inr (3, [v2_0, v2_1, v2_2, .ref h3, v2_4, v2_5, v2_6, v2_7])), (h3, .inl (cyI, 10, .inl f3)), (h4, .inr (0, [v4_0, v4_1, v4_2, v4_3, v4_4, v4_5, v4_6, v4_7, v4_8, v4_9, v4_10, v4_11, .int 3, v4_13]))] (fun _ : Unit => 0) (fun _ : Unit => ([] : va_W)) 0 0 := by
  refine met_i (by decide) rfl ?_
  intro p e s m below meth c A ls E hr hlk hP hD hA hl
  have hS : va_S A s.heap s.heap [] := va_S.rf
  have hx := E.1.1
  have hb := E.1.2.1
  have hl : lv_has ls 2 [(0, .ref h0)] := hl
  refine lv_aload_n hx hb dX11_fresh_0 rfl (lv_at hl 0 rfl) ?_
  refine x_get E iX11 hP 0 rfl rfl 7 (by decide) wq60 rfl dX11_fresh_1 ?_
  refine x_getN E iX9 hP 1 rfl rfl 11 (by decide) qn8 rfl dX11_fresh_4 ?_
  refine lv_istore_n (lv' := [(1, .int 0), (0, .ref h0)]) hx hb dX11_fresh_7 rfl hl (by decide) rfl (fun ls hl => ?_)
  refine lv_aload_n hx hb dX11_fresh_8 rfl (lv_at hl 1 rfl) ?_
  refine x_get E iX11 hP 0 rfl rfl 7 (by decide) wq60 rfl dX11_fresh_9 ?_
  refine x_Vv (rest := []) (ws' := fun _ => [(h0, .inr (11, [v0_0, v0_1, v0_2, v0_3, v0_4, .ref h4, v0_6, .ref h1, v0_8, .ref h2, v0_10, v0_11, v0_12, v0_13, v0_14, v0_15])), (h2, .inr (3, [v2_0, v2_1, v2_2, .ref h3, v2_4, v2_5, v2_6, v2_7])), (h3, .inl (cyI, 10, .inl f3)), (h4, .inr (0, [v4_0, v4_1, v4_2, v4_3, v4_4, v4_5, v4_6, v4_7, v4_8, v4_9, v4_10, v4_11, .int 3, v4_13])), (h1, .inr (9, [v1_0, v1_1, v1_2, v1_3, v1_4, v1_5, v1_6, v1_7, v1_8, .int 0, .int 0, .int 0, v1_12, v1_13, v1_14]))]) (wr := [(h0, .inr (11, [v0_0, v0_1, v0_2, v0_3, v0_4, .ref h4, v0_6, .ref h1, v0_8, .ref h2, v0_10, v0_11, v0_12, v0_13, v0_14, v0_15])), (h2, .inr (3, [v2_0, v2_1, v2_2, .ref h3, v2_4, v2_5, v2_6, v2_7])), (h3, .inl (cyI, 10, .inl f3)), (h4, .inr (0, [v4_0, v4_1, v4_2, v4_3, v4_4, v4_5, v4_6, v4_7, v4_8, v4_9, v4_10, v4_11, .int 3, v4_13]))]) E (mX9_clear l D cyI cyJ Z h1 v1_0 v1_1 v1_2 v1_3 v1_4 v1_5 v1_6 v1_7 v1_8 v1_9 v1_10 (.int 0) v1_12 v1_13 v1_14) kX9_clear wq425 wq426 wq427 ⟨rfl, rfl, Nat.le_of_ble_eq_true rfl, Nat.le_of_ble_eq_true rfl⟩ hP hD hS hA [1] [0, 2, 3, 4] rfl rfl (by decide) (fun _ => rfl) 1 rfl rfl rfl hl.1 rfl (Nat.le_of_ble_eq_true rfl) dX11_fresh_12 ⟨rfl, rfl⟩ ⟨Nat.le_of_ble_eq_true rfl, Nat.le_of_ble_eq_true rfl⟩ (fun _ H locs hP hD hS => ?_)
  refine lv_aload_n hx hb dX11_fresh_15 rfl (lv_at hl 1 rfl) ?_
  refine x_get E iX11 hP 0 rfl rfl 9 (by decide) wq83 rfl dX11_fresh_16 ?_
  refine x_Vv (rest := []) (ws' := fun _ => [(h0, .inr (11, [v0_0, v0_1, v0_2, v0_3, v0_4, .ref h4, v0_6, .ref h1, v0_8, .ref h2, v0_10, v0_11, v0_12, v0_13, v0_14, v0_15])), (h4, .inr (0, [v4_0, v4_1, v4_2, v4_3, v4_4, v4_5, v4_6, v4_7, v4_8, v4_9, v4_10, v4_11, .int 3, v4_13])), (h1, .inr (9, [v1_0, v1_1, v1_2, v1_3, v1_4, v1_5, v1_6, v1_7, v1_8, .int 0, .int 0, .int 0, v1_12, v1_13, v1_14])), (h2, .inr (3, [v2_0, v2_1, v2_2, .ref h3, v2_4, v2_5, v2_6, v2_7])), (h3, .inl (cyI, 10, .inl (fun _ => 0)))]) (wr := [(h0, .inr (11, [v0_0, v0_1, v0_2, v0_3, v0_4, .ref h4, v0_6, .ref h1, v0_8, .ref h2, v0_10, v0_11, v0_12, v0_13, v0_14, v0_15])), (h4, .inr (0, [v4_0, v4_1, v4_2, v4_3, v4_4, v4_5, v4_6, v4_7, v4_8, v4_9, v4_10, v4_11, .int 3, v4_13])), (h1, .inr (9, [v1_0, v1_1, v1_2, v1_3, v1_4, v1_5, v1_6, v1_7, v1_8, .int 0, .int 0, .int 0, v1_12, v1_13, v1_14]))]) E (mX3_clear l D cyI cyJ Z h2 h3 v2_0 v2_1 v2_2 v2_4 v2_5 v2_6 v2_7 f3) kX3_clear wq429 wq430 wq431 ⟨rfl, rfl, Nat.le_of_ble_eq_true rfl, Nat.le_of_ble_eq_true rfl⟩ hP hD hS hA [1, 2] [0, 3, 4] rfl rfl (by decide) (fun _ => rfl) 1 rfl rfl rfl hl.1 rfl (Nat.le_of_ble_eq_true rfl) dX11_fresh_19 ⟨rfl, rfl⟩ ⟨Nat.le_of_ble_eq_true rfl, Nat.le_of_ble_eq_true rfl⟩ (fun _ H locs hP hD hS => ?_)
  refine lv_aload_n hx hb dX11_fresh_22 rfl (lv_at hl 1 rfl) ?_
  refine x_get E iX11 hP 0 rfl rfl 5 (by decide) wq36 rfl dX11_fresh_23 ?_
  refine x_Vv (rest := []) (ws' := fun _ => [(h0, .inr (11, [v0_0, v0_1, v0_2, v0_3, v0_4, .ref h4, v0_6, .ref h1, v0_8, .ref h2, v0_10, v0_11, v0_12, v0_13, v0_14, v0_15])), (h1, .inr (9, [v1_0, v1_1, v1_2, v1_3, v1_4, v1_5, v1_6, v1_7, v1_8, .int 0, .int 0, .int 0, v1_12, v1_13, v1_14])), (h2, .inr (3, [v2_0, v2_1, v2_2, .ref h3, v2_4, v2_5, v2_6, v2_7])), (h3, .inl (cyI, 10, .inl (fun _ => 0))), (h4, .inr (0, [v4_0, v4_1, v4_2, v4_3, v4_4, v4_5, v4_6, v4_7, v4_8, v4_9, v4_10, v4_11, .int 3, .int 3]))]) (wr := [(h0, .inr (11, [v0_0, v0_1, v0_2, v0_3, v0_4, .ref h4, v0_6, .ref h1, v0_8, .ref h2, v0_10, v0_11, v0_12, v0_13, v0_14, v0_15])), (h1, .inr (9, [v1_0, v1_1, v1_2, v1_3, v1_4, v1_5, v1_6, v1_7, v1_8, .int 0, .int 0, .int 0, v1_12, v1_13, v1_14])), (h2, .inr (3, [v2_0, v2_1, v2_2, .ref h3, v2_4, v2_5, v2_6, v2_7])), (h3, .inl (cyI, 10, .inl (fun _ => 0)))]) E (mX0_clear l D cyI cyJ Z h4 v4_0 v4_1 v4_2 v4_3 v4_4 v4_5 v4_6 v4_7 v4_8 v4_9 v4_10 v4_11 v4_13) kX0_clear wq433 wq434 wq435 ⟨rfl, rfl, Nat.le_of_ble_eq_true rfl, Nat.le_of_ble_eq_true rfl⟩ hP hD hS hA [1] [0, 2, 3, 4] rfl rfl (by decide) (fun _ => rfl) 1 rfl rfl rfl hl.1 rfl (Nat.le_of_ble_eq_true rfl) dX11_fresh_26 ⟨rfl, rfl⟩ ⟨Nat.le_of_ble_eq_true rfl, Nat.le_of_ble_eq_true rfl⟩ (fun _ H locs hP hD hS => ?_)
  refine lv_iload_n hx hb dX11_fresh_29 rfl (lv_at hl 0 rfl) ?_
  exact x_iret E hr hlk hP hD hS () rfl [] (by decide) rfl rfl dX11_fresh_30

set_option maxHeartbeats 4000000 in
set_option maxRecDepth 100000 in
theorem mX12_fresh (l : Launch) (D : va_G) (cyI cyJ : ClassId) (Z : xZ) (h0 : Nat) (h1 : Nat) (v0_0 : Value) (v0_1 : Value) (v0_2 : Value) (v0_3 : Value) (v0_4 : Value) (v0_5 : Value) (v0_6 : Value) (v0_7 : Value) (v0_8 : Value) (v0_9 : Value) (v0_10 : Value) (v0_11 : Value) (v0_12 : Value) (v0_13 : Value) (v0_14 : Value) (v0_15 : Value) (v0_16 : Value) (v0_17 : Value) (v0_18 : Value) (v0_19 : Value) (v0_20 : Value) (v0_21 : Value) (v0_22 : Value) (v0_23 : Value) (v0_24 : Value) (v0_25 : Value) (v0_26 : Value) (v0_27 : Value) (v0_29 : Value) (v0_30 : Value) (v0_31 : Value) (v0_32 : Value) (v0_33 : Value) (v0_34 : Value) (v0_35 : Value) (v0_36 : Value) (v0_37 : Value) (v0_38 : Value) (v0_39 : Value) (v0_40 : Value) (v0_41 : Value) (v0_42 : Value) (v0_43 : Value) (v0_44 : Value) (v0_45 : Value) (v0_46 : Value) (v0_47 : Value) (v0_48 : Value) (v0_49 : Value) (v0_51 : Value) (v0_52 : Value) (v0_53 : Value) (v0_54 : Value) (v0_55 : Value) (v0_56 : Value) (v0_57 : Value) (v0_58 : Value) (v0_59 : Value) (v0_60 : Value) (v0_61 : Value) (v0_62 : Value) (v0_63 : Value) (v0_64 : Value) (f1 : Nat → Int32) : MetI l yX12_fresh (Cond.code yX12_fresh cX12_fresh 3 (some .int)) { frames := 0, cells := 0, slots := 0, locals := 0 } D cyI cyJ Z [.ref h0] [(h0, .inr (12, [v0_0, v0_1, v0_2, v0_3, v0_4, v0_5, v0_6, v0_7, v0_8, v0_9, v0_10, v0_11, v0_12, v0_13, v0_14, v0_15, v0_16, v0_17, v0_18, v0_19, v0_20, v0_21, v0_22, v0_23, v0_24, v0_25, v0_26, v0_27, .int 0, v0_29, v0_30, v0_31, v0_32, v0_33, v0_34, v0_35, v0_36, v0_37, v0_38, v0_39, v0_40, v0_41, v0_42, v0_43, v0_44, v0_45, v0_46, v0_47, v0_48, v0_49, .ref h1, v0_51, v0_52, v0_53, v0_54, v0_55, v0_56, v0_57, v0_58, v0_59, v0_60, v0_61, v0_62, v0_63, v0_64])), (h1, .inl (cyI, 10, .inl f1))] (fun _ : Unit => 0) (fun _ : Unit => ([] : va_W)) 0 0 := by
  refine met_i (by decide) rfl ?_
  intro p e s m below meth c A ls E hr hlk hP hD hA hl
  have hS : va_S A s.heap s.heap [] := va_S.rf
  have hx := E.1.1
  have hb := E.1.2.1
  have hl : lv_has ls 3 [(0, .ref h0)] := hl
  refine lv_aload_n hx hb dX12_fresh_0 rfl (lv_at hl 0 rfl) ?_
  refine lv_iconst (v := 0) hx hb dX12_fresh_1 (by decide) ?_
  refine x_put (ws' := [(h0, .inr (12, [.int 0, v0_1, v0_2, v0_3, v0_4, v0_5, v0_6, v0_7, v0_8, v0_9, v0_10, v0_11, v0_12, v0_13, v0_14, v0_15, v0_16, v0_17, v0_18, v0_19, v0_20, v0_21, v0_22, v0_23, v0_24, v0_25, v0_26, v0_27, .int 0, v0_29, v0_30, v0_31, v0_32, v0_33, v0_34, v0_35, v0_36, v0_37, v0_38, v0_39, v0_40, v0_41, v0_42, v0_43, v0_44, v0_45, v0_46, v0_47, v0_48, v0_49, .ref h1, v0_51, v0_52, v0_53, v0_54, v0_55, v0_56, v0_57, v0_58, v0_59, v0_60, v0_61, v0_62, v0_63, v0_64])), (h1, .inl (cyI, 10, .inl f1))]) E iX12 tyX12 tyX12_ok nmX12 hP hD hS 0 rfl rfl 0 (by decide) wq202 rfl rfl rfl rfl rfl dX12_fresh_2 (fun H locs hP hD hS => ?_)
  refine lv_aload_n hx hb dX12_fresh_5 rfl (lv_at hl 0 rfl) ?_
  refine x_get E iX12 hP 0 rfl rfl 28 (by decide) wq290 rfl dX12_fresh_6 ?_
  refine lv_istore_n (lv' := [(1, .int 0), (0, .ref h0)]) hx hb dX12_fresh_9 rfl hl (by decide) rfl (fun ls hl => ?_)
  refine lv_aload_n hx hb dX12_fresh_10 rfl (lv_at hl 1 rfl) ?_
  refine lv_iconst (v := 0) hx hb dX12_fresh_11 (by decide) ?_
  refine x_put (ws' := [(h0, .inr (12, [.int 0, v0_1, v0_2, v0_3, v0_4, v0_5, v0_6, v0_7, v0_8, v0_9, v0_10, v0_11, v0_12, v0_13, v0_14, v0_15, v0_16, v0_17, v0_18, v0_19, v0_20, v0_21, v0_22, v0_23, v0_24, v0_25, .int 0, v0_27, .int 0, v0_29, v0_30, v0_31, v0_32, v0_33, v0_34, v0_35, v0_36, v0_37, v0_38, v0_39, v0_40, v0_41, v0_42, v0_43, v0_44, v0_45, v0_46, v0_47, v0_48, v0_49, .ref h1, v0_51, v0_52, v0_53, v0_54, v0_55, v0_56, v0_57, v0_58, v0_59, v0_60, v0_61, v0_62, v0_63, v0_64])), (h1, .inl (cyI, 10, .inl f1))]) E iX12 tyX12 tyX12_ok nmX12 hP hD hS 0 rfl rfl 26 (by decide) wq288 rfl rfl rfl rfl rfl dX12_fresh_12 (fun H locs hP hD hS => ?_)
  refine lv_aload_n hx hb dX12_fresh_15 rfl (lv_at hl 1 rfl) ?_
  refine lv_iconst (v := 0) hx hb dX12_fresh_16 (by decide) ?_
  refine x_put (ws' := [(h0, .inr (12, [.int 0, v0_1, v0_2, v0_3, v0_4, v0_5, v0_6, v0_7, v0_8, v0_9, v0_10, v0_11, v0_12, v0_13, v0_14, v0_15, v0_16, v0_17, v0_18, v0_19, v0_20, v0_21, v0_22, v0_23, v0_24, v0_25, .int 0, .int 0, .int 0, v0_29, v0_30, v0_31, v0_32, v0_33, v0_34, v0_35, v0_36, v0_37, v0_38, v0_39, v0_40, v0_41, v0_42, v0_43, v0_44, v0_45, v0_46, v0_47, v0_48, v0_49, .ref h1, v0_51, v0_52, v0_53, v0_54, v0_55, v0_56, v0_57, v0_58, v0_59, v0_60, v0_61, v0_62, v0_63, v0_64])), (h1, .inl (cyI, 10, .inl f1))]) E iX12 tyX12 tyX12_ok nmX12 hP hD hS 0 rfl rfl 27 (by decide) wq289 rfl rfl rfl rfl rfl dX12_fresh_17 (fun H locs hP hD hS => ?_)
  refine lv_aload_n hx hb dX12_fresh_20 rfl (lv_at hl 1 rfl) ?_
  refine lv_iconst (v := 0) hx hb dX12_fresh_21 (by decide) ?_
  refine x_put (ws' := [(h0, .inr (12, [.int 0, v0_1, v0_2, v0_3, v0_4, v0_5, v0_6, v0_7, v0_8, v0_9, v0_10, v0_11, v0_12, v0_13, v0_14, v0_15, v0_16, v0_17, v0_18, v0_19, v0_20, v0_21, v0_22, v0_23, v0_24, v0_25, .int 0, .int 0, .int 0, v0_29, v0_30, v0_31, v0_32, v0_33, v0_34, v0_35, v0_36, v0_37, v0_38, v0_39, v0_40, v0_41, v0_42, v0_43, v0_44, v0_45, v0_46, v0_47, v0_48, v0_49, .ref h1, v0_51, v0_52, v0_53, v0_54, v0_55, v0_56, v0_57, v0_58, v0_59, v0_60, v0_61, v0_62, v0_63, v0_64])), (h1, .inl (cyI, 10, .inl f1))]) E iX12 tyX12 tyX12_ok nmX12 hP hD hS 0 rfl rfl 28 (by decide) wq290 rfl rfl rfl rfl rfl dX12_fresh_22 (fun H locs hP hD hS => ?_)
  refine lv_iconst (v := 0) hx hb dX12_fresh_25 (by decide) ?_
  refine lv_istore_n (lv' := [(2, .int 0), (1, .int 0), (0, .ref h0)]) hx hb dX12_fresh_26 rfl hl (by decide) rfl (fun ls hl => ?_)
  refine lv_iload_n hx hb dX12_fresh_27 rfl (lv_at hl 0 rfl) ?_
  refine lv_bipush (v := 10) hx hb dX12_fresh_28 (by decide) ?_
  refine lv_icmp_ge (tgt := 46) hx hb dX12_fresh_30 (by decide) (fun c9 => absurd c9 (by decide)) (fun c9 => ?_)
  refine lv_aload_n hx hb dX12_fresh_33 rfl (lv_at hl 2 rfl) ?_
  refine x_get E iX12 hP 0 rfl rfl 50 (by decide) wq193 rfl dX12_fresh_34 ?_
  refine lv_iload_n hx hb dX12_fresh_37 rfl (lv_at hl 0 rfl) ?_
  refine lv_iconst (v := 0) hx hb dX12_fresh_38 (by decide) ?_
  refine x_iastG (wg := fun g1 => [(h0, .inr (12, [.int 0, v0_1, v0_2, v0_3, v0_4, v0_5, v0_6, v0_7, v0_8, v0_9, v0_10, v0_11, v0_12, v0_13, v0_14, v0_15, v0_16, v0_17, v0_18, v0_19, v0_20, v0_21, v0_22, v0_23, v0_24, v0_25, .int 0, .int 0, .int 0, v0_29, v0_30, v0_31, v0_32, v0_33, v0_34, v0_35, v0_36, v0_37, v0_38, v0_39, v0_40, v0_41, v0_42, v0_43, v0_44, v0_45, v0_46, v0_47, v0_48, v0_49, .ref h1, v0_51, v0_52, v0_53, v0_54, v0_55, v0_56, v0_57, v0_58, v0_59, v0_60, v0_61, v0_62, v0_63, v0_64])), (h1, .inl (cyI, 10, .inl g1))]) E hP hD hS 1 rfl (by decide) (fun _ => rfl) dX12_fresh_39 (fun g1 H locs hP hD hS => ?_)
  refine lv_iinc (v := 1) (lv' := [(2, .int 1), (1, .int 0), (0, .ref h0)]) hx hb dX12_fresh_40 hl (k := 0) rfl (by decide) (by decide) rfl (fun ls hl => ?_)
  refine lv_goto (tgt := 27) hx hb dX12_fresh_43 (by decide) ?_
  refine lv_iload_n hx hb dX12_fresh_27 rfl (lv_at hl 0 rfl) ?_
  refine lv_bipush (v := 10) hx hb dX12_fresh_28 (by decide) ?_
  refine lv_icmp_ge (tgt := 46) hx hb dX12_fresh_30 (by decide) (fun c9 => absurd c9 (by decide)) (fun c9 => ?_)
  refine lv_aload_n hx hb dX12_fresh_33 rfl (lv_at hl 2 rfl) ?_
  refine x_get E iX12 hP 0 rfl rfl 50 (by decide) wq193 rfl dX12_fresh_34 ?_
  refine lv_iload_n hx hb dX12_fresh_37 rfl (lv_at hl 0 rfl) ?_
  refine lv_iconst (v := 0) hx hb dX12_fresh_38 (by decide) ?_
  refine x_iastG (wg := fun g2 => [(h0, .inr (12, [.int 0, v0_1, v0_2, v0_3, v0_4, v0_5, v0_6, v0_7, v0_8, v0_9, v0_10, v0_11, v0_12, v0_13, v0_14, v0_15, v0_16, v0_17, v0_18, v0_19, v0_20, v0_21, v0_22, v0_23, v0_24, v0_25, .int 0, .int 0, .int 0, v0_29, v0_30, v0_31, v0_32, v0_33, v0_34, v0_35, v0_36, v0_37, v0_38, v0_39, v0_40, v0_41, v0_42, v0_43, v0_44, v0_45, v0_46, v0_47, v0_48, v0_49, .ref h1, v0_51, v0_52, v0_53, v0_54, v0_55, v0_56, v0_57, v0_58, v0_59, v0_60, v0_61, v0_62, v0_63, v0_64])), (h1, .inl (cyI, 10, .inl g2))]) E hP hD hS 1 rfl (by decide) (fun _ => rfl) dX12_fresh_39 (fun g2 H locs hP hD hS => ?_)
  refine lv_iinc (v := 2) (lv' := [(2, .int 2), (1, .int 0), (0, .ref h0)]) hx hb dX12_fresh_40 hl (k := 0) rfl (by decide) (by decide) rfl (fun ls hl => ?_)
  refine lv_goto (tgt := 27) hx hb dX12_fresh_43 (by decide) ?_
  refine lv_iload_n hx hb dX12_fresh_27 rfl (lv_at hl 0 rfl) ?_
  refine lv_bipush (v := 10) hx hb dX12_fresh_28 (by decide) ?_
  refine lv_icmp_ge (tgt := 46) hx hb dX12_fresh_30 (by decide) (fun c9 => absurd c9 (by decide)) (fun c9 => ?_)
  refine lv_aload_n hx hb dX12_fresh_33 rfl (lv_at hl 2 rfl) ?_
  refine x_get E iX12 hP 0 rfl rfl 50 (by decide) wq193 rfl dX12_fresh_34 ?_
  refine lv_iload_n hx hb dX12_fresh_37 rfl (lv_at hl 0 rfl) ?_
  refine lv_iconst (v := 0) hx hb dX12_fresh_38 (by decide) ?_
  refine x_iastG (wg := fun g3 => [(h0, .inr (12, [.int 0, v0_1, v0_2, v0_3, v0_4, v0_5, v0_6, v0_7, v0_8, v0_9, v0_10, v0_11, v0_12, v0_13, v0_14, v0_15, v0_16, v0_17, v0_18, v0_19, v0_20, v0_21, v0_22, v0_23, v0_24, v0_25, .int 0, .int 0, .int 0, v0_29, v0_30, v0_31, v0_32, v0_33, v0_34, v0_35, v0_36, v0_37, v0_38, v0_39, v0_40, v0_41, v0_42, v0_43, v0_44, v0_45, v0_46, v0_47, v0_48, v0_49, .ref h1, v0_51, v0_52, v0_53, v0_54, v0_55, v0_56, v0_57, v0_58, v0_59, v0_60, v0_61, v0_62, v0_63, v0_64])), (h1, .inl (cyI, 10, .inl g3))]) E hP hD hS 1 rfl (by decide) (fun _ => rfl) dX12_fresh_39 (fun g3 H locs hP hD hS => ?_)
  refine lv_iinc (v := 3) (lv' := [(2, .int 3), (1, .int 0), (0, .ref h0)]) hx hb dX12_fresh_40 hl (k := 0) rfl (by decide) (by decide) rfl (fun ls hl => ?_)
  refine lv_goto (tgt := 27) hx hb dX12_fresh_43 (by decide) ?_
  refine lv_iload_n hx hb dX12_fresh_27 rfl (lv_at hl 0 rfl) ?_
  refine lv_bipush (v := 10) hx hb dX12_fresh_28 (by decide) ?_
  refine lv_icmp_ge (tgt := 46) hx hb dX12_fresh_30 (by decide) (fun c9 => absurd c9 (by decide)) (fun c9 => ?_)
  refine lv_aload_n hx hb dX12_fresh_33 rfl (lv_at hl 2 rfl) ?_
  refine x_get E iX12 hP 0 rfl rfl 50 (by decide) wq193 rfl dX12_fresh_34 ?_
  refine lv_iload_n hx hb dX12_fresh_37 rfl (lv_at hl 0 rfl) ?_
  refine lv_iconst (v := 0) hx hb dX12_fresh_38 (by decide) ?_
  refine x_iastG (wg := fun g4 => [(h0, .inr (12, [.int 0, v0_1, v0_2, v0_3, v0_4, v0_5, v0_6, v0_7, v0_8, v0_9, v0_10, v0_11, v0_12, v0_13, v0_14, v0_15, v0_16, v0_17, v0_18, v0_19, v0_20, v0_21, v0_22, v0_23, v0_24, v0_25, .int 0, .int 0, .int 0, v0_29, v0_30, v0_31, v0_32, v0_33, v0_34, v0_35, v0_36, v0_37, v0_38, v0_39, v0_40, v0_41, v0_42, v0_43, v0_44, v0_45, v0_46, v0_47, v0_48, v0_49, .ref h1, v0_51, v0_52, v0_53, v0_54, v0_55, v0_56, v0_57, v0_58, v0_59, v0_60, v0_61, v0_62, v0_63, v0_64])), (h1, .inl (cyI, 10, .inl g4))]) E hP hD hS 1 rfl (by decide) (fun _ => rfl) dX12_fresh_39 (fun g4 H locs hP hD hS => ?_)
  refine lv_iinc (v := 4) (lv' := [(2, .int 4), (1, .int 0), (0, .ref h0)]) hx hb dX12_fresh_40 hl (k := 0) rfl (by decide) (by decide) rfl (fun ls hl => ?_)
  refine lv_goto (tgt := 27) hx hb dX12_fresh_43 (by decide) ?_
  refine lv_iload_n hx hb dX12_fresh_27 rfl (lv_at hl 0 rfl) ?_
  refine lv_bipush (v := 10) hx hb dX12_fresh_28 (by decide) ?_
  refine lv_icmp_ge (tgt := 46) hx hb dX12_fresh_30 (by decide) (fun c9 => absurd c9 (by decide)) (fun c9 => ?_)
  refine lv_aload_n hx hb dX12_fresh_33 rfl (lv_at hl 2 rfl) ?_
  refine x_get E iX12 hP 0 rfl rfl 50 (by decide) wq193 rfl dX12_fresh_34 ?_
  refine lv_iload_n hx hb dX12_fresh_37 rfl (lv_at hl 0 rfl) ?_
  refine lv_iconst (v := 0) hx hb dX12_fresh_38 (by decide) ?_
  refine x_iastG (wg := fun g5 => [(h0, .inr (12, [.int 0, v0_1, v0_2, v0_3, v0_4, v0_5, v0_6, v0_7, v0_8, v0_9, v0_10, v0_11, v0_12, v0_13, v0_14, v0_15, v0_16, v0_17, v0_18, v0_19, v0_20, v0_21, v0_22, v0_23, v0_24, v0_25, .int 0, .int 0, .int 0, v0_29, v0_30, v0_31, v0_32, v0_33, v0_34, v0_35, v0_36, v0_37, v0_38, v0_39, v0_40, v0_41, v0_42, v0_43, v0_44, v0_45, v0_46, v0_47, v0_48, v0_49, .ref h1, v0_51, v0_52, v0_53, v0_54, v0_55, v0_56, v0_57, v0_58, v0_59, v0_60, v0_61, v0_62, v0_63, v0_64])), (h1, .inl (cyI, 10, .inl g5))]) E hP hD hS 1 rfl (by decide) (fun _ => rfl) dX12_fresh_39 (fun g5 H locs hP hD hS => ?_)
  refine lv_iinc (v := 5) (lv' := [(2, .int 5), (1, .int 0), (0, .ref h0)]) hx hb dX12_fresh_40 hl (k := 0) rfl (by decide) (by decide) rfl (fun ls hl => ?_)
  refine lv_goto (tgt := 27) hx hb dX12_fresh_43 (by decide) ?_
  refine lv_iload_n hx hb dX12_fresh_27 rfl (lv_at hl 0 rfl) ?_
  refine lv_bipush (v := 10) hx hb dX12_fresh_28 (by decide) ?_
  refine lv_icmp_ge (tgt := 46) hx hb dX12_fresh_30 (by decide) (fun c9 => absurd c9 (by decide)) (fun c9 => ?_)
  refine lv_aload_n hx hb dX12_fresh_33 rfl (lv_at hl 2 rfl) ?_
  refine x_get E iX12 hP 0 rfl rfl 50 (by decide) wq193 rfl dX12_fresh_34 ?_
  refine lv_iload_n hx hb dX12_fresh_37 rfl (lv_at hl 0 rfl) ?_
  refine lv_iconst (v := 0) hx hb dX12_fresh_38 (by decide) ?_
  refine x_iastG (wg := fun g6 => [(h0, .inr (12, [.int 0, v0_1, v0_2, v0_3, v0_4, v0_5, v0_6, v0_7, v0_8, v0_9, v0_10, v0_11, v0_12, v0_13, v0_14, v0_15, v0_16, v0_17, v0_18, v0_19, v0_20, v0_21, v0_22, v0_23, v0_24, v0_25, .int 0, .int 0, .int 0, v0_29, v0_30, v0_31, v0_32, v0_33, v0_34, v0_35, v0_36, v0_37, v0_38, v0_39, v0_40, v0_41, v0_42, v0_43, v0_44, v0_45, v0_46, v0_47, v0_48, v0_49, .ref h1, v0_51, v0_52, v0_53, v0_54, v0_55, v0_56, v0_57, v0_58, v0_59, v0_60, v0_61, v0_62, v0_63, v0_64])), (h1, .inl (cyI, 10, .inl g6))]) E hP hD hS 1 rfl (by decide) (fun _ => rfl) dX12_fresh_39 (fun g6 H locs hP hD hS => ?_)
  refine lv_iinc (v := 6) (lv' := [(2, .int 6), (1, .int 0), (0, .ref h0)]) hx hb dX12_fresh_40 hl (k := 0) rfl (by decide) (by decide) rfl (fun ls hl => ?_)
  refine lv_goto (tgt := 27) hx hb dX12_fresh_43 (by decide) ?_
  refine lv_iload_n hx hb dX12_fresh_27 rfl (lv_at hl 0 rfl) ?_
  refine lv_bipush (v := 10) hx hb dX12_fresh_28 (by decide) ?_
  refine lv_icmp_ge (tgt := 46) hx hb dX12_fresh_30 (by decide) (fun c9 => absurd c9 (by decide)) (fun c9 => ?_)
  refine lv_aload_n hx hb dX12_fresh_33 rfl (lv_at hl 2 rfl) ?_
  refine x_get E iX12 hP 0 rfl rfl 50 (by decide) wq193 rfl dX12_fresh_34 ?_
  refine lv_iload_n hx hb dX12_fresh_37 rfl (lv_at hl 0 rfl) ?_
  refine lv_iconst (v := 0) hx hb dX12_fresh_38 (by decide) ?_
  refine x_iastG (wg := fun g7 => [(h0, .inr (12, [.int 0, v0_1, v0_2, v0_3, v0_4, v0_5, v0_6, v0_7, v0_8, v0_9, v0_10, v0_11, v0_12, v0_13, v0_14, v0_15, v0_16, v0_17, v0_18, v0_19, v0_20, v0_21, v0_22, v0_23, v0_24, v0_25, .int 0, .int 0, .int 0, v0_29, v0_30, v0_31, v0_32, v0_33, v0_34, v0_35, v0_36, v0_37, v0_38, v0_39, v0_40, v0_41, v0_42, v0_43, v0_44, v0_45, v0_46, v0_47, v0_48, v0_49, .ref h1, v0_51, v0_52, v0_53, v0_54, v0_55, v0_56, v0_57, v0_58, v0_59, v0_60, v0_61, v0_62, v0_63, v0_64])), (h1, .inl (cyI, 10, .inl g7))]) E hP hD hS 1 rfl (by decide) (fun _ => rfl) dX12_fresh_39 (fun g7 H locs hP hD hS => ?_)
  refine lv_iinc (v := 7) (lv' := [(2, .int 7), (1, .int 0), (0, .ref h0)]) hx hb dX12_fresh_40 hl (k := 0) rfl (by decide) (by decide) rfl (fun ls hl => ?_)
  refine lv_goto (tgt := 27) hx hb dX12_fresh_43 (by decide) ?_
  refine lv_iload_n hx hb dX12_fresh_27 rfl (lv_at hl 0 rfl) ?_
  refine lv_bipush (v := 10) hx hb dX12_fresh_28 (by decide) ?_
  refine lv_icmp_ge (tgt := 46) hx hb dX12_fresh_30 (by decide) (fun c9 => absurd c9 (by decide)) (fun c9 => ?_)
  refine lv_aload_n hx hb dX12_fresh_33 rfl (lv_at hl 2 rfl) ?_
  refine x_get E iX12 hP 0 rfl rfl 50 (by decide) wq193 rfl dX12_fresh_34 ?_
  refine lv_iload_n hx hb dX12_fresh_37 rfl (lv_at hl 0 rfl) ?_
  refine lv_iconst (v := 0) hx hb dX12_fresh_38 (by decide) ?_
  refine x_iastG (wg := fun g8 => [(h0, .inr (12, [.int 0, v0_1, v0_2, v0_3, v0_4, v0_5, v0_6, v0_7, v0_8, v0_9, v0_10, v0_11, v0_12, v0_13, v0_14, v0_15, v0_16, v0_17, v0_18, v0_19, v0_20, v0_21, v0_22, v0_23, v0_24, v0_25, .int 0, .int 0, .int 0, v0_29, v0_30, v0_31, v0_32, v0_33, v0_34, v0_35, v0_36, v0_37, v0_38, v0_39, v0_40, v0_41, v0_42, v0_43, v0_44, v0_45, v0_46, v0_47, v0_48, v0_49, .ref h1, v0_51, v0_52, v0_53, v0_54, v0_55, v0_56, v0_57, v0_58, v0_59, v0_60, v0_61, v0_62, v0_63, v0_64])), (h1, .inl (cyI, 10, .inl g8))]) E hP hD hS 1 rfl (by decide) (fun _ => rfl) dX12_fresh_39 (fun g8 H locs hP hD hS => ?_)
  refine lv_iinc (v := 8) (lv' := [(2, .int 8), (1, .int 0), (0, .ref h0)]) hx hb dX12_fresh_40 hl (k := 0) rfl (by decide) (by decide) rfl (fun ls hl => ?_)
  refine lv_goto (tgt := 27) hx hb dX12_fresh_43 (by decide) ?_
  refine lv_iload_n hx hb dX12_fresh_27 rfl (lv_at hl 0 rfl) ?_
  refine lv_bipush (v := 10) hx hb dX12_fresh_28 (by decide) ?_
  refine lv_icmp_ge (tgt := 46) hx hb dX12_fresh_30 (by decide) (fun c9 => absurd c9 (by decide)) (fun c9 => ?_)
  refine lv_aload_n hx hb dX12_fresh_33 rfl (lv_at hl 2 rfl) ?_
  refine x_get E iX12 hP 0 rfl rfl 50 (by decide) wq193 rfl dX12_fresh_34 ?_
  refine lv_iload_n hx hb dX12_fresh_37 rfl (lv_at hl 0 rfl) ?_
  refine lv_iconst (v := 0) hx hb dX12_fresh_38 (by decide) ?_
  refine x_iastG (wg := fun g9 => [(h0, .inr (12, [.int 0, v0_1, v0_2, v0_3, v0_4, v0_5, v0_6, v0_7, v0_8, v0_9, v0_10, v0_11, v0_12, v0_13, v0_14, v0_15, v0_16, v0_17, v0_18, v0_19, v0_20, v0_21, v0_22, v0_23, v0_24, v0_25, .int 0, .int 0, .int 0, v0_29, v0_30, v0_31, v0_32, v0_33, v0_34, v0_35, v0_36, v0_37, v0_38, v0_39, v0_40, v0_41, v0_42, v0_43, v0_44, v0_45, v0_46, v0_47, v0_48, v0_49, .ref h1, v0_51, v0_52, v0_53, v0_54, v0_55, v0_56, v0_57, v0_58, v0_59, v0_60, v0_61, v0_62, v0_63, v0_64])), (h1, .inl (cyI, 10, .inl g9))]) E hP hD hS 1 rfl (by decide) (fun _ => rfl) dX12_fresh_39 (fun g9 H locs hP hD hS => ?_)
  refine lv_iinc (v := 9) (lv' := [(2, .int 9), (1, .int 0), (0, .ref h0)]) hx hb dX12_fresh_40 hl (k := 0) rfl (by decide) (by decide) rfl (fun ls hl => ?_)
  refine lv_goto (tgt := 27) hx hb dX12_fresh_43 (by decide) ?_
  refine lv_iload_n hx hb dX12_fresh_27 rfl (lv_at hl 0 rfl) ?_
  refine lv_bipush (v := 10) hx hb dX12_fresh_28 (by decide) ?_
  refine lv_icmp_ge (tgt := 46) hx hb dX12_fresh_30 (by decide) (fun c9 => absurd c9 (by decide)) (fun c9 => ?_)
  refine lv_aload_n hx hb dX12_fresh_33 rfl (lv_at hl 2 rfl) ?_
  refine x_get E iX12 hP 0 rfl rfl 50 (by decide) wq193 rfl dX12_fresh_34 ?_
  refine lv_iload_n hx hb dX12_fresh_37 rfl (lv_at hl 0 rfl) ?_
  refine lv_iconst (v := 0) hx hb dX12_fresh_38 (by decide) ?_
  refine x_iastG (wg := fun g10 => [(h0, .inr (12, [.int 0, v0_1, v0_2, v0_3, v0_4, v0_5, v0_6, v0_7, v0_8, v0_9, v0_10, v0_11, v0_12, v0_13, v0_14, v0_15, v0_16, v0_17, v0_18, v0_19, v0_20, v0_21, v0_22, v0_23, v0_24, v0_25, .int 0, .int 0, .int 0, v0_29, v0_30, v0_31, v0_32, v0_33, v0_34, v0_35, v0_36, v0_37, v0_38, v0_39, v0_40, v0_41, v0_42, v0_43, v0_44, v0_45, v0_46, v0_47, v0_48, v0_49, .ref h1, v0_51, v0_52, v0_53, v0_54, v0_55, v0_56, v0_57, v0_58, v0_59, v0_60, v0_61, v0_62, v0_63, v0_64])), (h1, .inl (cyI, 10, .inl g10))]) E hP hD hS 1 rfl (by decide) (fun _ => rfl) dX12_fresh_39 (fun g10 H locs hP hD hS => ?_)
  refine lv_iinc (v := 10) (lv' := [(2, .int 10), (1, .int 0), (0, .ref h0)]) hx hb dX12_fresh_40 hl (k := 0) rfl (by decide) (by decide) rfl (fun ls hl => ?_)
  refine lv_goto (tgt := 27) hx hb dX12_fresh_43 (by decide) ?_
  refine lv_iload_n hx hb dX12_fresh_27 rfl (lv_at hl 0 rfl) ?_
  refine lv_bipush (v := 10) hx hb dX12_fresh_28 (by decide) ?_
  refine lv_icmp_ge (tgt := 46) hx hb dX12_fresh_30 (by decide) (fun c9 => ?_) (fun c9 => absurd (by decide) c9)
  refine lv_iload_n hx hb dX12_fresh_46 rfl (lv_at hl 1 rfl) ?_
  exact x_iret E hr hlk hP hD hS () rfl [] (by decide) rfl rfl dX12_fresh_47

set_option maxHeartbeats 4000000 in
set_option maxRecDepth 100000 in
theorem mX11_fault (l : Launch) (D : va_G) (cyI cyJ : ClassId) (Z : xZ) (h0 : Nat) (v0_0 : Value) (v0_1 : Value) (v0_3 : Value) (v0_4 : Value) (v0_5 : Value) (v0_6 : Value) (v0_7 : Value) (v0_8 : Value) (v0_9 : Value) (v0_10 : Value) (v0_11 : Value) (v0_12 : Value) (v0_13 : Value) (v0_14 : Value) (v0_15 : Value) : MetI l yX11_fault (Cond.code yX11_fault cX11_fault 1 (some .int)) { frames := 0, cells := 0, slots := 0, locals := 0 } D cyI cyJ Z [.ref h0] [(h0, .inr (11, [v0_0, v0_1, .int 0, v0_3, v0_4, v0_5, v0_6, v0_7, v0_8, v0_9, v0_10, v0_11, v0_12, v0_13, v0_14, v0_15]))] (fun _ : Unit => 0) (fun _ : Unit => ([] : va_W)) 0 0 := by
  refine met_i (by decide) rfl ?_
  intro p e s m below meth c A ls E hr hlk hP hD hA hl
  have hS : va_S A s.heap s.heap [] := va_S.rf
  have hx := E.1.1
  have hb := E.1.2.1
  have hl : lv_has ls 1 [(0, .ref h0)] := hl
  refine lv_aload_n hx hb dX11_fault_0 rfl (lv_at hl 0 rfl) ?_
  refine x_get E iX11 hP 0 rfl rfl 2 (by decide) wq259 rfl dX11_fault_1 ?_
  exact x_iret E hr hlk hP hD hS () rfl [] (by decide) rfl rfl dX11_fault_4

set_option maxHeartbeats 4000000 in
set_option maxRecDepth 100000 in
theorem mX12_fault (l : Launch) (D : va_G) (cyI cyJ : ClassId) (Z : xZ) (h0 : Nat) (v0_0 : Value) (v0_1 : Value) (v0_2 : Value) (v0_3 : Value) (v0_4 : Value) (v0_5 : Value) (v0_6 : Value) (v0_8 : Value) (v0_9 : Value) (v0_10 : Value) (v0_11 : Value) (v0_12 : Value) (v0_13 : Value) (v0_14 : Value) (v0_15 : Value) (v0_16 : Value) (v0_17 : Value) (v0_18 : Value) (v0_19 : Value) (v0_20 : Value) (v0_21 : Value) (v0_22 : Value) (v0_23 : Value) (v0_24 : Value) (v0_25 : Value) (v0_26 : Value) (v0_27 : Value) (v0_28 : Value) (v0_29 : Value) (v0_30 : Value) (v0_31 : Value) (v0_32 : Value) (v0_33 : Value) (v0_34 : Value) (v0_35 : Value) (v0_36 : Value) (v0_37 : Value) (v0_38 : Value) (v0_39 : Value) (v0_40 : Value) (v0_41 : Value) (v0_42 : Value) (v0_43 : Value) (v0_44 : Value) (v0_45 : Value) (v0_46 : Value) (v0_47 : Value) (v0_48 : Value) (v0_49 : Value) (v0_50 : Value) (v0_51 : Value) (v0_52 : Value) (v0_53 : Value) (v0_54 : Value) (v0_55 : Value) (v0_56 : Value) (v0_57 : Value) (v0_58 : Value) (v0_59 : Value) (v0_60 : Value) (v0_61 : Value) (v0_62 : Value) (v0_63 : Value) (v0_64 : Value) : MetI l yX12_fault (Cond.code yX12_fault cX12_fault 1 (some .int)) { frames := 0, cells := 0, slots := 0, locals := 0 } D cyI cyJ Z [.ref h0] [(h0, .inr (12, [v0_0, v0_1, v0_2, v0_3, v0_4, v0_5, v0_6, .int 0, v0_8, v0_9, v0_10, v0_11, v0_12, v0_13, v0_14, v0_15, v0_16, v0_17, v0_18, v0_19, v0_20, v0_21, v0_22, v0_23, v0_24, v0_25, v0_26, v0_27, v0_28, v0_29, v0_30, v0_31, v0_32, v0_33, v0_34, v0_35, v0_36, v0_37, v0_38, v0_39, v0_40, v0_41, v0_42, v0_43, v0_44, v0_45, v0_46, v0_47, v0_48, v0_49, v0_50, v0_51, v0_52, v0_53, v0_54, v0_55, v0_56, v0_57, v0_58, v0_59, v0_60, v0_61, v0_62, v0_63, v0_64]))] (fun _ : Unit => 0) (fun _ : Unit => ([] : va_W)) 0 0 := by
  refine met_i (by decide) rfl ?_
  intro p e s m below meth c A ls E hr hlk hP hD hA hl
  have hS : va_S A s.heap s.heap [] := va_S.rf
  have hx := E.1.1
  have hb := E.1.2.1
  have hl : lv_has ls 1 [(0, .ref h0)] := hl
  refine lv_aload_n hx hb dX12_fault_0 rfl (lv_at hl 0 rfl) ?_
  refine lv_iconst (v := 0) hx hb dX12_fault_1 (by decide) ?_
  refine x_put (ws' := [(h0, .inr (12, [.int 0, v0_1, v0_2, v0_3, v0_4, v0_5, v0_6, .int 0, v0_8, v0_9, v0_10, v0_11, v0_12, v0_13, v0_14, v0_15, v0_16, v0_17, v0_18, v0_19, v0_20, v0_21, v0_22, v0_23, v0_24, v0_25, v0_26, v0_27, v0_28, v0_29, v0_30, v0_31, v0_32, v0_33, v0_34, v0_35, v0_36, v0_37, v0_38, v0_39, v0_40, v0_41, v0_42, v0_43, v0_44, v0_45, v0_46, v0_47, v0_48, v0_49, v0_50, v0_51, v0_52, v0_53, v0_54, v0_55, v0_56, v0_57, v0_58, v0_59, v0_60, v0_61, v0_62, v0_63, v0_64]))]) E iX12 tyX12 tyX12_ok nmX12 hP hD hS 0 rfl rfl 0 (by decide) wq202 rfl rfl rfl rfl rfl dX12_fault_2 (fun H locs hP hD hS => ?_)
  refine lv_aload_n hx hb dX12_fault_5 rfl (lv_at hl 0 rfl) ?_
  refine x_get E iX12 hP 0 rfl rfl 7 (by decide) wq300 rfl dX12_fault_6 ?_
  exact x_iret E hr hlk hP hD hS () rfl [] (by decide) rfl rfl dX12_fault_9

set_option maxHeartbeats 4000000 in
set_option maxRecDepth 100000 in
theorem mX11_where (l : Launch) (D : va_G) (cyI cyJ : ClassId) (Z : xZ) (h0 : Nat) (v0_0 : Value) (v0_1 : Value) (v0_2 : Value) (v0_3 : Value) (v0_5 : Value) (v0_6 : Value) (v0_7 : Value) (v0_8 : Value) (v0_9 : Value) (v0_10 : Value) (v0_11 : Value) (v0_12 : Value) (v0_13 : Value) (v0_14 : Value) (v0_15 : Value) : MetI l yX11_where (Cond.code yX11_where cX11_where 1 (some .int)) { frames := 0, cells := 0, slots := 0, locals := 0 } D cyI cyJ Z [.ref h0] [(h0, .inr (11, [v0_0, v0_1, v0_2, v0_3, .int 0, v0_5, v0_6, v0_7, v0_8, v0_9, v0_10, v0_11, v0_12, v0_13, v0_14, v0_15]))] (fun _ : Unit => (-1)) (fun _ : Unit => ([] : va_W)) 0 0 := by
  refine met_i (by decide) rfl ?_
  intro p e s m below meth c A ls E hr hlk hP hD hA hl
  have hS : va_S A s.heap s.heap [] := va_S.rf
  have hx := E.1.1
  have hb := E.1.2.1
  have hl : lv_has ls 1 [(0, .ref h0)] := hl
  refine lv_aload_n hx hb dX11_where_0 rfl (lv_at hl 0 rfl) ?_
  refine x_get E iX11 hP 0 rfl rfl 4 (by decide) wq276 rfl dX11_where_1 ?_
  refine lv_iconst (v := 4) hx hb dX11_where_4 (by decide) ?_
  refine lv_icmp_ne (tgt := 15) hx hb dX11_where_5 (by decide) (fun c9 => ?_) (fun c9 => absurd c9 (by decide))
  refine lv_iconst (v := (-1)) hx hb dX11_where_15 (by decide) ?_
  exact x_iret E hr hlk hP hD hS () rfl [] (by decide) rfl rfl dX11_where_16

set_option maxHeartbeats 4000000 in
set_option maxRecDepth 100000 in
theorem mX12_where (l : Launch) (D : va_G) (cyI cyJ : ClassId) (Z : xZ) (h0 : Nat) (v0_0 : Value) (v0_1 : Value) (v0_3 : Value) (v0_4 : Value) (v0_5 : Value) (v0_6 : Value) (v0_7 : Value) (v0_8 : Value) (v0_9 : Value) (v0_10 : Value) (v0_11 : Value) (v0_12 : Value) (v0_13 : Value) (v0_14 : Value) (v0_15 : Value) (v0_16 : Value) (v0_17 : Value) (v0_18 : Value) (v0_19 : Value) (v0_20 : Value) (v0_21 : Value) (v0_22 : Value) (v0_23 : Value) (v0_24 : Value) (v0_25 : Value) (v0_26 : Value) (v0_27 : Value) (v0_28 : Value) (v0_29 : Value) (v0_30 : Value) (v0_31 : Value) (v0_32 : Value) (v0_33 : Value) (v0_34 : Value) (v0_35 : Value) (v0_36 : Value) (v0_37 : Value) (v0_38 : Value) (v0_39 : Value) (v0_40 : Value) (v0_41 : Value) (v0_42 : Value) (v0_43 : Value) (v0_44 : Value) (v0_45 : Value) (v0_46 : Value) (v0_47 : Value) (v0_48 : Value) (v0_49 : Value) (v0_50 : Value) (v0_51 : Value) (v0_52 : Value) (v0_53 : Value) (v0_54 : Value) (v0_55 : Value) (v0_56 : Value) (v0_57 : Value) (v0_58 : Value) (v0_59 : Value) (v0_60 : Value) (v0_61 : Value) (v0_62 : Value) (v0_63 : Value) (v0_64 : Value) : MetI l yX12_where (Cond.code yX12_where cX12_where 1 (some .int)) { frames := 0, cells := 0, slots := 0, locals := 0 } D cyI cyJ Z [.ref h0] [(h0, .inr (12, [v0_0, v0_1, .int (-1), v0_3, v0_4, v0_5, v0_6, v0_7, v0_8, v0_9, v0_10, v0_11, v0_12, v0_13, v0_14, v0_15, v0_16, v0_17, v0_18, v0_19, v0_20, v0_21, v0_22, v0_23, v0_24, v0_25, v0_26, v0_27, v0_28, v0_29, v0_30, v0_31, v0_32, v0_33, v0_34, v0_35, v0_36, v0_37, v0_38, v0_39, v0_40, v0_41, v0_42, v0_43, v0_44, v0_45, v0_46, v0_47, v0_48, v0_49, v0_50, v0_51, v0_52, v0_53, v0_54, v0_55, v0_56, v0_57, v0_58, v0_59, v0_60, v0_61, v0_62, v0_63, v0_64]))] (fun _ : Unit => (-1)) (fun _ : Unit => ([] : va_W)) 0 0 := by
  refine met_i (by decide) rfl ?_
  intro p e s m below meth c A ls E hr hlk hP hD hA hl
  have hS : va_S A s.heap s.heap [] := va_S.rf
  have hx := E.1.1
  have hb := E.1.2.1
  have hl : lv_has ls 1 [(0, .ref h0)] := hl
  refine lv_aload_n hx hb dX12_where_0 rfl (lv_at hl 0 rfl) ?_
  refine lv_iconst (v := 0) hx hb dX12_where_1 (by decide) ?_
  refine x_put (ws' := [(h0, .inr (12, [.int 0, v0_1, .int (-1), v0_3, v0_4, v0_5, v0_6, v0_7, v0_8, v0_9, v0_10, v0_11, v0_12, v0_13, v0_14, v0_15, v0_16, v0_17, v0_18, v0_19, v0_20, v0_21, v0_22, v0_23, v0_24, v0_25, v0_26, v0_27, v0_28, v0_29, v0_30, v0_31, v0_32, v0_33, v0_34, v0_35, v0_36, v0_37, v0_38, v0_39, v0_40, v0_41, v0_42, v0_43, v0_44, v0_45, v0_46, v0_47, v0_48, v0_49, v0_50, v0_51, v0_52, v0_53, v0_54, v0_55, v0_56, v0_57, v0_58, v0_59, v0_60, v0_61, v0_62, v0_63, v0_64]))]) E iX12 tyX12 tyX12_ok nmX12 hP hD hS 0 rfl rfl 0 (by decide) wq202 rfl rfl rfl rfl rfl dX12_where_2 (fun H locs hP hD hS => ?_)
  refine lv_aload_n hx hb dX12_where_5 rfl (lv_at hl 0 rfl) ?_
  refine x_get E iX12 hP 0 rfl rfl 2 (by decide) wq163 rfl dX12_where_6 ?_
  exact x_iret E hr hlk hP hD hS () rfl [] (by decide) rfl rfl dX12_where_9

set_option maxHeartbeats 4000000 in
set_option maxRecDepth 100000 in
theorem mX11_size (l : Launch) (D : va_G) (cyI cyJ : ClassId) (Z : xZ) (h0 : Nat) (v0_0 : Value) (v0_2 : Value) (v0_3 : Value) (v0_4 : Value) (v0_5 : Value) (v0_6 : Value) (v0_7 : Value) (v0_8 : Value) (v0_9 : Value) (v0_10 : Value) (v0_11 : Value) (v0_12 : Value) (v0_13 : Value) (v0_14 : Value) (v0_15 : Value) : MetI l yX11_size (Cond.code yX11_size cX11_size 1 (some .int)) { frames := 0, cells := 0, slots := 0, locals := 0 } D cyI cyJ Z [.ref h0] [(h0, .inr (11, [v0_0, .int 0, v0_2, v0_3, v0_4, v0_5, v0_6, v0_7, v0_8, v0_9, v0_10, v0_11, v0_12, v0_13, v0_14, v0_15]))] (fun _ : Unit => 0) (fun _ : Unit => ([] : va_W)) 0 0 := by
  refine met_i (by decide) rfl ?_
  intro p e s m below meth c A ls E hr hlk hP hD hA hl
  have hS : va_S A s.heap s.heap [] := va_S.rf
  have hx := E.1.1
  have hb := E.1.2.1
  have hl : lv_has ls 1 [(0, .ref h0)] := hl
  refine lv_aload_n hx hb dX11_size_0 rfl (lv_at hl 0 rfl) ?_
  refine x_get E iX11 hP 0 rfl rfl 1 (by decide) wq198 rfl dX11_size_1 ?_
  exact x_iret E hr hlk hP hD hS () rfl [] (by decide) rfl rfl dX11_size_4

set_option maxHeartbeats 4000000 in
set_option maxRecDepth 100000 in
theorem mX12_size (l : Launch) (D : va_G) (cyI cyJ : ClassId) (Z : xZ) (h0 : Nat) (v0_0 : Value) (v0_1 : Value) (v0_2 : Value) (v0_3 : Value) (v0_5 : Value) (v0_6 : Value) (v0_7 : Value) (v0_8 : Value) (v0_9 : Value) (v0_10 : Value) (v0_11 : Value) (v0_12 : Value) (v0_13 : Value) (v0_14 : Value) (v0_15 : Value) (v0_16 : Value) (v0_17 : Value) (v0_18 : Value) (v0_19 : Value) (v0_20 : Value) (v0_21 : Value) (v0_22 : Value) (v0_23 : Value) (v0_24 : Value) (v0_25 : Value) (v0_26 : Value) (v0_27 : Value) (v0_28 : Value) (v0_29 : Value) (v0_30 : Value) (v0_31 : Value) (v0_32 : Value) (v0_33 : Value) (v0_34 : Value) (v0_35 : Value) (v0_36 : Value) (v0_37 : Value) (v0_38 : Value) (v0_39 : Value) (v0_40 : Value) (v0_41 : Value) (v0_42 : Value) (v0_43 : Value) (v0_44 : Value) (v0_45 : Value) (v0_46 : Value) (v0_47 : Value) (v0_48 : Value) (v0_49 : Value) (v0_50 : Value) (v0_51 : Value) (v0_52 : Value) (v0_53 : Value) (v0_54 : Value) (v0_55 : Value) (v0_56 : Value) (v0_57 : Value) (v0_58 : Value) (v0_59 : Value) (v0_60 : Value) (v0_61 : Value) (v0_62 : Value) (v0_63 : Value) (v0_64 : Value) : MetI l yX12_size (Cond.code yX12_size cX12_size 1 (some .int)) { frames := 0, cells := 0, slots := 0, locals := 0 } D cyI cyJ Z [.ref h0] [(h0, .inr (12, [v0_0, v0_1, v0_2, v0_3, .int 0, v0_5, v0_6, v0_7, v0_8, v0_9, v0_10, v0_11, v0_12, v0_13, v0_14, v0_15, v0_16, v0_17, v0_18, v0_19, v0_20, v0_21, v0_22, v0_23, v0_24, v0_25, v0_26, v0_27, v0_28, v0_29, v0_30, v0_31, v0_32, v0_33, v0_34, v0_35, v0_36, v0_37, v0_38, v0_39, v0_40, v0_41, v0_42, v0_43, v0_44, v0_45, v0_46, v0_47, v0_48, v0_49, v0_50, v0_51, v0_52, v0_53, v0_54, v0_55, v0_56, v0_57, v0_58, v0_59, v0_60, v0_61, v0_62, v0_63, v0_64]))] (fun _ : Unit => 0) (fun _ : Unit => ([] : va_W)) 0 0 := by
  refine met_i (by decide) rfl ?_
  intro p e s m below meth c A ls E hr hlk hP hD hA hl
  have hS : va_S A s.heap s.heap [] := va_S.rf
  have hx := E.1.1
  have hb := E.1.2.1
  have hl : lv_has ls 1 [(0, .ref h0)] := hl
  refine lv_aload_n hx hb dX12_size_0 rfl (lv_at hl 0 rfl) ?_
  refine lv_iconst (v := 0) hx hb dX12_size_1 (by decide) ?_
  refine x_put (ws' := [(h0, .inr (12, [.int 0, v0_1, v0_2, v0_3, .int 0, v0_5, v0_6, v0_7, v0_8, v0_9, v0_10, v0_11, v0_12, v0_13, v0_14, v0_15, v0_16, v0_17, v0_18, v0_19, v0_20, v0_21, v0_22, v0_23, v0_24, v0_25, v0_26, v0_27, v0_28, v0_29, v0_30, v0_31, v0_32, v0_33, v0_34, v0_35, v0_36, v0_37, v0_38, v0_39, v0_40, v0_41, v0_42, v0_43, v0_44, v0_45, v0_46, v0_47, v0_48, v0_49, v0_50, v0_51, v0_52, v0_53, v0_54, v0_55, v0_56, v0_57, v0_58, v0_59, v0_60, v0_61, v0_62, v0_63, v0_64]))]) E iX12 tyX12 tyX12_ok nmX12 hP hD hS 0 rfl rfl 0 (by decide) wq202 rfl rfl rfl rfl rfl dX12_size_2 (fun H locs hP hD hS => ?_)
  refine lv_aload_n hx hb dX12_size_5 rfl (lv_at hl 0 rfl) ?_
  refine x_get E iX12 hP 0 rfl rfl 4 (by decide) wq203 rfl dX12_size_6 ?_
  exact x_iret E hr hlk hP hD hS () rfl [] (by decide) rfl rfl dX12_size_9

set_option maxHeartbeats 4000000 in
set_option maxRecDepth 100000 in
theorem mX11_trouble (l : Launch) (D : va_G) (cyI cyJ : ClassId) (Z : xZ) (h0 : Nat) (v0_0 : Value) (v0_1 : Value) (v0_2 : Value) (v0_3 : Value) (v0_5 : Value) (v0_6 : Value) (v0_7 : Value) (v0_8 : Value) (v0_9 : Value) (v0_10 : Value) (v0_11 : Value) (v0_12 : Value) (v0_13 : Value) (v0_14 : Value) (v0_15 : Value) : MetI l yX11_trouble (Cond.code yX11_trouble cX11_trouble 1 (some .int)) { frames := 0, cells := 0, slots := 0, locals := 0 } D cyI cyJ Z [.ref h0] [(h0, .inr (11, [v0_0, v0_1, v0_2, v0_3, .int 0, v0_5, v0_6, v0_7, v0_8, v0_9, v0_10, v0_11, v0_12, v0_13, v0_14, v0_15]))] (fun _ : Unit => 0) (fun _ : Unit => ([] : va_W)) 0 0 := by
  refine met_i (by decide) rfl ?_
  intro p e s m below meth c A ls E hr hlk hP hD hA hl
  have hS : va_S A s.heap s.heap [] := va_S.rf
  have hx := E.1.1
  have hb := E.1.2.1
  have hl : lv_has ls 1 [(0, .ref h0)] := hl
  refine lv_aload_n hx hb dX11_trouble_0 rfl (lv_at hl 0 rfl) ?_
  refine x_get E iX11 hP 0 rfl rfl 4 (by decide) wq276 rfl dX11_trouble_1 ?_
  exact x_iret E hr hlk hP hD hS () rfl [] (by decide) rfl rfl dX11_trouble_4

set_option maxHeartbeats 4000000 in
set_option maxRecDepth 100000 in
theorem mX12_trouble (l : Launch) (D : va_G) (cyI cyJ : ClassId) (Z : xZ) (h0 : Nat) (v0_0 : Value) (v0_2 : Value) (v0_3 : Value) (v0_4 : Value) (v0_5 : Value) (v0_6 : Value) (v0_7 : Value) (v0_8 : Value) (v0_9 : Value) (v0_10 : Value) (v0_11 : Value) (v0_12 : Value) (v0_13 : Value) (v0_14 : Value) (v0_15 : Value) (v0_16 : Value) (v0_17 : Value) (v0_18 : Value) (v0_19 : Value) (v0_20 : Value) (v0_21 : Value) (v0_22 : Value) (v0_23 : Value) (v0_24 : Value) (v0_25 : Value) (v0_26 : Value) (v0_27 : Value) (v0_28 : Value) (v0_29 : Value) (v0_30 : Value) (v0_31 : Value) (v0_32 : Value) (v0_33 : Value) (v0_34 : Value) (v0_35 : Value) (v0_36 : Value) (v0_37 : Value) (v0_38 : Value) (v0_39 : Value) (v0_40 : Value) (v0_41 : Value) (v0_42 : Value) (v0_43 : Value) (v0_44 : Value) (v0_45 : Value) (v0_46 : Value) (v0_47 : Value) (v0_48 : Value) (v0_49 : Value) (v0_50 : Value) (v0_51 : Value) (v0_52 : Value) (v0_53 : Value) (v0_54 : Value) (v0_55 : Value) (v0_56 : Value) (v0_57 : Value) (v0_58 : Value) (v0_59 : Value) (v0_60 : Value) (v0_61 : Value) (v0_62 : Value) (v0_63 : Value) (v0_64 : Value) : MetI l yX12_trouble (Cond.code yX12_trouble cX12_trouble 1 (some .int)) { frames := 0, cells := 0, slots := 0, locals := 0 } D cyI cyJ Z [.ref h0] [(h0, .inr (12, [v0_0, .int 0, v0_2, v0_3, v0_4, v0_5, v0_6, v0_7, v0_8, v0_9, v0_10, v0_11, v0_12, v0_13, v0_14, v0_15, v0_16, v0_17, v0_18, v0_19, v0_20, v0_21, v0_22, v0_23, v0_24, v0_25, v0_26, v0_27, v0_28, v0_29, v0_30, v0_31, v0_32, v0_33, v0_34, v0_35, v0_36, v0_37, v0_38, v0_39, v0_40, v0_41, v0_42, v0_43, v0_44, v0_45, v0_46, v0_47, v0_48, v0_49, v0_50, v0_51, v0_52, v0_53, v0_54, v0_55, v0_56, v0_57, v0_58, v0_59, v0_60, v0_61, v0_62, v0_63, v0_64]))] (fun _ : Unit => 0) (fun _ : Unit => ([] : va_W)) 0 0 := by
  refine met_i (by decide) rfl ?_
  intro p e s m below meth c A ls E hr hlk hP hD hA hl
  have hS : va_S A s.heap s.heap [] := va_S.rf
  have hx := E.1.1
  have hb := E.1.2.1
  have hl : lv_has ls 1 [(0, .ref h0)] := hl
  refine lv_aload_n hx hb dX12_trouble_0 rfl (lv_at hl 0 rfl) ?_
  refine lv_iconst (v := 0) hx hb dX12_trouble_1 (by decide) ?_
  refine x_put (ws' := [(h0, .inr (12, [.int 0, .int 0, v0_2, v0_3, v0_4, v0_5, v0_6, v0_7, v0_8, v0_9, v0_10, v0_11, v0_12, v0_13, v0_14, v0_15, v0_16, v0_17, v0_18, v0_19, v0_20, v0_21, v0_22, v0_23, v0_24, v0_25, v0_26, v0_27, v0_28, v0_29, v0_30, v0_31, v0_32, v0_33, v0_34, v0_35, v0_36, v0_37, v0_38, v0_39, v0_40, v0_41, v0_42, v0_43, v0_44, v0_45, v0_46, v0_47, v0_48, v0_49, v0_50, v0_51, v0_52, v0_53, v0_54, v0_55, v0_56, v0_57, v0_58, v0_59, v0_60, v0_61, v0_62, v0_63, v0_64]))]) E iX12 tyX12 tyX12_ok nmX12 hP hD hS 0 rfl rfl 0 (by decide) wq202 rfl rfl rfl rfl rfl dX12_trouble_2 (fun H locs hP hD hS => ?_)
  refine lv_aload_n hx hb dX12_trouble_5 rfl (lv_at hl 0 rfl) ?_
  refine x_get E iX12 hP 0 rfl rfl 1 (by decide) wq331 rfl dX12_trouble_6 ?_
  exact x_iret E hr hlk hP hD hS () rfl [] (by decide) rfl rfl dX12_trouble_9

set_option maxHeartbeats 4000000 in
set_option maxRecDepth 100000 in
theorem mX11_answered (l : Launch) (D : va_G) (cyI cyJ : ClassId) (Z : xZ) (h0 : Nat) (v0_0 : Value) (v0_1 : Value) (v0_2 : Value) (v0_3 : Value) (v0_4 : Value) (v0_5 : Value) (v0_6 : Value) (v0_7 : Value) (v0_8 : Value) (v0_9 : Value) (v0_10 : Value) (v0_11 : Value) (v0_12 : Value) (v0_13 : Value) (v0_14 : Value) (v0_15 : Value) : MetI l yX11_answered (Cond.code yX11_answered cX11_answered 2 (some .int)) { frames := 0, cells := 0, slots := 0, locals := 0 } D cyI cyJ Z [.ref h0, .int 0] [(h0, .inr (11, [v0_0, v0_1, v0_2, v0_3, v0_4, v0_5, v0_6, v0_7, v0_8, v0_9, v0_10, v0_11, v0_12, v0_13, v0_14, v0_15]))] (fun _ : Unit => 0) (fun _ : Unit => ([(h0, .inr (11, [v0_0, v0_1, v0_2, v0_3, .int 0, v0_5, v0_6, v0_7, v0_8, v0_9, v0_10, v0_11, v0_12, v0_13, v0_14, v0_15]))] : va_W)) 0 0 := by
  refine met_i (by decide) rfl ?_
  intro p e s m below meth c A ls E hr hlk hP hD hA hl
  have hS : va_S A s.heap s.heap [] := va_S.rf
  have hx := E.1.1
  have hb := E.1.2.1
  have hl : lv_has ls 2 [(0, .ref h0), (1, .int 0)] := hl
  refine lv_aload_n hx hb dX11_answered_0 rfl (lv_at hl 0 rfl) ?_
  refine lv_iconst (v := 0) hx hb dX11_answered_1 (by decide) ?_
  refine x_put (ws' := [(h0, .inr (11, [v0_0, v0_1, v0_2, v0_3, .int 0, v0_5, v0_6, v0_7, v0_8, v0_9, v0_10, v0_11, v0_12, v0_13, v0_14, v0_15]))]) E iX11 tyX11 tyX11_ok nmX11 hP hD hS 0 rfl rfl 4 (by decide) wq276 rfl rfl rfl rfl rfl dX11_answered_2 (fun H locs hP hD hS => ?_)
  refine lv_iload_n hx hb dX11_answered_5 rfl (lv_at hl 1 rfl) ?_
  exact x_iret E hr hlk hP hD hS () rfl [0] (by decide) rfl rfl dX11_answered_6

set_option maxHeartbeats 4000000 in
set_option maxRecDepth 100000 in
theorem mX11_about (l : Launch) (D : va_G) (cyI cyJ : ClassId) (Z : xZ) (h0 : Nat) (h1 : Nat) (v0_0 : Value) (v0_1 : Value) (v0_2 : Value) (v0_3 : Value) (v0_4 : Value) (v0_5 : Value) (v0_6 : Value) (v0_8 : Value) (v0_9 : Value) (v0_10 : Value) (v0_11 : Value) (v0_12 : Value) (v0_13 : Value) (v0_14 : Value) (v0_15 : Value) (v1_0 : Value) (v1_1 : Value) (v1_2 : Value) (v1_3 : Value) (v1_4 : Value) (v1_5 : Value) (v1_6 : Value) (v1_7 : Value) (v1_8 : Value) (v1_10 : Value) (v1_11 : Value) (v1_12 : Value) (v1_13 : Value) (v1_14 : Value) : MetI l yX11_about (Cond.code yX11_about cX11_about 2 (some .int)) { frames := 1, cells := 0, slots := 0, locals := 21 } D cyI cyJ Z [.ref h0, .int 0] [(h0, .inr (11, [v0_0, v0_1, v0_2, v0_3, v0_4, v0_5, v0_6, .ref h1, v0_8, v0_9, v0_10, v0_11, v0_12, v0_13, v0_14, v0_15])), (h1, .inr (9, [v1_0, v1_1, v1_2, v1_3, v1_4, v1_5, v1_6, v1_7, v1_8, .int 0, v1_10, v1_11, v1_12, v1_13, v1_14]))] (fun _ : Unit => 0) (fun _ : Unit => ([] : va_W)) 0 0 := by
  refine met_i (by decide) rfl ?_
  intro p e s m below meth c A ls E hr hlk hP hD hA hl
  have hS : va_S A s.heap s.heap [] := va_S.rf
  have hx := E.1.1
  have hb := E.1.2.1
  have hl : lv_has ls 2 [(0, .ref h0), (1, .int 0)] := hl
  refine lv_iload_n hx hb dX11_about_0 rfl (lv_at hl 1 rfl) ?_
  refine lv_tableIn (tgt := 40) (off := 39) hx hb dX11_about_1 (by decide) (by decide) (by decide) (by decide) ?_
  refine lv_aload_n hx hb dX11_about_40 rfl (lv_at hl 0 rfl) ?_
  refine lv_aload_n hx hb dX11_about_41 rfl (lv_at hl 0 rfl) ?_
  refine x_get E iX11 hP 0 rfl rfl 7 (by decide) wq60 rfl dX11_about_42 ?_
  refine x_getN E iX9 hP 1 rfl rfl 9 (by decide) qn9 rfl dX11_about_45 ?_
  refine x_Vi (rest := []) (ws' := fun _ => [(h1, .inr (9, [v1_0, v1_1, v1_2, v1_3, v1_4, v1_5, v1_6, v1_7, v1_8, .int 0, v1_10, v1_11, v1_12, v1_13, v1_14])), (h0, .inr (11, [v0_0, v0_1, v0_2, v0_3, .int 0, v0_5, v0_6, .ref h1, v0_8, v0_9, v0_10, v0_11, v0_12, v0_13, v0_14, v0_15]))]) (wr := [(h1, .inr (9, [v1_0, v1_1, v1_2, v1_3, v1_4, v1_5, v1_6, v1_7, v1_8, .int 0, v1_10, v1_11, v1_12, v1_13, v1_14]))]) E (mX11_answered l D cyI cyJ Z h0 v0_0 v0_1 v0_2 v0_3 v0_4 v0_5 v0_6 (.ref h1) v0_8 v0_9 v0_10 v0_11 v0_12 v0_13 v0_14 v0_15) kX11_answered wq436 wq437 wq438 ⟨rfl, rfl, Nat.le_of_ble_eq_true rfl, Nat.le_of_ble_eq_true rfl⟩ hP hD hS hA [0] [1] rfl rfl (by decide) (fun _ => rfl) 0 rfl rfl rfl hl.1 rfl (Nat.le_of_ble_eq_true rfl) dX11_about_48 ⟨rfl, rfl⟩ ⟨Nat.le_of_ble_eq_true rfl, Nat.le_of_ble_eq_true rfl⟩ (fun _ H locs hP hD hS => ?_)
  exact x_iret E hr hlk hP hD hS () rfl [] (by decide) rfl rfl dX11_about_51

set_option maxHeartbeats 4000000 in
set_option maxRecDepth 100000 in
theorem mX12_good (l : Launch) (D : va_G) (cyI cyJ : ClassId) (Z : xZ) (h0 : Nat) (v0_0 : Value) (v0_1 : Value) (v0_2 : Value) (v0_3 : Value) (v0_4 : Value) (v0_5 : Value) (v0_6 : Value) (v0_7 : Value) (v0_8 : Value) (v0_9 : Value) (v0_10 : Value) (v0_11 : Value) (v0_12 : Value) (v0_13 : Value) (v0_14 : Value) (v0_15 : Value) (v0_16 : Value) (v0_17 : Value) (v0_18 : Value) (v0_19 : Value) (v0_20 : Value) (v0_21 : Value) (v0_22 : Value) (v0_23 : Value) (v0_24 : Value) (v0_25 : Value) (v0_26 : Value) (v0_27 : Value) (v0_28 : Value) (v0_29 : Value) (v0_30 : Value) (v0_31 : Value) (v0_32 : Value) (v0_33 : Value) (v0_34 : Value) (v0_35 : Value) (v0_36 : Value) (v0_37 : Value) (v0_38 : Value) (v0_39 : Value) (v0_40 : Value) (v0_41 : Value) (v0_42 : Value) (v0_43 : Value) (v0_44 : Value) (v0_45 : Value) (v0_46 : Value) (v0_47 : Value) (v0_48 : Value) (v0_49 : Value) (v0_50 : Value) (v0_51 : Value) (v0_52 : Value) (v0_53 : Value) (v0_54 : Value) (v0_55 : Value) (v0_56 : Value) (v0_57 : Value) (v0_58 : Value) (v0_59 : Value) (v0_60 : Value) (v0_61 : Value) (v0_62 : Value) (v0_63 : Value) (v0_64 : Value) : MetI l yX12_good (Cond.code yX12_good cX12_good 2 (some .int)) { frames := 0, cells := 0, slots := 0, locals := 0 } D cyI cyJ Z [.ref h0, .int 0] [(h0, .inr (12, [v0_0, v0_1, v0_2, v0_3, v0_4, v0_5, v0_6, v0_7, v0_8, v0_9, v0_10, v0_11, v0_12, v0_13, v0_14, v0_15, v0_16, v0_17, v0_18, v0_19, v0_20, v0_21, v0_22, v0_23, v0_24, v0_25, v0_26, v0_27, v0_28, v0_29, v0_30, v0_31, v0_32, v0_33, v0_34, v0_35, v0_36, v0_37, v0_38, v0_39, v0_40, v0_41, v0_42, v0_43, v0_44, v0_45, v0_46, v0_47, v0_48, v0_49, v0_50, v0_51, v0_52, v0_53, v0_54, v0_55, v0_56, v0_57, v0_58, v0_59, v0_60, v0_61, v0_62, v0_63, v0_64]))] (fun _ : Unit => 0) (fun _ : Unit => ([(h0, .inr (12, [v0_0, .int 0, .int (-1), v0_3, v0_4, v0_5, v0_6, v0_7, v0_8, v0_9, v0_10, v0_11, v0_12, v0_13, v0_14, v0_15, v0_16, v0_17, v0_18, v0_19, v0_20, v0_21, v0_22, v0_23, v0_24, v0_25, v0_26, v0_27, v0_28, v0_29, v0_30, v0_31, v0_32, v0_33, v0_34, v0_35, v0_36, v0_37, v0_38, v0_39, v0_40, v0_41, v0_42, v0_43, v0_44, v0_45, v0_46, v0_47, v0_48, v0_49, v0_50, v0_51, v0_52, v0_53, v0_54, v0_55, v0_56, v0_57, v0_58, v0_59, v0_60, v0_61, v0_62, v0_63, v0_64]))] : va_W)) 0 0 := by
  refine met_i (by decide) rfl ?_
  intro p e s m below meth c A ls E hr hlk hP hD hA hl
  have hS : va_S A s.heap s.heap [] := va_S.rf
  have hx := E.1.1
  have hb := E.1.2.1
  have hl : lv_has ls 2 [(0, .ref h0), (1, .int 0)] := hl
  refine lv_aload_n hx hb dX12_good_0 rfl (lv_at hl 0 rfl) ?_
  refine lv_iconst (v := 0) hx hb dX12_good_1 (by decide) ?_
  refine x_put (ws' := [(h0, .inr (12, [v0_0, .int 0, v0_2, v0_3, v0_4, v0_5, v0_6, v0_7, v0_8, v0_9, v0_10, v0_11, v0_12, v0_13, v0_14, v0_15, v0_16, v0_17, v0_18, v0_19, v0_20, v0_21, v0_22, v0_23, v0_24, v0_25, v0_26, v0_27, v0_28, v0_29, v0_30, v0_31, v0_32, v0_33, v0_34, v0_35, v0_36, v0_37, v0_38, v0_39, v0_40, v0_41, v0_42, v0_43, v0_44, v0_45, v0_46, v0_47, v0_48, v0_49, v0_50, v0_51, v0_52, v0_53, v0_54, v0_55, v0_56, v0_57, v0_58, v0_59, v0_60, v0_61, v0_62, v0_63, v0_64]))]) E iX12 tyX12 tyX12_ok nmX12 hP hD hS 0 rfl rfl 1 (by decide) wq331 rfl rfl rfl rfl rfl dX12_good_2 (fun H locs hP hD hS => ?_)
  refine lv_aload_n hx hb dX12_good_5 rfl (lv_at hl 0 rfl) ?_
  refine lv_iconst (v := (-1)) hx hb dX12_good_6 (by decide) ?_
  refine x_put (ws' := [(h0, .inr (12, [v0_0, .int 0, .int (-1), v0_3, v0_4, v0_5, v0_6, v0_7, v0_8, v0_9, v0_10, v0_11, v0_12, v0_13, v0_14, v0_15, v0_16, v0_17, v0_18, v0_19, v0_20, v0_21, v0_22, v0_23, v0_24, v0_25, v0_26, v0_27, v0_28, v0_29, v0_30, v0_31, v0_32, v0_33, v0_34, v0_35, v0_36, v0_37, v0_38, v0_39, v0_40, v0_41, v0_42, v0_43, v0_44, v0_45, v0_46, v0_47, v0_48, v0_49, v0_50, v0_51, v0_52, v0_53, v0_54, v0_55, v0_56, v0_57, v0_58, v0_59, v0_60, v0_61, v0_62, v0_63, v0_64]))]) E iX12 tyX12 tyX12_ok nmX12 hP hD hS 0 rfl rfl 2 (by decide) wq163 rfl rfl rfl rfl rfl dX12_good_7 (fun H locs hP hD hS => ?_)
  refine lv_iload_n hx hb dX12_good_10 rfl (lv_at hl 1 rfl) ?_
  exact x_iret E hr hlk hP hD hS () rfl [0] (by decide) rfl rfl dX12_good_11

set_option maxHeartbeats 4000000 in
set_option maxRecDepth 100000 in
theorem mX12_about (l : Launch) (D : va_G) (cyI cyJ : ClassId) (Z : xZ) (h0 : Nat) (v0_0 : Value) (v0_1 : Value) (v0_2 : Value) (v0_3 : Value) (v0_4 : Value) (v0_5 : Value) (v0_6 : Value) (v0_7 : Value) (v0_8 : Value) (v0_9 : Value) (v0_10 : Value) (v0_11 : Value) (v0_12 : Value) (v0_13 : Value) (v0_14 : Value) (v0_15 : Value) (v0_16 : Value) (v0_17 : Value) (v0_18 : Value) (v0_19 : Value) (v0_20 : Value) (v0_21 : Value) (v0_22 : Value) (v0_23 : Value) (v0_24 : Value) (v0_25 : Value) (v0_27 : Value) (v0_28 : Value) (v0_29 : Value) (v0_30 : Value) (v0_31 : Value) (v0_32 : Value) (v0_33 : Value) (v0_34 : Value) (v0_35 : Value) (v0_36 : Value) (v0_37 : Value) (v0_38 : Value) (v0_39 : Value) (v0_40 : Value) (v0_41 : Value) (v0_42 : Value) (v0_43 : Value) (v0_44 : Value) (v0_45 : Value) (v0_46 : Value) (v0_47 : Value) (v0_48 : Value) (v0_49 : Value) (v0_50 : Value) (v0_51 : Value) (v0_52 : Value) (v0_53 : Value) (v0_54 : Value) (v0_55 : Value) (v0_56 : Value) (v0_57 : Value) (v0_58 : Value) (v0_59 : Value) (v0_60 : Value) (v0_61 : Value) (v0_62 : Value) (v0_63 : Value) (v0_64 : Value) : MetI l yX12_about (Cond.code yX12_about cX12_about 4 (some .int)) { frames := 1, cells := 0, slots := 0, locals := 21 } D cyI cyJ Z [.ref h0, .int 0] [(h0, .inr (12, [v0_0, v0_1, v0_2, v0_3, v0_4, v0_5, v0_6, v0_7, v0_8, v0_9, v0_10, v0_11, v0_12, v0_13, v0_14, v0_15, v0_16, v0_17, v0_18, v0_19, v0_20, v0_21, v0_22, v0_23, v0_24, v0_25, .int 0, v0_27, v0_28, v0_29, v0_30, v0_31, v0_32, v0_33, v0_34, v0_35, v0_36, v0_37, v0_38, v0_39, v0_40, v0_41, v0_42, v0_43, v0_44, v0_45, v0_46, v0_47, v0_48, v0_49, v0_50, v0_51, v0_52, v0_53, v0_54, v0_55, v0_56, v0_57, v0_58, v0_59, v0_60, v0_61, v0_62, v0_63, v0_64]))] (fun _ : Unit => 0) (fun _ : Unit => ([] : va_W)) 0 0 := by
  refine met_i (by decide) rfl ?_
  intro p e s m below meth c A ls E hr hlk hP hD hA hl
  have hS : va_S A s.heap s.heap [] := va_S.rf
  have hx := E.1.1
  have hb := E.1.2.1
  have hl : lv_has ls 4 [(0, .ref h0), (1, .int 0)] := hl
  refine lv_aload_n hx hb dX12_about_0 rfl (lv_at hl 0 rfl) ?_
  refine lv_iconst (v := 0) hx hb dX12_about_1 (by decide) ?_
  refine x_put (ws' := [(h0, .inr (12, [.int 0, v0_1, v0_2, v0_3, v0_4, v0_5, v0_6, v0_7, v0_8, v0_9, v0_10, v0_11, v0_12, v0_13, v0_14, v0_15, v0_16, v0_17, v0_18, v0_19, v0_20, v0_21, v0_22, v0_23, v0_24, v0_25, .int 0, v0_27, v0_28, v0_29, v0_30, v0_31, v0_32, v0_33, v0_34, v0_35, v0_36, v0_37, v0_38, v0_39, v0_40, v0_41, v0_42, v0_43, v0_44, v0_45, v0_46, v0_47, v0_48, v0_49, v0_50, v0_51, v0_52, v0_53, v0_54, v0_55, v0_56, v0_57, v0_58, v0_59, v0_60, v0_61, v0_62, v0_63, v0_64]))]) E iX12 tyX12 tyX12_ok nmX12 hP hD hS 0 rfl rfl 0 (by decide) wq202 rfl rfl rfl rfl rfl dX12_about_2 (fun H locs hP hD hS => ?_)
  refine lv_iconst (v := 0) hx hb dX12_about_5 (by decide) ?_
  refine lv_istore_n (lv' := [(2, .int 0), (0, .ref h0), (1, .int 0)]) hx hb dX12_about_6 rfl hl (by decide) rfl (fun ls hl => ?_)
  refine lv_iload_n hx hb dX12_about_7 rfl (lv_at hl 2 rfl) ?_
  refine lv_tableIn (tgt := 48) (off := 40) hx hb dX12_about_8 (by decide) (by decide) (by decide) (by decide) ?_
  refine lv_aload_n hx hb dX12_about_48 rfl (lv_at hl 1 rfl) ?_
  refine lv_aload_n hx hb dX12_about_49 rfl (lv_at hl 1 rfl) ?_
  refine x_get E iX12 hP 0 rfl rfl 26 (by decide) wq288 rfl dX12_about_50 ?_
  refine x_Vi (rest := []) (ws' := fun _ => [(h0, .inr (12, [.int 0, .int 0, .int (-1), v0_3, v0_4, v0_5, v0_6, v0_7, v0_8, v0_9, v0_10, v0_11, v0_12, v0_13, v0_14, v0_15, v0_16, v0_17, v0_18, v0_19, v0_20, v0_21, v0_22, v0_23, v0_24, v0_25, .int 0, v0_27, v0_28, v0_29, v0_30, v0_31, v0_32, v0_33, v0_34, v0_35, v0_36, v0_37, v0_38, v0_39, v0_40, v0_41, v0_42, v0_43, v0_44, v0_45, v0_46, v0_47, v0_48, v0_49, v0_50, v0_51, v0_52, v0_53, v0_54, v0_55, v0_56, v0_57, v0_58, v0_59, v0_60, v0_61, v0_62, v0_63, v0_64]))]) (wr := []) E (mX12_good l D cyI cyJ Z h0 (.int 0) v0_1 v0_2 v0_3 v0_4 v0_5 v0_6 v0_7 v0_8 v0_9 v0_10 v0_11 v0_12 v0_13 v0_14 v0_15 v0_16 v0_17 v0_18 v0_19 v0_20 v0_21 v0_22 v0_23 v0_24 v0_25 (.int 0) v0_27 v0_28 v0_29 v0_30 v0_31 v0_32 v0_33 v0_34 v0_35 v0_36 v0_37 v0_38 v0_39 v0_40 v0_41 v0_42 v0_43 v0_44 v0_45 v0_46 v0_47 v0_48 v0_49 v0_50 v0_51 v0_52 v0_53 v0_54 v0_55 v0_56 v0_57 v0_58 v0_59 v0_60 v0_61 v0_62 v0_63 v0_64) kX12_good wq439 wq440 wq441 ⟨rfl, rfl, Nat.le_of_ble_eq_true rfl, Nat.le_of_ble_eq_true rfl⟩ hP hD hS hA [0] [] rfl rfl (by decide) (fun _ => rfl) 0 rfl rfl rfl hl.1 rfl (Nat.le_of_ble_eq_true rfl) dX12_about_53 ⟨rfl, rfl⟩ ⟨Nat.le_of_ble_eq_true rfl, Nat.le_of_ble_eq_true rfl⟩ (fun _ H locs hP hD hS => ?_)
  exact x_iret E hr hlk hP hD hS () rfl [] (by decide) rfl rfl dX12_about_56

set_option maxHeartbeats 4000000 in
set_option maxRecDepth 100000 in
theorem mX11_about_1 (l : Launch) (D : va_G) (cyI cyJ : ClassId) (Z : xZ) (h0 : Nat) (h1 : Nat) (v0_0 : Value) (v0_1 : Value) (v0_2 : Value) (v0_3 : Value) (v0_4 : Value) (v0_5 : Value) (v0_6 : Value) (v0_8 : Value) (v0_9 : Value) (v0_10 : Value) (v0_11 : Value) (v0_12 : Value) (v0_13 : Value) (v0_14 : Value) (v0_15 : Value) (v1_0 : Value) (v1_1 : Value) (v1_2 : Value) (v1_3 : Value) (v1_4 : Value) (v1_5 : Value) (v1_6 : Value) (v1_7 : Value) (v1_8 : Value) (v1_9 : Value) (v1_11 : Value) (v1_12 : Value) (v1_13 : Value) (v1_14 : Value) : MetI l yX11_about (Cond.code yX11_about cX11_about 2 (some .int)) { frames := 1, cells := 0, slots := 0, locals := 21 } D cyI cyJ Z [.ref h0, .int 1] [(h0, .inr (11, [v0_0, v0_1, v0_2, v0_3, v0_4, v0_5, v0_6, .ref h1, v0_8, v0_9, v0_10, v0_11, v0_12, v0_13, v0_14, v0_15])), (h1, .inr (9, [v1_0, v1_1, v1_2, v1_3, v1_4, v1_5, v1_6, v1_7, v1_8, v1_9, .int 0, v1_11, v1_12, v1_13, v1_14]))] (fun _ : Unit => 0) (fun _ : Unit => ([] : va_W)) 0 0 := by
  refine met_i (by decide) rfl ?_
  intro p e s m below meth c A ls E hr hlk hP hD hA hl
  have hS : va_S A s.heap s.heap [] := va_S.rf
  have hx := E.1.1
  have hb := E.1.2.1
  have hl : lv_has ls 2 [(0, .ref h0), (1, .int 1)] := hl
  refine lv_iload_n hx hb dX11_about_0 rfl (lv_at hl 1 rfl) ?_
  refine lv_tableIn (tgt := 52) (off := 51) hx hb dX11_about_1 (by decide) (by decide) (by decide) (by decide) ?_
  refine lv_aload_n hx hb dX11_about_52 rfl (lv_at hl 0 rfl) ?_
  refine lv_aload_n hx hb dX11_about_53 rfl (lv_at hl 0 rfl) ?_
  refine x_get E iX11 hP 0 rfl rfl 7 (by decide) wq60 rfl dX11_about_54 ?_
  refine x_getN E iX9 hP 1 rfl rfl 10 (by decide) qn10 rfl dX11_about_57 ?_
  refine x_Vi (rest := []) (ws' := fun _ => [(h1, .inr (9, [v1_0, v1_1, v1_2, v1_3, v1_4, v1_5, v1_6, v1_7, v1_8, v1_9, .int 0, v1_11, v1_12, v1_13, v1_14])), (h0, .inr (11, [v0_0, v0_1, v0_2, v0_3, .int 0, v0_5, v0_6, .ref h1, v0_8, v0_9, v0_10, v0_11, v0_12, v0_13, v0_14, v0_15]))]) (wr := [(h1, .inr (9, [v1_0, v1_1, v1_2, v1_3, v1_4, v1_5, v1_6, v1_7, v1_8, v1_9, .int 0, v1_11, v1_12, v1_13, v1_14]))]) E (mX11_answered l D cyI cyJ Z h0 v0_0 v0_1 v0_2 v0_3 v0_4 v0_5 v0_6 (.ref h1) v0_8 v0_9 v0_10 v0_11 v0_12 v0_13 v0_14 v0_15) kX11_answered wq436 wq437 wq438 ⟨rfl, rfl, Nat.le_of_ble_eq_true rfl, Nat.le_of_ble_eq_true rfl⟩ hP hD hS hA [0] [1] rfl rfl (by decide) (fun _ => rfl) 0 rfl rfl rfl hl.1 rfl (Nat.le_of_ble_eq_true rfl) dX11_about_60 ⟨rfl, rfl⟩ ⟨Nat.le_of_ble_eq_true rfl, Nat.le_of_ble_eq_true rfl⟩ (fun _ H locs hP hD hS => ?_)
  exact x_iret E hr hlk hP hD hS () rfl [] (by decide) rfl rfl dX11_about_63

set_option maxHeartbeats 4000000 in
set_option maxRecDepth 100000 in
theorem mX12_about_1 (l : Launch) (D : va_G) (cyI cyJ : ClassId) (Z : xZ) (h0 : Nat) (v0_0 : Value) (v0_1 : Value) (v0_2 : Value) (v0_3 : Value) (v0_4 : Value) (v0_5 : Value) (v0_6 : Value) (v0_7 : Value) (v0_8 : Value) (v0_9 : Value) (v0_10 : Value) (v0_11 : Value) (v0_12 : Value) (v0_13 : Value) (v0_14 : Value) (v0_15 : Value) (v0_16 : Value) (v0_17 : Value) (v0_18 : Value) (v0_19 : Value) (v0_20 : Value) (v0_21 : Value) (v0_22 : Value) (v0_23 : Value) (v0_24 : Value) (v0_25 : Value) (v0_26 : Value) (v0_28 : Value) (v0_29 : Value) (v0_30 : Value) (v0_31 : Value) (v0_32 : Value) (v0_33 : Value) (v0_34 : Value) (v0_35 : Value) (v0_36 : Value) (v0_37 : Value) (v0_38 : Value) (v0_39 : Value) (v0_40 : Value) (v0_41 : Value) (v0_42 : Value) (v0_43 : Value) (v0_44 : Value) (v0_45 : Value) (v0_46 : Value) (v0_47 : Value) (v0_48 : Value) (v0_49 : Value) (v0_50 : Value) (v0_51 : Value) (v0_52 : Value) (v0_53 : Value) (v0_54 : Value) (v0_55 : Value) (v0_56 : Value) (v0_57 : Value) (v0_58 : Value) (v0_59 : Value) (v0_60 : Value) (v0_61 : Value) (v0_62 : Value) (v0_63 : Value) (v0_64 : Value) : MetI l yX12_about (Cond.code yX12_about cX12_about 4 (some .int)) { frames := 1, cells := 0, slots := 0, locals := 21 } D cyI cyJ Z [.ref h0, .int 1] [(h0, .inr (12, [v0_0, v0_1, v0_2, v0_3, v0_4, v0_5, v0_6, v0_7, v0_8, v0_9, v0_10, v0_11, v0_12, v0_13, v0_14, v0_15, v0_16, v0_17, v0_18, v0_19, v0_20, v0_21, v0_22, v0_23, v0_24, v0_25, v0_26, .int 0, v0_28, v0_29, v0_30, v0_31, v0_32, v0_33, v0_34, v0_35, v0_36, v0_37, v0_38, v0_39, v0_40, v0_41, v0_42, v0_43, v0_44, v0_45, v0_46, v0_47, v0_48, v0_49, v0_50, v0_51, v0_52, v0_53, v0_54, v0_55, v0_56, v0_57, v0_58, v0_59, v0_60, v0_61, v0_62, v0_63, v0_64]))] (fun _ : Unit => 0) (fun _ : Unit => ([] : va_W)) 0 0 := by
  refine met_i (by decide) rfl ?_
  intro p e s m below meth c A ls E hr hlk hP hD hA hl
  have hS : va_S A s.heap s.heap [] := va_S.rf
  have hx := E.1.1
  have hb := E.1.2.1
  have hl : lv_has ls 4 [(0, .ref h0), (1, .int 1)] := hl
  refine lv_aload_n hx hb dX12_about_0 rfl (lv_at hl 0 rfl) ?_
  refine lv_iconst (v := 0) hx hb dX12_about_1 (by decide) ?_
  refine x_put (ws' := [(h0, .inr (12, [.int 0, v0_1, v0_2, v0_3, v0_4, v0_5, v0_6, v0_7, v0_8, v0_9, v0_10, v0_11, v0_12, v0_13, v0_14, v0_15, v0_16, v0_17, v0_18, v0_19, v0_20, v0_21, v0_22, v0_23, v0_24, v0_25, v0_26, .int 0, v0_28, v0_29, v0_30, v0_31, v0_32, v0_33, v0_34, v0_35, v0_36, v0_37, v0_38, v0_39, v0_40, v0_41, v0_42, v0_43, v0_44, v0_45, v0_46, v0_47, v0_48, v0_49, v0_50, v0_51, v0_52, v0_53, v0_54, v0_55, v0_56, v0_57, v0_58, v0_59, v0_60, v0_61, v0_62, v0_63, v0_64]))]) E iX12 tyX12 tyX12_ok nmX12 hP hD hS 0 rfl rfl 0 (by decide) wq202 rfl rfl rfl rfl rfl dX12_about_2 (fun H locs hP hD hS => ?_)
  refine lv_iconst (v := 0) hx hb dX12_about_5 (by decide) ?_
  refine lv_istore_n (lv' := [(2, .int 0), (0, .ref h0), (1, .int 1)]) hx hb dX12_about_6 rfl hl (by decide) rfl (fun ls hl => ?_)
  refine lv_iload_n hx hb dX12_about_7 rfl (lv_at hl 2 rfl) ?_
  refine lv_tableIn (tgt := 57) (off := 49) hx hb dX12_about_8 (by decide) (by decide) (by decide) (by decide) ?_
  refine lv_aload_n hx hb dX12_about_57 rfl (lv_at hl 1 rfl) ?_
  refine lv_aload_n hx hb dX12_about_58 rfl (lv_at hl 1 rfl) ?_
  refine x_get E iX12 hP 0 rfl rfl 27 (by decide) wq289 rfl dX12_about_59 ?_
  refine x_Vi (rest := []) (ws' := fun _ => [(h0, .inr (12, [.int 0, .int 0, .int (-1), v0_3, v0_4, v0_5, v0_6, v0_7, v0_8, v0_9, v0_10, v0_11, v0_12, v0_13, v0_14, v0_15, v0_16, v0_17, v0_18, v0_19, v0_20, v0_21, v0_22, v0_23, v0_24, v0_25, v0_26, .int 0, v0_28, v0_29, v0_30, v0_31, v0_32, v0_33, v0_34, v0_35, v0_36, v0_37, v0_38, v0_39, v0_40, v0_41, v0_42, v0_43, v0_44, v0_45, v0_46, v0_47, v0_48, v0_49, v0_50, v0_51, v0_52, v0_53, v0_54, v0_55, v0_56, v0_57, v0_58, v0_59, v0_60, v0_61, v0_62, v0_63, v0_64]))]) (wr := []) E (mX12_good l D cyI cyJ Z h0 (.int 0) v0_1 v0_2 v0_3 v0_4 v0_5 v0_6 v0_7 v0_8 v0_9 v0_10 v0_11 v0_12 v0_13 v0_14 v0_15 v0_16 v0_17 v0_18 v0_19 v0_20 v0_21 v0_22 v0_23 v0_24 v0_25 v0_26 (.int 0) v0_28 v0_29 v0_30 v0_31 v0_32 v0_33 v0_34 v0_35 v0_36 v0_37 v0_38 v0_39 v0_40 v0_41 v0_42 v0_43 v0_44 v0_45 v0_46 v0_47 v0_48 v0_49 v0_50 v0_51 v0_52 v0_53 v0_54 v0_55 v0_56 v0_57 v0_58 v0_59 v0_60 v0_61 v0_62 v0_63 v0_64) kX12_good wq439 wq440 wq441 ⟨rfl, rfl, Nat.le_of_ble_eq_true rfl, Nat.le_of_ble_eq_true rfl⟩ hP hD hS hA [0] [] rfl rfl (by decide) (fun _ => rfl) 0 rfl rfl rfl hl.1 rfl (Nat.le_of_ble_eq_true rfl) dX12_about_62 ⟨rfl, rfl⟩ ⟨Nat.le_of_ble_eq_true rfl, Nat.le_of_ble_eq_true rfl⟩ (fun _ H locs hP hD hS => ?_)
  exact x_iret E hr hlk hP hD hS () rfl [] (by decide) rfl rfl dX12_about_65

set_option maxHeartbeats 4000000 in
set_option maxRecDepth 100000 in
theorem mX11_about_2 (l : Launch) (D : va_G) (cyI cyJ : ClassId) (Z : xZ) (h0 : Nat) (h1 : Nat) (v0_0 : Value) (v0_1 : Value) (v0_2 : Value) (v0_3 : Value) (v0_4 : Value) (v0_5 : Value) (v0_6 : Value) (v0_8 : Value) (v0_9 : Value) (v0_10 : Value) (v0_11 : Value) (v0_12 : Value) (v0_13 : Value) (v0_14 : Value) (v0_15 : Value) (v1_0 : Value) (v1_1 : Value) (v1_2 : Value) (v1_3 : Value) (v1_4 : Value) (v1_5 : Value) (v1_6 : Value) (v1_7 : Value) (v1_8 : Value) (v1_9 : Value) (v1_10 : Value) (v1_12 : Value) (v1_13 : Value) (v1_14 : Value) : MetI l yX11_about (Cond.code yX11_about cX11_about 2 (some .int)) { frames := 1, cells := 0, slots := 0, locals := 21 } D cyI cyJ Z [.ref h0, .int 2] [(h0, .inr (11, [v0_0, v0_1, v0_2, v0_3, v0_4, v0_5, v0_6, .ref h1, v0_8, v0_9, v0_10, v0_11, v0_12, v0_13, v0_14, v0_15])), (h1, .inr (9, [v1_0, v1_1, v1_2, v1_3, v1_4, v1_5, v1_6, v1_7, v1_8, v1_9, v1_10, .int 0, v1_12, v1_13, v1_14]))] (fun _ : Unit => 0) (fun _ : Unit => ([] : va_W)) 0 0 := by
  refine met_i (by decide) rfl ?_
  intro p e s m below meth c A ls E hr hlk hP hD hA hl
  have hS : va_S A s.heap s.heap [] := va_S.rf
  have hx := E.1.1
  have hb := E.1.2.1
  have hl : lv_has ls 2 [(0, .ref h0), (1, .int 2)] := hl
  refine lv_iload_n hx hb dX11_about_0 rfl (lv_at hl 1 rfl) ?_
  refine lv_tableIn (tgt := 64) (off := 63) hx hb dX11_about_1 (by decide) (by decide) (by decide) (by decide) ?_
  refine lv_aload_n hx hb dX11_about_64 rfl (lv_at hl 0 rfl) ?_
  refine lv_aload_n hx hb dX11_about_65 rfl (lv_at hl 0 rfl) ?_
  refine x_get E iX11 hP 0 rfl rfl 7 (by decide) wq60 rfl dX11_about_66 ?_
  refine x_getN E iX9 hP 1 rfl rfl 11 (by decide) qn8 rfl dX11_about_69 ?_
  refine x_Vi (rest := []) (ws' := fun _ => [(h1, .inr (9, [v1_0, v1_1, v1_2, v1_3, v1_4, v1_5, v1_6, v1_7, v1_8, v1_9, v1_10, .int 0, v1_12, v1_13, v1_14])), (h0, .inr (11, [v0_0, v0_1, v0_2, v0_3, .int 0, v0_5, v0_6, .ref h1, v0_8, v0_9, v0_10, v0_11, v0_12, v0_13, v0_14, v0_15]))]) (wr := [(h1, .inr (9, [v1_0, v1_1, v1_2, v1_3, v1_4, v1_5, v1_6, v1_7, v1_8, v1_9, v1_10, .int 0, v1_12, v1_13, v1_14]))]) E (mX11_answered l D cyI cyJ Z h0 v0_0 v0_1 v0_2 v0_3 v0_4 v0_5 v0_6 (.ref h1) v0_8 v0_9 v0_10 v0_11 v0_12 v0_13 v0_14 v0_15) kX11_answered wq436 wq437 wq438 ⟨rfl, rfl, Nat.le_of_ble_eq_true rfl, Nat.le_of_ble_eq_true rfl⟩ hP hD hS hA [0] [1] rfl rfl (by decide) (fun _ => rfl) 0 rfl rfl rfl hl.1 rfl (Nat.le_of_ble_eq_true rfl) dX11_about_72 ⟨rfl, rfl⟩ ⟨Nat.le_of_ble_eq_true rfl, Nat.le_of_ble_eq_true rfl⟩ (fun _ H locs hP hD hS => ?_)
  exact x_iret E hr hlk hP hD hS () rfl [] (by decide) rfl rfl dX11_about_75

set_option maxHeartbeats 4000000 in
set_option maxRecDepth 100000 in
theorem mX12_about_2 (l : Launch) (D : va_G) (cyI cyJ : ClassId) (Z : xZ) (h0 : Nat) (v0_0 : Value) (v0_1 : Value) (v0_2 : Value) (v0_3 : Value) (v0_4 : Value) (v0_5 : Value) (v0_6 : Value) (v0_7 : Value) (v0_8 : Value) (v0_9 : Value) (v0_10 : Value) (v0_11 : Value) (v0_12 : Value) (v0_13 : Value) (v0_14 : Value) (v0_15 : Value) (v0_16 : Value) (v0_17 : Value) (v0_18 : Value) (v0_19 : Value) (v0_20 : Value) (v0_21 : Value) (v0_22 : Value) (v0_23 : Value) (v0_24 : Value) (v0_25 : Value) (v0_26 : Value) (v0_27 : Value) (v0_29 : Value) (v0_30 : Value) (v0_31 : Value) (v0_32 : Value) (v0_33 : Value) (v0_34 : Value) (v0_35 : Value) (v0_36 : Value) (v0_37 : Value) (v0_38 : Value) (v0_39 : Value) (v0_40 : Value) (v0_41 : Value) (v0_42 : Value) (v0_43 : Value) (v0_44 : Value) (v0_45 : Value) (v0_46 : Value) (v0_47 : Value) (v0_48 : Value) (v0_49 : Value) (v0_50 : Value) (v0_51 : Value) (v0_52 : Value) (v0_53 : Value) (v0_54 : Value) (v0_55 : Value) (v0_56 : Value) (v0_57 : Value) (v0_58 : Value) (v0_59 : Value) (v0_60 : Value) (v0_61 : Value) (v0_62 : Value) (v0_63 : Value) (v0_64 : Value) : MetI l yX12_about (Cond.code yX12_about cX12_about 4 (some .int)) { frames := 1, cells := 0, slots := 0, locals := 21 } D cyI cyJ Z [.ref h0, .int 2] [(h0, .inr (12, [v0_0, v0_1, v0_2, v0_3, v0_4, v0_5, v0_6, v0_7, v0_8, v0_9, v0_10, v0_11, v0_12, v0_13, v0_14, v0_15, v0_16, v0_17, v0_18, v0_19, v0_20, v0_21, v0_22, v0_23, v0_24, v0_25, v0_26, v0_27, .int 0, v0_29, v0_30, v0_31, v0_32, v0_33, v0_34, v0_35, v0_36, v0_37, v0_38, v0_39, v0_40, v0_41, v0_42, v0_43, v0_44, v0_45, v0_46, v0_47, v0_48, v0_49, v0_50, v0_51, v0_52, v0_53, v0_54, v0_55, v0_56, v0_57, v0_58, v0_59, v0_60, v0_61, v0_62, v0_63, v0_64]))] (fun _ : Unit => 0) (fun _ : Unit => ([] : va_W)) 0 0 := by
  refine met_i (by decide) rfl ?_
  intro p e s m below meth c A ls E hr hlk hP hD hA hl
  have hS : va_S A s.heap s.heap [] := va_S.rf
  have hx := E.1.1
  have hb := E.1.2.1
  have hl : lv_has ls 4 [(0, .ref h0), (1, .int 2)] := hl
  refine lv_aload_n hx hb dX12_about_0 rfl (lv_at hl 0 rfl) ?_
  refine lv_iconst (v := 0) hx hb dX12_about_1 (by decide) ?_
  refine x_put (ws' := [(h0, .inr (12, [.int 0, v0_1, v0_2, v0_3, v0_4, v0_5, v0_6, v0_7, v0_8, v0_9, v0_10, v0_11, v0_12, v0_13, v0_14, v0_15, v0_16, v0_17, v0_18, v0_19, v0_20, v0_21, v0_22, v0_23, v0_24, v0_25, v0_26, v0_27, .int 0, v0_29, v0_30, v0_31, v0_32, v0_33, v0_34, v0_35, v0_36, v0_37, v0_38, v0_39, v0_40, v0_41, v0_42, v0_43, v0_44, v0_45, v0_46, v0_47, v0_48, v0_49, v0_50, v0_51, v0_52, v0_53, v0_54, v0_55, v0_56, v0_57, v0_58, v0_59, v0_60, v0_61, v0_62, v0_63, v0_64]))]) E iX12 tyX12 tyX12_ok nmX12 hP hD hS 0 rfl rfl 0 (by decide) wq202 rfl rfl rfl rfl rfl dX12_about_2 (fun H locs hP hD hS => ?_)
  refine lv_iconst (v := 0) hx hb dX12_about_5 (by decide) ?_
  refine lv_istore_n (lv' := [(2, .int 0), (0, .ref h0), (1, .int 2)]) hx hb dX12_about_6 rfl hl (by decide) rfl (fun ls hl => ?_)
  refine lv_iload_n hx hb dX12_about_7 rfl (lv_at hl 2 rfl) ?_
  refine lv_tableIn (tgt := 66) (off := 58) hx hb dX12_about_8 (by decide) (by decide) (by decide) (by decide) ?_
  refine lv_aload_n hx hb dX12_about_66 rfl (lv_at hl 1 rfl) ?_
  refine lv_aload_n hx hb dX12_about_67 rfl (lv_at hl 1 rfl) ?_
  refine x_get E iX12 hP 0 rfl rfl 28 (by decide) wq290 rfl dX12_about_68 ?_
  refine x_Vi (rest := []) (ws' := fun _ => [(h0, .inr (12, [.int 0, .int 0, .int (-1), v0_3, v0_4, v0_5, v0_6, v0_7, v0_8, v0_9, v0_10, v0_11, v0_12, v0_13, v0_14, v0_15, v0_16, v0_17, v0_18, v0_19, v0_20, v0_21, v0_22, v0_23, v0_24, v0_25, v0_26, v0_27, .int 0, v0_29, v0_30, v0_31, v0_32, v0_33, v0_34, v0_35, v0_36, v0_37, v0_38, v0_39, v0_40, v0_41, v0_42, v0_43, v0_44, v0_45, v0_46, v0_47, v0_48, v0_49, v0_50, v0_51, v0_52, v0_53, v0_54, v0_55, v0_56, v0_57, v0_58, v0_59, v0_60, v0_61, v0_62, v0_63, v0_64]))]) (wr := []) E (mX12_good l D cyI cyJ Z h0 (.int 0) v0_1 v0_2 v0_3 v0_4 v0_5 v0_6 v0_7 v0_8 v0_9 v0_10 v0_11 v0_12 v0_13 v0_14 v0_15 v0_16 v0_17 v0_18 v0_19 v0_20 v0_21 v0_22 v0_23 v0_24 v0_25 v0_26 v0_27 (.int 0) v0_29 v0_30 v0_31 v0_32 v0_33 v0_34 v0_35 v0_36 v0_37 v0_38 v0_39 v0_40 v0_41 v0_42 v0_43 v0_44 v0_45 v0_46 v0_47 v0_48 v0_49 v0_50 v0_51 v0_52 v0_53 v0_54 v0_55 v0_56 v0_57 v0_58 v0_59 v0_60 v0_61 v0_62 v0_63 v0_64) kX12_good wq439 wq440 wq441 ⟨rfl, rfl, Nat.le_of_ble_eq_true rfl, Nat.le_of_ble_eq_true rfl⟩ hP hD hS hA [0] [] rfl rfl (by decide) (fun _ => rfl) 0 rfl rfl rfl hl.1 rfl (Nat.le_of_ble_eq_true rfl) dX12_about_71 ⟨rfl, rfl⟩ ⟨Nat.le_of_ble_eq_true rfl, Nat.le_of_ble_eq_true rfl⟩ (fun _ H locs hP hD hS => ?_)
  exact x_iret E hr hlk hP hD hS () rfl [] (by decide) rfl rfl dX12_about_74

set_option maxHeartbeats 4000000 in
set_option maxRecDepth 100000 in
theorem mX9_definedCount (l : Launch) (D : va_G) (cyI cyJ : ClassId) (Z : xZ) (h0 : Nat) (v0_0 : Value) (v0_1 : Value) (v0_2 : Value) (v0_3 : Value) (v0_4 : Value) (v0_5 : Value) (v0_6 : Value) (v0_7 : Value) (v0_8 : Value) (v0_9 : Value) (v0_11 : Value) (v0_12 : Value) (v0_13 : Value) (v0_14 : Value) : MetI l yX9_definedCount (Cond.code yX9_definedCount cX9_definedCount 3 (some .int)) { frames := 0, cells := 0, slots := 0, locals := 0 } D cyI cyJ Z [.ref h0] [(h0, .inr (9, [v0_0, v0_1, v0_2, v0_3, v0_4, v0_5, v0_6, v0_7, v0_8, v0_9, .int 0, v0_11, v0_12, v0_13, v0_14]))] (fun _ : Unit => 0) (fun _ : Unit => ([(h0, .inr (9, [v0_0, v0_1, v0_2, v0_3, v0_4, v0_5, v0_6, v0_7, v0_8, v0_9, .int 0, v0_11, v0_12, v0_13, v0_14]))] : va_W)) 0 0 := by
  refine met_i (by decide) rfl ?_
  intro p e s m below meth c A ls E hr hlk hP hD hA hl
  have hS : va_S A s.heap s.heap [] := va_S.rf
  have hx := E.1.1
  have hb := E.1.2.1
  have hl : lv_has ls 3 [(0, .ref h0)] := hl
  refine lv_iconst (v := 0) hx hb dX9_definedCount_0 (by decide) ?_
  refine lv_istore_n (lv' := [(1, .int 0), (0, .ref h0)]) hx hb dX9_definedCount_1 rfl hl (by decide) rfl (fun ls hl => ?_)
  refine lv_iconst (v := 0) hx hb dX9_definedCount_2 (by decide) ?_
  refine lv_istore_n (lv' := [(2, .int 0), (1, .int 0), (0, .ref h0)]) hx hb dX9_definedCount_3 rfl hl (by decide) rfl (fun ls hl => ?_)
  refine lv_iload_n hx hb dX9_definedCount_4 rfl (lv_at hl 0 rfl) ?_
  refine lv_aload_n hx hb dX9_definedCount_5 rfl (lv_at hl 2 rfl) ?_
  refine x_get E iX9 hP 0 rfl rfl 10 (by decide) wq209 rfl dX9_definedCount_6 ?_
  refine lv_icmp_ge (tgt := 29) hx hb dX9_definedCount_9 (by decide) (fun c9 => ?_) (fun c9 => absurd (by decide) c9)
  refine lv_iload_n hx hb dX9_definedCount_29 rfl (lv_at hl 1 rfl) ?_
  exact x_iret E hr hlk hP hD hS () rfl [0] (by decide) rfl rfl dX9_definedCount_30

set_option maxHeartbeats 4000000 in
set_option maxRecDepth 100000 in
theorem mX11_about_3 (l : Launch) (D : va_G) (cyI cyJ : ClassId) (Z : xZ) (h0 : Nat) (h1 : Nat) (v0_0 : Value) (v0_1 : Value) (v0_2 : Value) (v0_3 : Value) (v0_4 : Value) (v0_5 : Value) (v0_6 : Value) (v0_8 : Value) (v0_9 : Value) (v0_10 : Value) (v0_11 : Value) (v0_12 : Value) (v0_13 : Value) (v0_14 : Value) (v0_15 : Value) (v1_0 : Value) (v1_1 : Value) (v1_2 : Value) (v1_3 : Value) (v1_4 : Value) (v1_5 : Value) (v1_6 : Value) (v1_7 : Value) (v1_8 : Value) (v1_9 : Value) (v1_11 : Value) (v1_12 : Value) (v1_13 : Value) (v1_14 : Value) : MetI l yX11_about (Cond.code yX11_about cX11_about 2 (some .int)) { frames := 1, cells := 0, slots := 0, locals := 22 } D cyI cyJ Z [.ref h0, .int 3] [(h0, .inr (11, [v0_0, v0_1, v0_2, v0_3, v0_4, v0_5, v0_6, .ref h1, v0_8, v0_9, v0_10, v0_11, v0_12, v0_13, v0_14, v0_15])), (h1, .inr (9, [v1_0, v1_1, v1_2, v1_3, v1_4, v1_5, v1_6, v1_7, v1_8, v1_9, .int 0, v1_11, v1_12, v1_13, v1_14]))] (fun _ : Unit => 0) (fun _ : Unit => ([] : va_W)) 0 0 := by
  refine met_i (by decide) rfl ?_
  intro p e s m below meth c A ls E hr hlk hP hD hA hl
  have hS : va_S A s.heap s.heap [] := va_S.rf
  have hx := E.1.1
  have hb := E.1.2.1
  have hl : lv_has ls 2 [(0, .ref h0), (1, .int 3)] := hl
  refine lv_iload_n hx hb dX11_about_0 rfl (lv_at hl 1 rfl) ?_
  refine lv_tableIn (tgt := 76) (off := 75) hx hb dX11_about_1 (by decide) (by decide) (by decide) (by decide) ?_
  refine lv_aload_n hx hb dX11_about_76 rfl (lv_at hl 0 rfl) ?_
  refine lv_aload_n hx hb dX11_about_77 rfl (lv_at hl 0 rfl) ?_
  refine x_get E iX11 hP 0 rfl rfl 7 (by decide) wq60 rfl dX11_about_78 ?_
  refine x_Vi (rest := [.ref h0]) (ws' := fun _ => [(h0, .inr (11, [v0_0, v0_1, v0_2, v0_3, v0_4, v0_5, v0_6, .ref h1, v0_8, v0_9, v0_10, v0_11, v0_12, v0_13, v0_14, v0_15])), (h1, .inr (9, [v1_0, v1_1, v1_2, v1_3, v1_4, v1_5, v1_6, v1_7, v1_8, v1_9, .int 0, v1_11, v1_12, v1_13, v1_14]))]) (wr := [(h0, .inr (11, [v0_0, v0_1, v0_2, v0_3, v0_4, v0_5, v0_6, .ref h1, v0_8, v0_9, v0_10, v0_11, v0_12, v0_13, v0_14, v0_15]))]) E (mX9_definedCount l D cyI cyJ Z h1 v1_0 v1_1 v1_2 v1_3 v1_4 v1_5 v1_6 v1_7 v1_8 v1_9 v1_11 v1_12 v1_13 v1_14) kX9_definedCount wq442 wq443 wq444 ⟨rfl, rfl, Nat.le_of_ble_eq_true rfl, Nat.le_of_ble_eq_true rfl⟩ hP hD hS hA [1] [0] rfl rfl (by decide) (fun _ => rfl) 1 rfl rfl rfl hl.1 rfl (Nat.le_of_ble_eq_true rfl) dX11_about_81 ⟨rfl, rfl⟩ ⟨Nat.le_of_ble_eq_true rfl, Nat.le_of_ble_eq_true rfl⟩ (fun _ H locs hP hD hS => ?_)
  refine x_Vi (rest := []) (ws' := fun _ => [(h1, .inr (9, [v1_0, v1_1, v1_2, v1_3, v1_4, v1_5, v1_6, v1_7, v1_8, v1_9, .int 0, v1_11, v1_12, v1_13, v1_14])), (h0, .inr (11, [v0_0, v0_1, v0_2, v0_3, .int 0, v0_5, v0_6, .ref h1, v0_8, v0_9, v0_10, v0_11, v0_12, v0_13, v0_14, v0_15]))]) (wr := [(h1, .inr (9, [v1_0, v1_1, v1_2, v1_3, v1_4, v1_5, v1_6, v1_7, v1_8, v1_9, .int 0, v1_11, v1_12, v1_13, v1_14]))]) E (mX11_answered l D cyI cyJ Z h0 v0_0 v0_1 v0_2 v0_3 v0_4 v0_5 v0_6 (.ref h1) v0_8 v0_9 v0_10 v0_11 v0_12 v0_13 v0_14 v0_15) kX11_answered wq436 wq437 wq438 ⟨rfl, rfl, Nat.le_of_ble_eq_true rfl, Nat.le_of_ble_eq_true rfl⟩ hP hD hS hA [0] [1] rfl rfl (by decide) (fun _ => rfl) 0 rfl rfl rfl hl.1 rfl (Nat.le_of_ble_eq_true rfl) dX11_about_84 ⟨rfl, rfl⟩ ⟨Nat.le_of_ble_eq_true rfl, Nat.le_of_ble_eq_true rfl⟩ (fun _ H locs hP hD hS => ?_)
  exact x_iret E hr hlk hP hD hS () rfl [] (by decide) rfl rfl dX11_about_87

set_option maxHeartbeats 4000000 in
set_option maxRecDepth 100000 in
theorem mX12_about_3 (l : Launch) (D : va_G) (cyI cyJ : ClassId) (Z : xZ) (h0 : Nat) (v0_0 : Value) (v0_1 : Value) (v0_2 : Value) (v0_3 : Value) (v0_4 : Value) (v0_5 : Value) (v0_6 : Value) (v0_7 : Value) (v0_8 : Value) (v0_9 : Value) (v0_10 : Value) (v0_11 : Value) (v0_12 : Value) (v0_13 : Value) (v0_14 : Value) (v0_15 : Value) (v0_16 : Value) (v0_17 : Value) (v0_18 : Value) (v0_19 : Value) (v0_20 : Value) (v0_21 : Value) (v0_22 : Value) (v0_23 : Value) (v0_24 : Value) (v0_25 : Value) (v0_26 : Value) (v0_28 : Value) (v0_29 : Value) (v0_30 : Value) (v0_31 : Value) (v0_32 : Value) (v0_33 : Value) (v0_34 : Value) (v0_35 : Value) (v0_36 : Value) (v0_37 : Value) (v0_38 : Value) (v0_39 : Value) (v0_40 : Value) (v0_41 : Value) (v0_42 : Value) (v0_43 : Value) (v0_44 : Value) (v0_45 : Value) (v0_46 : Value) (v0_47 : Value) (v0_48 : Value) (v0_49 : Value) (v0_50 : Value) (v0_51 : Value) (v0_52 : Value) (v0_53 : Value) (v0_54 : Value) (v0_55 : Value) (v0_56 : Value) (v0_57 : Value) (v0_58 : Value) (v0_59 : Value) (v0_60 : Value) (v0_61 : Value) (v0_62 : Value) (v0_63 : Value) (v0_64 : Value) : MetI l yX12_about (Cond.code yX12_about cX12_about 4 (some .int)) { frames := 1, cells := 0, slots := 0, locals := 21 } D cyI cyJ Z [.ref h0, .int 3] [(h0, .inr (12, [v0_0, v0_1, v0_2, v0_3, v0_4, v0_5, v0_6, v0_7, v0_8, v0_9, v0_10, v0_11, v0_12, v0_13, v0_14, v0_15, v0_16, v0_17, v0_18, v0_19, v0_20, v0_21, v0_22, v0_23, v0_24, v0_25, v0_26, .int 0, v0_28, v0_29, v0_30, v0_31, v0_32, v0_33, v0_34, v0_35, v0_36, v0_37, v0_38, v0_39, v0_40, v0_41, v0_42, v0_43, v0_44, v0_45, v0_46, v0_47, v0_48, v0_49, v0_50, v0_51, v0_52, v0_53, v0_54, v0_55, v0_56, v0_57, v0_58, v0_59, v0_60, v0_61, v0_62, v0_63, v0_64]))] (fun _ : Unit => 0) (fun _ : Unit => ([] : va_W)) 0 0 := by
  refine met_i (by decide) rfl ?_
  intro p e s m below meth c A ls E hr hlk hP hD hA hl
  have hS : va_S A s.heap s.heap [] := va_S.rf
  have hx := E.1.1
  have hb := E.1.2.1
  have hl : lv_has ls 4 [(0, .ref h0), (1, .int 3)] := hl
  refine lv_aload_n hx hb dX12_about_0 rfl (lv_at hl 0 rfl) ?_
  refine lv_iconst (v := 0) hx hb dX12_about_1 (by decide) ?_
  refine x_put (ws' := [(h0, .inr (12, [.int 0, v0_1, v0_2, v0_3, v0_4, v0_5, v0_6, v0_7, v0_8, v0_9, v0_10, v0_11, v0_12, v0_13, v0_14, v0_15, v0_16, v0_17, v0_18, v0_19, v0_20, v0_21, v0_22, v0_23, v0_24, v0_25, v0_26, .int 0, v0_28, v0_29, v0_30, v0_31, v0_32, v0_33, v0_34, v0_35, v0_36, v0_37, v0_38, v0_39, v0_40, v0_41, v0_42, v0_43, v0_44, v0_45, v0_46, v0_47, v0_48, v0_49, v0_50, v0_51, v0_52, v0_53, v0_54, v0_55, v0_56, v0_57, v0_58, v0_59, v0_60, v0_61, v0_62, v0_63, v0_64]))]) E iX12 tyX12 tyX12_ok nmX12 hP hD hS 0 rfl rfl 0 (by decide) wq202 rfl rfl rfl rfl rfl dX12_about_2 (fun H locs hP hD hS => ?_)
  refine lv_iconst (v := 0) hx hb dX12_about_5 (by decide) ?_
  refine lv_istore_n (lv' := [(2, .int 0), (0, .ref h0), (1, .int 3)]) hx hb dX12_about_6 rfl hl (by decide) rfl (fun ls hl => ?_)
  refine lv_iload_n hx hb dX12_about_7 rfl (lv_at hl 2 rfl) ?_
  refine lv_tableIn (tgt := 75) (off := 67) hx hb dX12_about_8 (by decide) (by decide) (by decide) (by decide) ?_
  refine lv_iconst (v := 0) hx hb dX12_about_75 (by decide) ?_
  refine lv_istore_n (lv' := [(3, .int 0), (2, .int 0), (0, .ref h0), (1, .int 3)]) hx hb dX12_about_76 rfl hl (by decide) rfl (fun ls hl => ?_)
  refine lv_iload_n hx hb dX12_about_77 rfl (lv_at hl 0 rfl) ?_
  refine lv_aload_n hx hb dX12_about_78 rfl (lv_at hl 2 rfl) ?_
  refine x_get E iX12 hP 0 rfl rfl 27 (by decide) wq289 rfl dX12_about_79 ?_
  refine lv_icmp_ge (tgt := 109) hx hb dX12_about_82 (by decide) (fun c9 => ?_) (fun c9 => absurd (by decide) c9)
  refine lv_aload_n hx hb dX12_about_109 rfl (lv_at hl 2 rfl) ?_
  refine lv_iload_n hx hb dX12_about_110 rfl (lv_at hl 1 rfl) ?_
  refine x_Vi (rest := []) (ws' := fun _ => [(h0, .inr (12, [.int 0, .int 0, .int (-1), v0_3, v0_4, v0_5, v0_6, v0_7, v0_8, v0_9, v0_10, v0_11, v0_12, v0_13, v0_14, v0_15, v0_16, v0_17, v0_18, v0_19, v0_20, v0_21, v0_22, v0_23, v0_24, v0_25, v0_26, .int 0, v0_28, v0_29, v0_30, v0_31, v0_32, v0_33, v0_34, v0_35, v0_36, v0_37, v0_38, v0_39, v0_40, v0_41, v0_42, v0_43, v0_44, v0_45, v0_46, v0_47, v0_48, v0_49, v0_50, v0_51, v0_52, v0_53, v0_54, v0_55, v0_56, v0_57, v0_58, v0_59, v0_60, v0_61, v0_62, v0_63, v0_64]))]) (wr := []) E (mX12_good l D cyI cyJ Z h0 (.int 0) v0_1 v0_2 v0_3 v0_4 v0_5 v0_6 v0_7 v0_8 v0_9 v0_10 v0_11 v0_12 v0_13 v0_14 v0_15 v0_16 v0_17 v0_18 v0_19 v0_20 v0_21 v0_22 v0_23 v0_24 v0_25 v0_26 (.int 0) v0_28 v0_29 v0_30 v0_31 v0_32 v0_33 v0_34 v0_35 v0_36 v0_37 v0_38 v0_39 v0_40 v0_41 v0_42 v0_43 v0_44 v0_45 v0_46 v0_47 v0_48 v0_49 v0_50 v0_51 v0_52 v0_53 v0_54 v0_55 v0_56 v0_57 v0_58 v0_59 v0_60 v0_61 v0_62 v0_63 v0_64) kX12_good wq439 wq440 wq441 ⟨rfl, rfl, Nat.le_of_ble_eq_true rfl, Nat.le_of_ble_eq_true rfl⟩ hP hD hS hA [0] [] rfl rfl (by decide) (fun _ => rfl) 0 rfl rfl rfl hl.1 rfl (Nat.le_of_ble_eq_true rfl) dX12_about_111 ⟨rfl, rfl⟩ ⟨Nat.le_of_ble_eq_true rfl, Nat.le_of_ble_eq_true rfl⟩ (fun _ H locs hP hD hS => ?_)
  exact x_iret E hr hlk hP hD hS () rfl [] (by decide) rfl rfl dX12_about_114

set_option maxHeartbeats 4000000 in
set_option maxRecDepth 100000 in
theorem mX3_countOfAll (l : Launch) (D : va_G) (cyI cyJ : ClassId) (Z : xZ) (h0 : Nat) (h1 : Nat) (v0_0 : Value) (v0_1 : Value) (v0_2 : Value) (v0_4 : Value) (v0_5 : Value) (v0_6 : Value) (v0_7 : Value) : MetI l yX3_countOfAll (Cond.code yX3_countOfAll cX3_countOfAll 3 (some .int)) { frames := 0, cells := 0, slots := 0, locals := 0 } D cyI cyJ Z [.ref h0] [(h0, .inr (3, [v0_0, v0_1, v0_2, .ref h1, v0_4, v0_5, v0_6, v0_7])), (h1, .inl (cyI, 10, .inl (fun _ => 0)))] (fun _ : Unit => 0) (fun _ : Unit => ([(h0, .inr (3, [v0_0, v0_1, v0_2, .ref h1, v0_4, v0_5, v0_6, v0_7])), (h1, .inl (cyI, 10, .inl (fun _ => 0)))] : va_W)) 0 0 := by
  refine met_i (by decide) rfl ?_
  intro p e s m below meth c A ls E hr hlk hP hD hA hl
  have hS : va_S A s.heap s.heap [] := va_S.rf
  have hx := E.1.1
  have hb := E.1.2.1
  have hl : lv_has ls 3 [(0, .ref h0)] := hl
  refine lv_iconst (v := 0) hx hb dX3_countOfAll_0 (by decide) ?_
  refine lv_istore_n (lv' := [(1, .int 0), (0, .ref h0)]) hx hb dX3_countOfAll_1 rfl hl (by decide) rfl (fun ls hl => ?_)
  refine lv_iconst (v := 0) hx hb dX3_countOfAll_2 (by decide) ?_
  refine lv_istore_n (lv' := [(2, .int 0), (1, .int 0), (0, .ref h0)]) hx hb dX3_countOfAll_3 rfl hl (by decide) rfl (fun ls hl => ?_)
  refine lv_iload_n hx hb dX3_countOfAll_4 rfl (lv_at hl 0 rfl) ?_
  refine lv_bipush (v := 10) hx hb dX3_countOfAll_5 (by decide) ?_
  refine lv_icmp_ge (tgt := 25) hx hb dX3_countOfAll_7 (by decide) (fun c9 => absurd c9 (by decide)) (fun c9 => ?_)
  refine lv_iload_n hx hb dX3_countOfAll_10 rfl (lv_at hl 1 rfl) ?_
  refine lv_aload_n hx hb dX3_countOfAll_11 rfl (lv_at hl 2 rfl) ?_
  refine x_get E iX3 hP 0 rfl rfl 3 (by decide) wq75 rfl dX3_countOfAll_12 ?_
  refine lv_iload_n hx hb dX3_countOfAll_15 rfl (lv_at hl 0 rfl) ?_
  refine x_iald (v := 0) E hP 1 rfl (by decide) rfl dX3_countOfAll_16 ?_
  refine lv_iadd hx hb dX3_countOfAll_17 ?_
  refine x_topi (z := 0) (by decide) ?_
  refine lv_istore_n (lv' := [(1, .int 0), (2, .int 0), (0, .ref h0)]) hx hb dX3_countOfAll_18 rfl hl (by decide) rfl (fun ls hl => ?_)
  refine lv_iinc (v := 1) (lv' := [(2, .int 1), (1, .int 0), (0, .ref h0)]) hx hb dX3_countOfAll_19 hl (k := 1) rfl (by decide) (by decide) rfl (fun ls hl => ?_)
  refine lv_goto (tgt := 4) hx hb dX3_countOfAll_22 (by decide) ?_
  refine lv_iload_n hx hb dX3_countOfAll_4 rfl (lv_at hl 0 rfl) ?_
  refine lv_bipush (v := 10) hx hb dX3_countOfAll_5 (by decide) ?_
  refine lv_icmp_ge (tgt := 25) hx hb dX3_countOfAll_7 (by decide) (fun c9 => absurd c9 (by decide)) (fun c9 => ?_)
  refine lv_iload_n hx hb dX3_countOfAll_10 rfl (lv_at hl 1 rfl) ?_
  refine lv_aload_n hx hb dX3_countOfAll_11 rfl (lv_at hl 2 rfl) ?_
  refine x_get E iX3 hP 0 rfl rfl 3 (by decide) wq75 rfl dX3_countOfAll_12 ?_
  refine lv_iload_n hx hb dX3_countOfAll_15 rfl (lv_at hl 0 rfl) ?_
  refine x_iald (v := 0) E hP 1 rfl (by decide) rfl dX3_countOfAll_16 ?_
  refine lv_iadd hx hb dX3_countOfAll_17 ?_
  refine x_topi (z := 0) (by decide) ?_
  refine lv_istore_n (lv' := [(1, .int 0), (2, .int 1), (0, .ref h0)]) hx hb dX3_countOfAll_18 rfl hl (by decide) rfl (fun ls hl => ?_)
  refine lv_iinc (v := 2) (lv' := [(2, .int 2), (1, .int 0), (0, .ref h0)]) hx hb dX3_countOfAll_19 hl (k := 1) rfl (by decide) (by decide) rfl (fun ls hl => ?_)
  refine lv_goto (tgt := 4) hx hb dX3_countOfAll_22 (by decide) ?_
  refine lv_iload_n hx hb dX3_countOfAll_4 rfl (lv_at hl 0 rfl) ?_
  refine lv_bipush (v := 10) hx hb dX3_countOfAll_5 (by decide) ?_
  refine lv_icmp_ge (tgt := 25) hx hb dX3_countOfAll_7 (by decide) (fun c9 => absurd c9 (by decide)) (fun c9 => ?_)
  refine lv_iload_n hx hb dX3_countOfAll_10 rfl (lv_at hl 1 rfl) ?_
  refine lv_aload_n hx hb dX3_countOfAll_11 rfl (lv_at hl 2 rfl) ?_
  refine x_get E iX3 hP 0 rfl rfl 3 (by decide) wq75 rfl dX3_countOfAll_12 ?_
  refine lv_iload_n hx hb dX3_countOfAll_15 rfl (lv_at hl 0 rfl) ?_
  refine x_iald (v := 0) E hP 1 rfl (by decide) rfl dX3_countOfAll_16 ?_
  refine lv_iadd hx hb dX3_countOfAll_17 ?_
  refine x_topi (z := 0) (by decide) ?_
  refine lv_istore_n (lv' := [(1, .int 0), (2, .int 2), (0, .ref h0)]) hx hb dX3_countOfAll_18 rfl hl (by decide) rfl (fun ls hl => ?_)
  refine lv_iinc (v := 3) (lv' := [(2, .int 3), (1, .int 0), (0, .ref h0)]) hx hb dX3_countOfAll_19 hl (k := 1) rfl (by decide) (by decide) rfl (fun ls hl => ?_)
  refine lv_goto (tgt := 4) hx hb dX3_countOfAll_22 (by decide) ?_
  refine lv_iload_n hx hb dX3_countOfAll_4 rfl (lv_at hl 0 rfl) ?_
  refine lv_bipush (v := 10) hx hb dX3_countOfAll_5 (by decide) ?_
  refine lv_icmp_ge (tgt := 25) hx hb dX3_countOfAll_7 (by decide) (fun c9 => absurd c9 (by decide)) (fun c9 => ?_)
  refine lv_iload_n hx hb dX3_countOfAll_10 rfl (lv_at hl 1 rfl) ?_
  refine lv_aload_n hx hb dX3_countOfAll_11 rfl (lv_at hl 2 rfl) ?_
  refine x_get E iX3 hP 0 rfl rfl 3 (by decide) wq75 rfl dX3_countOfAll_12 ?_
  refine lv_iload_n hx hb dX3_countOfAll_15 rfl (lv_at hl 0 rfl) ?_
  refine x_iald (v := 0) E hP 1 rfl (by decide) rfl dX3_countOfAll_16 ?_
  refine lv_iadd hx hb dX3_countOfAll_17 ?_
  refine x_topi (z := 0) (by decide) ?_
  refine lv_istore_n (lv' := [(1, .int 0), (2, .int 3), (0, .ref h0)]) hx hb dX3_countOfAll_18 rfl hl (by decide) rfl (fun ls hl => ?_)
  refine lv_iinc (v := 4) (lv' := [(2, .int 4), (1, .int 0), (0, .ref h0)]) hx hb dX3_countOfAll_19 hl (k := 1) rfl (by decide) (by decide) rfl (fun ls hl => ?_)
  refine lv_goto (tgt := 4) hx hb dX3_countOfAll_22 (by decide) ?_
  refine lv_iload_n hx hb dX3_countOfAll_4 rfl (lv_at hl 0 rfl) ?_
  refine lv_bipush (v := 10) hx hb dX3_countOfAll_5 (by decide) ?_
  refine lv_icmp_ge (tgt := 25) hx hb dX3_countOfAll_7 (by decide) (fun c9 => absurd c9 (by decide)) (fun c9 => ?_)
  refine lv_iload_n hx hb dX3_countOfAll_10 rfl (lv_at hl 1 rfl) ?_
  refine lv_aload_n hx hb dX3_countOfAll_11 rfl (lv_at hl 2 rfl) ?_
  refine x_get E iX3 hP 0 rfl rfl 3 (by decide) wq75 rfl dX3_countOfAll_12 ?_
  refine lv_iload_n hx hb dX3_countOfAll_15 rfl (lv_at hl 0 rfl) ?_
  refine x_iald (v := 0) E hP 1 rfl (by decide) rfl dX3_countOfAll_16 ?_
  refine lv_iadd hx hb dX3_countOfAll_17 ?_
  refine x_topi (z := 0) (by decide) ?_
  refine lv_istore_n (lv' := [(1, .int 0), (2, .int 4), (0, .ref h0)]) hx hb dX3_countOfAll_18 rfl hl (by decide) rfl (fun ls hl => ?_)
  refine lv_iinc (v := 5) (lv' := [(2, .int 5), (1, .int 0), (0, .ref h0)]) hx hb dX3_countOfAll_19 hl (k := 1) rfl (by decide) (by decide) rfl (fun ls hl => ?_)
  refine lv_goto (tgt := 4) hx hb dX3_countOfAll_22 (by decide) ?_
  refine lv_iload_n hx hb dX3_countOfAll_4 rfl (lv_at hl 0 rfl) ?_
  refine lv_bipush (v := 10) hx hb dX3_countOfAll_5 (by decide) ?_
  refine lv_icmp_ge (tgt := 25) hx hb dX3_countOfAll_7 (by decide) (fun c9 => absurd c9 (by decide)) (fun c9 => ?_)
  refine lv_iload_n hx hb dX3_countOfAll_10 rfl (lv_at hl 1 rfl) ?_
  refine lv_aload_n hx hb dX3_countOfAll_11 rfl (lv_at hl 2 rfl) ?_
  refine x_get E iX3 hP 0 rfl rfl 3 (by decide) wq75 rfl dX3_countOfAll_12 ?_
  refine lv_iload_n hx hb dX3_countOfAll_15 rfl (lv_at hl 0 rfl) ?_
  refine x_iald (v := 0) E hP 1 rfl (by decide) rfl dX3_countOfAll_16 ?_
  refine lv_iadd hx hb dX3_countOfAll_17 ?_
  refine x_topi (z := 0) (by decide) ?_
  refine lv_istore_n (lv' := [(1, .int 0), (2, .int 5), (0, .ref h0)]) hx hb dX3_countOfAll_18 rfl hl (by decide) rfl (fun ls hl => ?_)
  refine lv_iinc (v := 6) (lv' := [(2, .int 6), (1, .int 0), (0, .ref h0)]) hx hb dX3_countOfAll_19 hl (k := 1) rfl (by decide) (by decide) rfl (fun ls hl => ?_)
  refine lv_goto (tgt := 4) hx hb dX3_countOfAll_22 (by decide) ?_
  refine lv_iload_n hx hb dX3_countOfAll_4 rfl (lv_at hl 0 rfl) ?_
  refine lv_bipush (v := 10) hx hb dX3_countOfAll_5 (by decide) ?_
  refine lv_icmp_ge (tgt := 25) hx hb dX3_countOfAll_7 (by decide) (fun c9 => absurd c9 (by decide)) (fun c9 => ?_)
  refine lv_iload_n hx hb dX3_countOfAll_10 rfl (lv_at hl 1 rfl) ?_
  refine lv_aload_n hx hb dX3_countOfAll_11 rfl (lv_at hl 2 rfl) ?_
  refine x_get E iX3 hP 0 rfl rfl 3 (by decide) wq75 rfl dX3_countOfAll_12 ?_
  refine lv_iload_n hx hb dX3_countOfAll_15 rfl (lv_at hl 0 rfl) ?_
  refine x_iald (v := 0) E hP 1 rfl (by decide) rfl dX3_countOfAll_16 ?_
  refine lv_iadd hx hb dX3_countOfAll_17 ?_
  refine x_topi (z := 0) (by decide) ?_
  refine lv_istore_n (lv' := [(1, .int 0), (2, .int 6), (0, .ref h0)]) hx hb dX3_countOfAll_18 rfl hl (by decide) rfl (fun ls hl => ?_)
  refine lv_iinc (v := 7) (lv' := [(2, .int 7), (1, .int 0), (0, .ref h0)]) hx hb dX3_countOfAll_19 hl (k := 1) rfl (by decide) (by decide) rfl (fun ls hl => ?_)
  refine lv_goto (tgt := 4) hx hb dX3_countOfAll_22 (by decide) ?_
  refine lv_iload_n hx hb dX3_countOfAll_4 rfl (lv_at hl 0 rfl) ?_
  refine lv_bipush (v := 10) hx hb dX3_countOfAll_5 (by decide) ?_
  refine lv_icmp_ge (tgt := 25) hx hb dX3_countOfAll_7 (by decide) (fun c9 => absurd c9 (by decide)) (fun c9 => ?_)
  refine lv_iload_n hx hb dX3_countOfAll_10 rfl (lv_at hl 1 rfl) ?_
  refine lv_aload_n hx hb dX3_countOfAll_11 rfl (lv_at hl 2 rfl) ?_
  refine x_get E iX3 hP 0 rfl rfl 3 (by decide) wq75 rfl dX3_countOfAll_12 ?_
  refine lv_iload_n hx hb dX3_countOfAll_15 rfl (lv_at hl 0 rfl) ?_
  refine x_iald (v := 0) E hP 1 rfl (by decide) rfl dX3_countOfAll_16 ?_
  refine lv_iadd hx hb dX3_countOfAll_17 ?_
  refine x_topi (z := 0) (by decide) ?_
  refine lv_istore_n (lv' := [(1, .int 0), (2, .int 7), (0, .ref h0)]) hx hb dX3_countOfAll_18 rfl hl (by decide) rfl (fun ls hl => ?_)
  refine lv_iinc (v := 8) (lv' := [(2, .int 8), (1, .int 0), (0, .ref h0)]) hx hb dX3_countOfAll_19 hl (k := 1) rfl (by decide) (by decide) rfl (fun ls hl => ?_)
  refine lv_goto (tgt := 4) hx hb dX3_countOfAll_22 (by decide) ?_
  refine lv_iload_n hx hb dX3_countOfAll_4 rfl (lv_at hl 0 rfl) ?_
  refine lv_bipush (v := 10) hx hb dX3_countOfAll_5 (by decide) ?_
  refine lv_icmp_ge (tgt := 25) hx hb dX3_countOfAll_7 (by decide) (fun c9 => absurd c9 (by decide)) (fun c9 => ?_)
  refine lv_iload_n hx hb dX3_countOfAll_10 rfl (lv_at hl 1 rfl) ?_
  refine lv_aload_n hx hb dX3_countOfAll_11 rfl (lv_at hl 2 rfl) ?_
  refine x_get E iX3 hP 0 rfl rfl 3 (by decide) wq75 rfl dX3_countOfAll_12 ?_
  refine lv_iload_n hx hb dX3_countOfAll_15 rfl (lv_at hl 0 rfl) ?_
  refine x_iald (v := 0) E hP 1 rfl (by decide) rfl dX3_countOfAll_16 ?_
  refine lv_iadd hx hb dX3_countOfAll_17 ?_
  refine x_topi (z := 0) (by decide) ?_
  refine lv_istore_n (lv' := [(1, .int 0), (2, .int 8), (0, .ref h0)]) hx hb dX3_countOfAll_18 rfl hl (by decide) rfl (fun ls hl => ?_)
  refine lv_iinc (v := 9) (lv' := [(2, .int 9), (1, .int 0), (0, .ref h0)]) hx hb dX3_countOfAll_19 hl (k := 1) rfl (by decide) (by decide) rfl (fun ls hl => ?_)
  refine lv_goto (tgt := 4) hx hb dX3_countOfAll_22 (by decide) ?_
  refine lv_iload_n hx hb dX3_countOfAll_4 rfl (lv_at hl 0 rfl) ?_
  refine lv_bipush (v := 10) hx hb dX3_countOfAll_5 (by decide) ?_
  refine lv_icmp_ge (tgt := 25) hx hb dX3_countOfAll_7 (by decide) (fun c9 => absurd c9 (by decide)) (fun c9 => ?_)
  refine lv_iload_n hx hb dX3_countOfAll_10 rfl (lv_at hl 1 rfl) ?_
  refine lv_aload_n hx hb dX3_countOfAll_11 rfl (lv_at hl 2 rfl) ?_
  refine x_get E iX3 hP 0 rfl rfl 3 (by decide) wq75 rfl dX3_countOfAll_12 ?_
  refine lv_iload_n hx hb dX3_countOfAll_15 rfl (lv_at hl 0 rfl) ?_
  refine x_iald (v := 0) E hP 1 rfl (by decide) rfl dX3_countOfAll_16 ?_
  refine lv_iadd hx hb dX3_countOfAll_17 ?_
  refine x_topi (z := 0) (by decide) ?_
  refine lv_istore_n (lv' := [(1, .int 0), (2, .int 9), (0, .ref h0)]) hx hb dX3_countOfAll_18 rfl hl (by decide) rfl (fun ls hl => ?_)
  refine lv_iinc (v := 10) (lv' := [(2, .int 10), (1, .int 0), (0, .ref h0)]) hx hb dX3_countOfAll_19 hl (k := 1) rfl (by decide) (by decide) rfl (fun ls hl => ?_)
  refine lv_goto (tgt := 4) hx hb dX3_countOfAll_22 (by decide) ?_
  refine lv_iload_n hx hb dX3_countOfAll_4 rfl (lv_at hl 0 rfl) ?_
  refine lv_bipush (v := 10) hx hb dX3_countOfAll_5 (by decide) ?_
  refine lv_icmp_ge (tgt := 25) hx hb dX3_countOfAll_7 (by decide) (fun c9 => ?_) (fun c9 => absurd (by decide) c9)
  refine lv_iload_n hx hb dX3_countOfAll_25 rfl (lv_at hl 1 rfl) ?_
  exact x_iret E hr hlk hP hD hS () rfl [0, 1] (by decide) rfl rfl dX3_countOfAll_26
