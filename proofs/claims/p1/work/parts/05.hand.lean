/-! Rows by hand: Arrays.fill, members of String over the constant WORDS, the loop over it. -/
section XR
variable {p : Program} {l : Launch} {e : Env} {R : Room} {s : State} {m : MethodId} {args : Array Value} {below : List Frame} {meth : Method} {c : Code} {H : Heap} {locs : List Loc} {cells slots : Nat} {Q : State → Prop}
variable {cc : ByteArray} {pc : Nat} {ls : Array Slot} {rest st0 : List Value} {D : va_G} {A : Nat → Prop} {a : Nat} {ws : va_W} {cyI cyJ : ClassId} {Z : xZ} {own : String} {nL : Nat}
variable {y : MethodName} {bytes : ByteArray} {maxL index mc ms : Nat} {rm : Room} {As : List Value} {b : Nat} {S : Type} {rv : S → Int32} {ret : Option FieldType}
/-- a call that touches no cell of the world, on a receiver outside of it -/
theorem x_Vo (E : Ctx p s m args c cc nL own D cyI cyJ Z A) (hM : MetI l y (Cond.code y bytes maxL ret) rm D cyI cyJ Z (.ref b :: As) [] rv (fun _ : S => ([] : va_W)) 0 0) (k : OkM y bytes maxL ret As.length) (hl : Cond.methodLink own index y ∈ G) (him : Cond.instanceMethod y ∈ G) (hse : Cond.selects y.cls y y ∈ G) (hr : rm.cells = 0 ∧ rm.slots = 0 ∧ rm.frames + 1 ≤ R.frames ∧ 8 + (maxL + 11) + rm.locals ≤ R.locals)
    (hP : va_P D vwCl ws H) (hD : va_D A ws) (hS : va_S A s.heap H locs) (hA : ∀ q : Nat, s.heap.size ≤ q → A q) (hO : va_O y.cls b A s s.heap)
    (hls : ls.size = nL) (hst : st0 = As.reverse ++ .ref b :: rest) (hrm : (rest.map fun v => v.category).sum ≤ 8) (hdg : decode cc pc = .ok (.invokevirtual index, 3)) (hf : cells ≤ R.cells ∧ slots ≤ R.slots)
    (kk : ∀ (u : S) (H1 : Heap) (locs1 : List Loc), va_P D vwCl ws H1 → va_D A ws → va_S A s.heap H1 locs1 → W p l e R s m args below meth c H1 locs1 cells slots Q (F0 m (pc + 3) ls (.int (rv u) :: rest))) : W p l e R s m args below meth c H locs cells slots Q (F0 m pc ls st0) := by
  obtain ⟨cell, o1, o2, o3, -⟩ := hO.kept hS.2.1
  have hFc : ∀ q, va_A [] H.size q → A q := va_free (wc := []) hD hS hA [] rfl
  have hr1 := va_runV (meth := meth) (locs := locs) (below := below) (e := e) (R := R) (cells := cells) (slots := slots) (rest := rest) (g := F0 m pc ls st0) E.1 (hM H.size) ⟨x_callB E k hl hr, E.1.2.2.2.2 _ him, E.1.2.2.2.2 _ hse⟩ ⟨x_blind, ⟨cell, o1, o2, o3⟩, x_pre E (fun k q h => by simp at h) ⟨fun i j p q h => by simp at h, fun k q h => by simp at h⟩ hS hFc⟩ rfl rfl hls hst (lv_room hrm) hdg hf
  refine va_calli hr1 hS (fun q _ h => hFc q h) hFc (fun r u t H1 locs1 ht hvm hw9 hB hz1 hk1 hS1 => ?_)
  subst hw9
  refine kk u H1 locs1 (hP.kept (fun k q hq => hk1 q.1 (hP k q hq).lt ?_)) hD hS1
  intro h
  rcases h with ⟨k2, e2, h⟩ | h
  · simp at h
  · exact Nat.not_le.mpr (hP k q hq).lt h
theorem x_So (E : Ctx p s m args c cc nL own D cyI cyJ Z A) (hM : MetI l y (Cond.code y bytes maxL ret) rm D cyI cyJ Z As [] rv (fun _ : S => ([] : va_W)) 0 0) (k : OkM y bytes maxL ret As.length) (hl : Cond.methodLink own index y ∈ G) (hsm : Cond.static y ∈ G) (hr : rm.cells = 0 ∧ rm.slots = 0 ∧ rm.frames + 1 ≤ R.frames ∧ 8 + (maxL + 11) + rm.locals ≤ R.locals)
    (hP : va_P D vwCl ws H) (hD : va_D A ws) (hS : va_S A s.heap H locs) (hA : ∀ q : Nat, s.heap.size ≤ q → A q)
    (hls : ls.size = nL) (hst : st0 = As.reverse ++ rest) (hrm : (rest.map fun v => v.category).sum ≤ 8) (hdg : decode cc pc = .ok (.invokestatic index, 3)) (hf : cells ≤ R.cells ∧ slots ≤ R.slots)
    (kk : ∀ (u : S) (H1 : Heap) (locs1 : List Loc), va_P D vwCl ws H1 → va_D A ws → va_S A s.heap H1 locs1 → W p l e R s m args below meth c H1 locs1 cells slots Q (F0 m (pc + 3) ls (.int (rv u) :: rest))) : W p l e R s m args below meth c H locs cells slots Q (F0 m pc ls st0) := by
  have hFc : ∀ q, va_A [] H.size q → A q := va_free (wc := []) hD hS hA [] rfl
  have hr1 := va_runS (meth := meth) (locs := locs) (below := below) (e := e) (R := R) (cells := cells) (slots := slots) (rest := rest) (g := F0 m pc ls st0) E.1 (hM H.size) ⟨x_callB E k hl hr, E.1.2.2.2.2 _ hsm⟩ ⟨x_blind, x_pre E (fun k q h => by simp at h) ⟨fun i j p q h => by simp at h, fun k q h => by simp at h⟩ hS hFc⟩ rfl rfl hls hst (lv_room hrm) hdg hf
  refine va_calli hr1 hS (fun q _ h => hFc q h) hFc (fun r u t H1 locs1 ht hvm hw9 hB hz1 hk1 hS1 => ?_)
  subst hw9
  refine kk u H1 locs1 (hP.kept (fun k q hq => hk1 q.1 (hP k q hq).lt ?_)) hD hS1
  intro h
  rcases h with ⟨k2, e2, h⟩ | h
  · simp at h
  · exact Nat.not_le.mpr (hP k q hq).lt h
theorem x_SoV (E : Ctx p s m args c cc nL own D cyI cyJ Z A) (hM : MetV l y (Cond.code y bytes maxL ret) rm D cyI cyJ Z As [] (fun _ : S => ([] : va_W)) 0 0) (k : OkM y bytes maxL ret As.length) (hl : Cond.methodLink own index y ∈ G) (hsm : Cond.static y ∈ G) (hr : rm.cells = 0 ∧ rm.slots = 0 ∧ rm.frames + 1 ≤ R.frames ∧ 8 + (maxL + 11) + rm.locals ≤ R.locals)
    (hP : va_P D vwCl ws H) (hD : va_D A ws) (hS : va_S A s.heap H locs) (hA : ∀ q : Nat, s.heap.size ≤ q → A q)
    (hls : ls.size = nL) (hst : st0 = As.reverse ++ rest) (hrm : (rest.map fun v => v.category).sum ≤ 8) (hdg : decode cc pc = .ok (.invokestatic index, 3)) (hf : cells ≤ R.cells ∧ slots ≤ R.slots)
    (kk : ∀ (u : S) (H1 : Heap) (locs1 : List Loc), va_P D vwCl ws H1 → va_D A ws → va_S A s.heap H1 locs1 → W p l e R s m args below meth c H1 locs1 cells slots Q (F0 m (pc + 3) ls rest)) : W p l e R s m args below meth c H locs cells slots Q (F0 m pc ls st0) := by
  have hFc : ∀ q, va_A [] H.size q → A q := va_free (wc := []) hD hS hA [] rfl
  have hr1 := va_runS (meth := meth) (locs := locs) (below := below) (e := e) (R := R) (cells := cells) (slots := slots) (rest := rest) (g := F0 m pc ls st0) E.1 (hM H.size) ⟨x_callB E k hl hr, E.1.2.2.2.2 _ hsm⟩ ⟨x_blind, x_pre E (fun k q h => by simp at h) ⟨fun i j p q h => by simp at h, fun k q h => by simp at h⟩ hS hFc⟩ rfl rfl hls hst (lv_room hrm) hdg hf
  refine va_callv hr1 hS (fun q _ h => hFc q h) hFc (fun u t H1 locs1 ht hvm hw9 hB hz1 hk1 hS1 => ?_)
  refine kk u H1 locs1 (hP.kept (fun k q hq => hk1 q.1 (hP k q hq).lt ?_)) hD hS1
  intro h
  rcases h with ⟨k2, e2, h⟩ | h
  · simp at h
  · exact Nat.not_le.mpr (hP k q hq).lt h
end XR
theorem x_row {D : va_G} {cl : List vw_C} {cyI : ClassId} {h0 n : Nat} {g : Nat → Int32} {x : Int32} {H : Heap} (h : va_P D cl [(h0, .inl (cyI, n, .inl g))] H) (hg : ∀ j, j < n → g j = x) : va_P D cl [(h0, .inl (cyI, n, .inl (fun _ => x)))] H := by
  have h1 : H[h0]? = some (vp_cell cyI (n, .inl g)) := h 0 _ rfl
  have e1 : vp_cell cyI (n, .inl g) = vp_cell cyI (n, .inl (fun _ => x)) := by
    show arrV cyI n (fun j => .int (g j)) = arrV cyI n (fun _ => .int x)
    unfold arrV
    have : (fun j : Fin n => Value.int (g j.val)) = fun _ => Value.int x := funext fun j => by rw [hg j.val j.isLt]
    rw [this]
  intro k q hk
  match k, hk with
  | 0, hk => cases hk; show H[h0]? = some (vp_cell cyI (n, .inl (fun _ => x))); rw [h1, e1]
  | k + 1, hk => simp at hk
section X7
variable {p : Program} {l : Launch} {e : Env} {R : Room} {s : State} {m : MethodId} {args : Array Value} {below : List Frame} {meth : Method} {c : Code} {cells slots : Nat} {Q : State → Prop}
variable {D : va_G} {A : Nat → Prop} {cyI cyJ : ClassId} {Z : xZ}
theorem j7_loop {own : String} {h0 n : Nat} {x : Int32} (hn : n < 2 ^ 31) (E : Ctx p s m args c cJ7_fill_53178 4 own D cyI cyJ Z A)
    (kk : ∀ (g : Nat → Int32) (H1 : Heap) (locs1 : List Loc) (ls1 : Array Slot), (∀ j, j < n → g j = x) → va_P D vwCl [(h0, .inl (cyI, n, .inl g))] H1 → va_D A [(h0, .inl (cyI, n, .inl g))] → va_S A s.heap H1 locs1 → W p l e R s m args below meth c H1 locs1 cells slots Q (F0 m 20 ls1 [])) :
    ∀ (d i : Nat) (xi : Int32) (g : Nat → Int32) (H : Heap) (locs : List Loc) (ls : Array Slot), i + d = n → xi = nI i → (∀ j, j < i → g j = x) → va_P D vwCl [(h0, .inl (cyI, n, .inl g))] H → va_D A [(h0, .inl (cyI, n, .inl g))] → va_S A s.heap H locs → lv_has ls 4 [(3, .int (nI n)), (2, .int xi), (0, .ref h0), (1, .int x)] → W p l e R s m args below meth c H locs cells slots Q (F0 m 5 ls []) := by
  have hx := E.1.1
  have hb := E.1.2.1
  intro d
  induction d with
  | zero =>
    intro i xi g H locs ls hi ei hg hP hD hS hl
    refine lv_iload_n hx hb dJ7_fill_53178_5 rfl (lv_at hl 1 rfl) ?_
    refine lv_iload_n hx hb dJ7_fill_53178_6 rfl (lv_at hl 0 rfl) ?_
    refine lv_icmp_ge (tgt := 20) hx hb dJ7_fill_53178_7 (by decide) (fun c9 => ?_) (fun c9 => absurd (by rw [ei]; exact nI_le (by omega) (by omega)) c9)
    exact kk g H locs ls (fun j hj => hg j (by omega)) hP hD hS
  | succ d ih =>
    intro i xi g H locs ls hi ei hg hP hD hS hl
    refine lv_iload_n hx hb dJ7_fill_53178_5 rfl (lv_at hl 1 rfl) ?_
    refine lv_iload_n hx hb dJ7_fill_53178_6 rfl (lv_at hl 0 rfl) ?_
    refine lv_icmp_ge (tgt := 20) hx hb dJ7_fill_53178_7 (by decide) (fun c9 => absurd c9 (by rw [ei]; exact nI_ge (by omega) hn)) (fun c9 => ?_)
    refine lv_aload_n hx hb dJ7_fill_53178_10 rfl (lv_at hl 2 rfl) ?_
    refine lv_iload_n hx hb dJ7_fill_53178_11 rfl (lv_at hl 1 rfl) ?_
    refine lv_iload_n hx hb dJ7_fill_53178_12 rfl (lv_at hl 3 rfl) ?_
    have hin : vp_in xi n := by rw [ei]; exact vp_in_nI (by omega) hn
    refine x_iast (ws' := [(h0, .inl (cyI, n, .inl (upd g xi.toNatClampNeg x)))]) E hP hD hS 0 rfl hin rfl rfl dJ7_fill_53178_13 (fun H locs hP hD hS => ?_)
    obtain ⟨xj, ej⟩ : ∃ z : Int32, z = xi + 1 := ⟨_, rfl⟩
    refine lv_iinc (v := xj) (lv' := [(2, .int xj), (3, .int (nI n)), (0, .ref h0), (1, .int x)]) hx hb dJ7_fill_53178_14 hl (k := 1) rfl (by rw [ej]; rfl) (by decide) rfl (fun ls hl => ?_)
    refine lv_goto (tgt := 5) hx hb dJ7_fill_53178_17 (by decide) ?_
    refine ih (i + 1) xj _ H locs ls (by omega) (by rw [ej, ei]; exact nI_1 i) (fun j hj => ?_) hP hD hS (lv_sub hl [1, 0, 2, 3] rfl)
    rw [ei, nI_clamp (by omega)]
    by_cases hji : j = i
    · subst hji; exact pk_us
    · rw [pk_un hji]; exact hg j (by omega)
end X7
set_option maxHeartbeats 4000000 in
theorem mJ7_fill (l : Launch) (D : va_G) (cyI cyJ : ClassId) (Z : xZ) (h0 n : Nat) (hn : n < 2 ^ 31) (f : Nat → Int32) (x : Int32) : MetV l yJ7_fill_53178 (Cond.code yJ7_fill_53178 cJ7_fill_53178 4 none) { frames := 0, cells := 0, slots := 0, locals := 0 } D cyI cyJ Z [.ref h0, .int x] [(h0, .inl (cyI, n, .inl f))] (fun _ : Unit => ([(h0, .inl (cyI, n, .inl (fun _ => x)))] : va_W)) 0 0 := by
  refine met_v (by decide) rfl ?_
  intro p e s m below meth c A ls E hr hlk hnm hP hD hA hl
  have hS : va_S A s.heap s.heap [] := va_S.rf
  have hx := E.1.1
  have hb := E.1.2.1
  have hl : lv_has ls 4 [(0, .ref h0), (1, .int x)] := hl
  refine lv_iconst (v := 0) hx hb dJ7_fill_53178_0 (by decide) ?_
  refine lv_istore_n (lv' := [(2, .int 0), (0, .ref h0), (1, .int x)]) hx hb dJ7_fill_53178_1 rfl hl (by decide) rfl (fun ls hl => ?_)
  refine lv_aload_n hx hb dJ7_fill_53178_2 rfl (lv_at hl 1 rfl) ?_
  refine x_alen (v := nI n) E hP 0 rfl rfl dJ7_fill_53178_3 ?_
  refine lv_istore_n (lv' := [(3, .int (nI n)), (2, .int 0), (0, .ref h0), (1, .int x)]) hx hb dJ7_fill_53178_4 rfl hl (by decide) rfl (fun ls hl => ?_)
  refine j7_loop hn E (fun g H1 locs1 ls1 hg hP hD hS => ?_) n 0 0 f _ _ ls (by omega) nI_0.symm (fun j hj => by omega) hP hD hS hl
  exact x_vret E hr hlk (x_row hP hg) (hD.set (p := 0) rfl) hS () [0] (by decide) rfl dJ7_fill_53178_20
/-! members of String -/
set_option maxHeartbeats 4000000 in
theorem mJ0_coder (l : Launch) (D : va_G) (cyI cyJ : ClassId) (Z : xZ) : MetI l yJ0_coder_7d493 (Cond.code yJ0_coder_7d493 cJ0_coder_7d493 1 (some .byte)) { frames := 0, cells := 0, slots := 0, locals := 0 } D cyI cyJ Z [.ref Z.1] [] (fun _ : Unit => 0) (fun _ : Unit => ([] : va_W)) 0 0 := by
  refine met_i (by decide) rfl ?_
  intro p e s m below meth c A ls E hr hlk hP hD hA hl
  have hS : va_S A s.heap s.heap [] := va_S.rf
  have hx := E.1.1
  have hb := E.1.2.1
  have hl : lv_has ls 1 [(0, .ref Z.1)] := hl
  refine va_gets hx hb E.2.2.2.2.1 hS E.1.2.2.2.1 (E.1.2.2.2.2 _ wq700) (fun _ h => h) dJ0_coder_7d493_0 ?_
  refine lv_if_eq (tgt := 13) hx hb dJ0_coder_7d493_3 (by decide) (fun c9 => absurd c9 (by decide)) (fun c9 => ?_)
  refine lv_aload_n hx hb dJ0_coder_7d493_6 rfl (lv_at hl 0 rfl) ?_
  refine vk_getf hx hb E.2.2.2.1.2.2.1 hS E.1.2.2.2.1 (E.1.2.2.2.2 _ wq701) (fun _ h => h) dJ0_coder_7d493_7 ?_
  refine lv_goto (tgt := 14) hx hb dJ0_coder_7d493_10 (by decide) ?_
  exact x_iret E hr hlk hP hD hS () rfl [] (by decide) rfl rfl dJ0_coder_7d493_14
set_option maxHeartbeats 4000000 in
theorem mJ0_length (l : Launch) (D : va_G) (cyI cyJ : ClassId) (Z : xZ) : MetI l yJ0_length_8abf5 (Cond.code yJ0_length_8abf5 cJ0_length_8abf5 1 (some .int)) { frames := 1, cells := 0, slots := 0, locals := 20 } D cyI cyJ Z [.ref Z.1] [] (fun _ : Unit => 118) (fun _ : Unit => ([] : va_W)) 0 0 := by
  refine met_i (by decide) rfl ?_
  intro p e s m below meth c A ls E hr hlk hP hD hA hl
  have hS : va_S A s.heap s.heap [] := va_S.rf
  have hx := E.1.1
  have hb := E.1.2.1
  have hl : lv_has ls 1 [(0, .ref Z.1)] := hl
  refine lv_aload_n hx hb dJ0_length_8abf5_0 rfl (lv_at hl 0 rfl) ?_
  refine vk_getf hx hb E.2.2.2.1.2.2.2.1 hS E.1.2.2.2.1 (E.1.2.2.2.2 _ wq702) (fun _ h => h) dJ0_length_8abf5_1 ?_
  refine va_tlen (v := 118) hx hb E.2.2.2.1.2.2.2.2 hS (by decide) dJ0_length_8abf5_4 ?_
  refine lv_aload_n hx hb dJ0_length_8abf5_5 rfl (lv_at hl 0 rfl) ?_
  refine x_Vo (rest := [.int 118]) E (mJ0_coder l D cyI cyJ Z) kJ0_coder_7d493 wq703 wq704 wq705 ⟨rfl, rfl, Nat.le_of_ble_eq_true rfl, Nat.le_of_ble_eq_true rfl⟩ hP hD hS hA E.2.2.2.1.2.1 hl.1 rfl (Nat.le_of_ble_eq_true rfl) dJ0_length_8abf5_6 ⟨Nat.le_of_ble_eq_true rfl, Nat.le_of_ble_eq_true rfl⟩ (fun _ H locs hP hD hS => ?_)
  refine lv_ishr hx hb dJ0_length_8abf5_9 ?_
  refine x_topi (z := 118) (by decide) ?_
  exact x_iret E hr hlk hP hD hS () rfl [] (by decide) rfl rfl dJ0_length_8abf5_10
set_option maxHeartbeats 4000000 in
theorem mJ0_isLatin1 (l : Launch) (D : va_G) (cyI cyJ : ClassId) (Z : xZ) : MetI l yJ0_isLatin1_aae02 (Cond.code yJ0_isLatin1_aae02 cJ0_isLatin1_aae02 1 (some .boolean)) { frames := 0, cells := 0, slots := 0, locals := 0 } D cyI cyJ Z [.ref Z.1] [] (fun _ : Unit => 1) (fun _ : Unit => ([] : va_W)) 0 0 := by
  refine met_i (by decide) rfl ?_
  intro p e s m below meth c A ls E hr hlk hP hD hA hl
  have hS : va_S A s.heap s.heap [] := va_S.rf
  have hx := E.1.1
  have hb := E.1.2.1
  have hl : lv_has ls 1 [(0, .ref Z.1)] := hl
  refine va_gets hx hb E.2.2.2.2.1 hS E.1.2.2.2.1 (E.1.2.2.2.2 _ wq700) (fun _ h => h) dJ0_isLatin1_aae02_0 ?_
  refine lv_if_eq (tgt := 17) hx hb dJ0_isLatin1_aae02_3 (by decide) (fun c9 => absurd c9 (by decide)) (fun c9 => ?_)
  refine lv_aload_n hx hb dJ0_isLatin1_aae02_6 rfl (lv_at hl 0 rfl) ?_
  refine vk_getf hx hb E.2.2.2.1.2.2.1 hS E.1.2.2.2.1 (E.1.2.2.2.2 _ wq701) (fun _ h => h) dJ0_isLatin1_aae02_7 ?_
  refine lv_if_ne (tgt := 17) hx hb dJ0_isLatin1_aae02_10 (by decide) (fun c9 => absurd (by decide) c9) (fun c9 => ?_)
  refine lv_iconst (v := 1) hx hb dJ0_isLatin1_aae02_13 (by decide) ?_
  refine lv_goto (tgt := 18) hx hb dJ0_isLatin1_aae02_14 (by decide) ?_
  exact x_iret E hr hlk hP hD hS () rfl [] (by decide) rfl rfl dJ0_isLatin1_aae02_18
set_option maxHeartbeats 4000000 in
theorem mJ3_checkIndex (l : Launch) (D : va_G) (cyI cyJ : ClassId) (Z : xZ) (k : Nat) (hk : k < 118) (x : Int32) (ex : x = nI k) (fm : Value) (hfm : fm = .null ∨ ∃ t, fm = .ref t) : MetI l yJ3_checkIndex_8e157 (Cond.code yJ3_checkIndex_8e157 cJ3_checkIndex_8e157 3 (some .int)) { frames := 0, cells := 0, slots := 0, locals := 0 } D cyI cyJ Z [.int x, .int 118, fm] [] (fun _ : Unit => x) (fun _ : Unit => ([] : va_W)) 0 0 := by
  have hlen : Nat.ble (lg_sl [Value.int x, .int 118, fm]).length 3 = true := by
    rcases hfm with rfl | ⟨t, rfl⟩ <;> rfl
  refine met_i (by decide) hlen ?_
  intro p e s m below meth c A ls E hr hlk hP hD hA hl
  have hS : va_S A s.heap s.heap [] := va_S.rf
  have hx := E.1.1
  have hb := E.1.2.1
  have hl : lv_has ls 3 [(0, .int x), (1, .int 118), (2, fm)] := hl
  refine lv_iload_n hx hb dJ3_checkIndex_8e157_0 rfl (lv_at hl 0 rfl) ?_
  refine lv_if_lt (tgt := 9) hx hb dJ3_checkIndex_8e157_1 (by decide) (fun c9 => absurd c9 (by rw [ex]; exact nI_pos (by omega))) (fun c9 => ?_)
  refine lv_iload_n hx hb dJ3_checkIndex_8e157_4 rfl (lv_at hl 0 rfl) ?_
  refine lv_iload_n hx hb dJ3_checkIndex_8e157_5 rfl (lv_at hl 1 rfl) ?_
  refine lv_icmp_lt (tgt := 16) hx hb dJ3_checkIndex_8e157_6 (by decide) (fun c9 => ?_) (fun c9 => absurd (by rw [ex]; exact nI_lt (b := 118) hk (by omega)) c9)
  refine lv_iload_n hx hb dJ3_checkIndex_8e157_16 rfl (lv_at hl 0 rfl) ?_
  exact x_iret E hr hlk hP hD hS () rfl [] (by decide) rfl rfl dJ3_checkIndex_8e157_17
set_option maxHeartbeats 4000000 in
theorem mJ0_checkIndex (l : Launch) (D : va_G) (cyI cyJ : ClassId) (Z : xZ) (k : Nat) (hk : k < 118) (x : Int32) (ex : x = nI k) : MetV l yJ0_checkIndex_df160 (Cond.code yJ0_checkIndex_df160 cJ0_checkIndex_df160 2 none) { frames := 1, cells := 0, slots := 0, locals := 22 } D cyI cyJ Z [.int x, .int 118] [] (fun _ : Unit => ([] : va_W)) 0 0 := by
  refine met_v (by decide) rfl ?_
  intro p e s m below meth c A ls E hr hlk hnm hP hD hA hl
  have hS : va_S A s.heap s.heap [] := va_S.rf
  have hx := E.1.1
  have hb := E.1.2.1
  have hl : lv_has ls 2 [(0, .int x), (1, .int 118)] := hl
  have go : ∀ fm : Value, (fm = .null ∨ ∃ t, fm = .ref t) → va_Z "jdk/internal/util/Preconditions" "SIOOBE_FORMATTER" "Ljava/util/function/BiFunction;" fm A s s.heap → W p l e { frames := 1, cells := 0, slots := 0, locals := 22 } s m [Value.int x, Value.int 118].toArray below meth c s.heap [] 0 0 (MQ below (va_Qv (fun _ => True) (BW D A (fun _ : Unit => ([] : va_W))) A) [Value.int x, Value.int 118].toArray s 0 0 A) (F0 m 0 ls []) := by
    intro fm hfm hZ
    refine lv_iload_n hx hb dJ0_checkIndex_df160_0 rfl (lv_at hl 0 rfl) ?_
    refine lv_iload_n hx hb dJ0_checkIndex_df160_1 rfl (lv_at hl 1 rfl) ?_
    refine va_gets hx hb hZ hS E.1.2.2.2.1 (E.1.2.2.2.2 _ wq706) (fun _ h => h) dJ0_checkIndex_df160_2 ?_
    refine x_So (rest := []) E (mJ3_checkIndex l D cyI cyJ Z k hk x ex fm hfm) kJ3_checkIndex_8e157 wq707 wq708 ⟨rfl, rfl, Nat.le_of_ble_eq_true rfl, Nat.le_of_ble_eq_true rfl⟩ hP hD hS hA hl.1 rfl (Nat.le_of_ble_eq_true rfl) dJ0_checkIndex_df160_5 ⟨Nat.le_of_ble_eq_true rfl, Nat.le_of_ble_eq_true rfl⟩ (fun _ H locs hP hD hS => ?_)
    refine lv_pop hx hb dJ0_checkIndex_df160_8 rfl ?_
    exact x_vret E hr hlk hP hD hS () [] (by decide) rfl dJ0_checkIndex_df160_9
  rcases E.2.2.2.2.2.2.2 with h | ⟨t, h⟩
  · exact go _ (Or.inl rfl) h
  · exact go _ (Or.inr ⟨t, rfl⟩) h
abbrev xChar := { v : Int32 // narrow .char (.int v) = .int v }
abbrev xBool := { v : Int32 // narrow .boolean (.int v) = .int v }
set_option maxHeartbeats 4000000 in
theorem mJ1_charAt (l : Launch) (D : va_G) (cyI cyJ : ClassId) (Z : xZ) (k : Nat) (hk : k < 118) (x : Int32) (ex : x = nI k) : MetI l yJ1_charAt_3b067 (Cond.code yJ1_charAt_3b067 cJ1_charAt_3b067 2 (some .char)) { frames := 2, cells := 0, slots := 0, locals := 43 } D cyI cyJ Z [.ref Z.2.1, .int x] [] (fun u : xChar => u.1) (fun _ : xChar => ([] : va_W)) 0 0 := by
  refine met_i (by decide) rfl ?_
  intro p e s m below meth c A ls E hr hlk hP hD hA hl
  have hS : va_S A s.heap s.heap [] := va_S.rf
  have hx := E.1.1
  have hb := E.1.2.1
  have hl : lv_has ls 2 [(0, .ref Z.2.1), (1, .int x)] := hl
  refine lv_iload_n hx hb dJ1_charAt_3b067_0 rfl (lv_at hl 1 rfl) ?_
  refine lv_aload_n hx hb dJ1_charAt_3b067_1 rfl (lv_at hl 0 rfl) ?_
  refine va_tlen (v := 118) hx hb E.2.2.2.1.2.2.2.2 hS (by decide) dJ1_charAt_3b067_2 ?_
  refine x_SoV (rest := []) E (mJ0_checkIndex l D cyI cyJ Z k hk x ex) kJ0_checkIndex_df160 wq709 wq710 ⟨rfl, rfl, Nat.le_of_ble_eq_true rfl, Nat.le_of_ble_eq_true rfl⟩ hP hD hS hA hl.1 rfl (Nat.le_of_ble_eq_true rfl) dJ1_charAt_3b067_3 ⟨Nat.le_of_ble_eq_true rfl, Nat.le_of_ble_eq_true rfl⟩ (fun _ H locs hP hD hS => ?_)
  refine lv_aload_n hx hb dJ1_charAt_3b067_6 rfl (lv_at hl 0 rfl) ?_
  refine lv_iload_n hx hb dJ1_charAt_3b067_7 rfl (lv_at hl 1 rfl) ?_
  refine va_tb hx hb E.2.2.2.1.2.2.2.2 hS (by rw [ex]; exact vp_in_nI hk (by omega)) rfl dJ1_charAt_3b067_8 ?_
  refine lv_sipush (v := 255) hx hb dJ1_charAt_3b067_9 (by decide) ?_
  refine lv_iand hx hb dJ1_charAt_3b067_12 ?_
  refine lv_i2c hx hb dJ1_charAt_3b067_13 rfl ?_
  exact x_iret E hr hlk hP hD hS ⟨_, pk_nc _⟩ rfl [] (by decide) rfl (pk_nc _) dJ1_charAt_3b067_14
set_option maxHeartbeats 4000000 in
theorem mJ0_charAt (l : Launch) (D : va_G) (cyI cyJ : ClassId) (Z : xZ) (k : Nat) (hk : k < 118) (x : Int32) (ex : x = nI k) : MetI l yJ0_charAt_5068e (Cond.code yJ0_charAt_5068e cJ0_charAt_5068e 2 (some .char)) { frames := 3, cells := 0, slots := 0, locals := 64 } D cyI cyJ Z [.ref Z.1, .int x] [] (fun u : xChar => u.1) (fun _ : xChar => ([] : va_W)) 0 0 := by
  refine met_i (by decide) rfl ?_
  intro p e s m below meth c A ls E hr hlk hP hD hA hl
  have hS : va_S A s.heap s.heap [] := va_S.rf
  have hx := E.1.1
  have hb := E.1.2.1
  have hl : lv_has ls 2 [(0, .ref Z.1), (1, .int x)] := hl
  refine lv_aload_n hx hb dJ0_charAt_5068e_0 rfl (lv_at hl 0 rfl) ?_
  refine x_Vo (rest := []) E (mJ0_isLatin1 l D cyI cyJ Z) kJ0_isLatin1_aae02 wq711 wq712 wq713 ⟨rfl, rfl, Nat.le_of_ble_eq_true rfl, Nat.le_of_ble_eq_true rfl⟩ hP hD hS hA E.2.2.2.1.2.1 hl.1 rfl (Nat.le_of_ble_eq_true rfl) dJ0_charAt_5068e_1 ⟨Nat.le_of_ble_eq_true rfl, Nat.le_of_ble_eq_true rfl⟩ (fun _ H locs hP hD hS => ?_)
  refine lv_if_eq (tgt := 16) hx hb dJ0_charAt_5068e_4 (by decide) (fun c9 => absurd c9 (by decide)) (fun c9 => ?_)
  refine lv_aload_n hx hb dJ0_charAt_5068e_7 rfl (lv_at hl 0 rfl) ?_
  refine vk_getf hx hb E.2.2.2.1.2.2.2.1 hS E.1.2.2.2.1 (E.1.2.2.2.2 _ wq702) (fun _ h => h) dJ0_charAt_5068e_8 ?_
  refine lv_iload_n hx hb dJ0_charAt_5068e_11 rfl (lv_at hl 1 rfl) ?_
  refine x_So (rest := []) E (mJ1_charAt l D cyI cyJ Z k hk x ex) kJ1_charAt_3b067 wq714 wq715 ⟨rfl, rfl, Nat.le_of_ble_eq_true rfl, Nat.le_of_ble_eq_true rfl⟩ hP hD hS hA hl.1 rfl (Nat.le_of_ble_eq_true rfl) dJ0_charAt_5068e_12 ⟨Nat.le_of_ble_eq_true rfl, Nat.le_of_ble_eq_true rfl⟩ (fun u H locs hP hD hS => ?_)
  exact x_iret E hr hlk hP hD hS u rfl [] (by decide) rfl u.2 dJ0_charAt_5068e_15
/-! Tokens' own statics -/
set_option maxHeartbeats 4000000 in
theorem mX8_isLetter_o (l : Launch) (D : va_G) (cyI cyJ : ClassId) (Z : xZ) (x : Int32) : MetI l yX8_isLetter (Cond.code yX8_isLetter cX8_isLetter 1 (some .boolean)) { frames := 0, cells := 0, slots := 0, locals := 0 } D cyI cyJ Z [.int x] [] (fun u : xBool => u.1) (fun _ : xBool => ([] : va_W)) 0 0 := by
  refine met_i (by decide) rfl ?_
  intro p e s m below meth c A ls E hr hlk hP hD hA hl
  have hS : va_S A s.heap s.heap [] := va_S.rf
  have hx := E.1.1
  have hb := E.1.2.1
  have hl : lv_has ls 1 [(0, .int x)] := hl
  refine lv_iload_n hx hb dX8_isLetter_0 rfl (lv_at hl 0 rfl) ?_
  refine lv_bipush (v := 97) hx hb dX8_isLetter_1 (by decide) ?_
  refine lv_icmp_lt (tgt := 16) hx hb dX8_isLetter_3 (by decide) (fun c9 => ?_) (fun c9 => ?_)
  · refine lv_iconst (v := 0) hx hb dX8_isLetter_16 (by decide) ?_
    exact x_iret E hr hlk hP hD hS ⟨0, rfl⟩ rfl [] (by decide) rfl rfl dX8_isLetter_17
  · refine lv_iload_n hx hb dX8_isLetter_6 rfl (lv_at hl 0 rfl) ?_
    refine lv_bipush (v := 122) hx hb dX8_isLetter_7 (by decide) ?_
    refine lv_icmp_gt (tgt := 16) hx hb dX8_isLetter_9 (by decide) (fun c9 => ?_) (fun c9 => ?_)
    · refine lv_iconst (v := 0) hx hb dX8_isLetter_16 (by decide) ?_
      exact x_iret E hr hlk hP hD hS ⟨0, rfl⟩ rfl [] (by decide) rfl rfl dX8_isLetter_17
    · refine lv_iconst (v := 1) hx hb dX8_isLetter_12 (by decide) ?_
      refine lv_goto (tgt := 17) hx hb dX8_isLetter_13 (by decide) ?_
      exact x_iret E hr hlk hP hD hS ⟨1, rfl⟩ rfl [] (by decide) rfl rfl dX8_isLetter_17
section XP
variable {p : Program} {l : Launch} {e : Env} {R : Room} {s : State} {m : MethodId} {args : Array Value} {below : List Frame} {meth : Method} {c : Code} {H : Heap} {locs : List Loc} {cells slots : Nat} {Q : State → Prop}
variable {D : va_G} {A : Nat → Prop} {cyI cyJ : ClassId} {Z : xZ}
theorem x8_pad {own : String} {x0 x1 : Int32} (E : Ctx p s m args c cX8_padded 4 own D cyI cyJ Z A)
    (kk : ∀ (v : Int32) (ls1 : Array Slot), W p l e R s m args below meth c H locs cells slots Q (F0 m 22 ls1 [.int v])) :
    ∀ (d b : Nat) (xb v : Int32) (ls : Array Slot), 6 ≤ b + d → b < 2 ^ 30 → xb = nI b → lv_has ls 4 [(3, .int xb), (2, .int v), (0, .int x0), (1, .int x1)] → W p l e R s m args below meth c H locs cells slots Q (F0 m 4 ls []) := by
  have hx := E.1.1
  have hb := E.1.2.1
  intro d
  induction d with
  | zero =>
    intro b xb v ls h1 h2 eb hl
    refine lv_iload_n hx hb dX8_padded_4 rfl (lv_at hl 0 rfl) ?_
    refine lv_bipush (v := 6) hx hb dX8_padded_5 (by decide) ?_
    refine lv_icmp_ge (tgt := 21) hx hb dX8_padded_7 (by decide) (fun c9 => ?_) (fun c9 => absurd (by rw [eb]; exact nI_le (a := 6) (by omega) (by omega)) c9)
    refine lv_iload_n hx hb dX8_padded_21 rfl (lv_at hl 1 rfl) ?_
    exact kk v ls
  | succ d ih =>
    intro b xb v ls h1 h2 eb hl
    refine lv_iload_n hx hb dX8_padded_4 rfl (lv_at hl 0 rfl) ?_
    refine lv_bipush (v := 6) hx hb dX8_padded_5 (by decide) ?_
    refine lv_icmp_ge (tgt := 21) hx hb dX8_padded_7 (by decide) (fun c9 => ?_) (fun c9 => ?_)
    · refine lv_iload_n hx hb dX8_padded_21 rfl (lv_at hl 1 rfl) ?_
      exact kk v ls
    · refine lv_iload_n hx hb dX8_padded_10 rfl (lv_at hl 1 rfl) ?_
      refine lv_bipush (v := 27) hx hb dX8_padded_11 (by decide) ?_
      refine lv_imul hx hb dX8_padded_13 ?_
      refine lv_topi (fun w _ => ?_)
      refine lv_istore_n (lv' := [(2, .int w), (3, .int xb), (0, .int x0), (1, .int x1)]) hx hb dX8_padded_14 rfl hl (by decide) rfl (fun ls hl => ?_)
      obtain ⟨xj, ej⟩ : ∃ z : Int32, z = xb + 1 := ⟨_, rfl⟩
      refine lv_iinc (v := xj) (lv' := [(3, .int xj), (2, .int w), (0, .int x0), (1, .int x1)]) hx hb dX8_padded_15 hl (k := 1) rfl (by rw [ej]; rfl) (by decide) rfl (fun ls hl => ?_)
      refine lv_goto (tgt := 4) hx hb dX8_padded_18 (by decide) ?_
      have hb6 : b < 6 := by
        rcases Nat.lt_or_ge b 6 with q | q
        · exact q
        · exact absurd (by rw [eb]; exact nI_le (a := 6) q (by omega)) c9
      exact ih (b + 1) xj w ls (by omega) (by omega) (by rw [ej, eb]; exact nI_1 b) hl
end XP
set_option maxHeartbeats 4000000 in
theorem mX8_padded_o (l : Launch) (D : va_G) (cyI cyJ : ClassId) (Z : xZ) (x y : Int32) (b : Nat) (hb0 : b < 2 ^ 30) (ey : y = nI b) : MetI l yX8_padded (Cond.code yX8_padded cX8_padded 4 (some .int)) { frames := 0, cells := 0, slots := 0, locals := 0 } D cyI cyJ Z [.int x, .int y] [] (fun u : Int32 => u) (fun _ : Int32 => ([] : va_W)) 0 0 := by
  refine met_i (by decide) rfl ?_
  intro p e s m below meth c A ls E hr hlk hP hD hA hl
  have hS : va_S A s.heap s.heap [] := va_S.rf
  have hx := E.1.1
  have hb := E.1.2.1
  have hl : lv_has ls 4 [(0, .int x), (1, .int y)] := hl
  refine lv_iload_n hx hb dX8_padded_0 rfl (lv_at hl 0 rfl) ?_
  refine lv_istore_n (lv' := [(2, .int x), (0, .int x), (1, .int y)]) hx hb dX8_padded_1 rfl hl (by decide) rfl (fun ls hl => ?_)
  refine lv_iload_n hx hb dX8_padded_2 rfl (lv_at hl 2 rfl) ?_
  refine lv_istore_n (lv' := [(3, .int y), (2, .int x), (0, .int x), (1, .int y)]) hx hb dX8_padded_3 rfl hl (by decide) rfl (fun ls hl => ?_)
  exact x8_pad E (fun v ls1 => x_iret E hr hlk hP hD hS v rfl [] (by decide) rfl rfl dX8_padded_22) 6 b y x ls (by omega) hb0 ey hl
section X8
variable {p : Program} {l : Launch} {e : Env} {R : Room} {s : State} {m : MethodId} {args : Array Value} {below : List Frame} {meth : Method} {c : Code} {cells slots : Nat} {Q : State → Prop}
variable {D : va_G} {A : Nat → Prop} {cyI cyJ : ClassId} {Z : xZ}
set_option maxHeartbeats 4000000 in
theorem x8_go {wg : (Nat → Int32) → va_W} {h0 h1 a1 : Nat} {fs : List Value} (E : Ctx p s m args c cX8_init 7 RX8 D cyI cyJ Z A) (hfr : 9 ≤ R.frames) (hlo : 400 ≤ R.locals) (hce : cells ≤ R.cells ∧ slots ≤ R.slots) (hA : ∀ q : Nat, s.heap.size ≤ q → A q) (k0 k1 : Nat) (h0w : ∀ f, (wg f)[k0]? = some (h0, .inr (8, fs))) (hf1 : fs[1]? = some (.ref a1)) (h1w : ∀ f, (wg f)[k1]? = some (a1, .inl (cyI, 25, .inl f))) (hset : ∀ f f', (wg f).set k1 (a1, .inl (cyI, 25, .inl f')) = wg f')
    (kk : ∀ (g : Nat → Int32) (H1 : Heap) (locs1 : List Loc) (ls1 : Array Slot), va_P D vwCl (wg g) H1 → va_D A (wg g) → va_S A s.heap H1 locs1 → lv_has ls1 7 [(0, .ref h0)] → W p l e R s m args below meth c H1 locs1 cells slots Q (F0 m 133 ls1 [])) :
    ∀ (d i b g : Nat) (xi xb xg cd : Int32) (f : Nat → Int32) (H : Heap) (locs : List Loc) (ls : Array Slot), i + d = 118 → b ≤ i → xi = nI i → xb = nI b → g ≤ 25 → xg = nI g → va_P D vwCl (wg f) H → va_D A (wg f) → va_S A s.heap H locs → lv_has ls 7 [(5, .int xi), (4, .int xb), (3, .int cd), (2, .int xg), (0, .ref h0), (1, .ref h1)] → W p l e R s m args below meth c H locs cells slots Q (F0 m 54 ls []) := by
  have hx := E.1.1
  have hb := E.1.2.1
  have hO : va_O "java/lang/String" Z.1 A s s.heap := E.2.2.2.1.2.1
  have e118 : (118 : Int32) = nI 118 := by decide
  intro d
  induction d with
  | zero =>
    intro i b g xi xb xg cd f H locs ls hid hbi ei eb hg eg hP hD hS hl
    refine lv_iload hx hb dX8_init_54 (lv_at hl 0 rfl) ?_
    refine va_ldcS hx hb E.1.2.2.2.1 E.2.2.2.1.1 dX8_init_56 ?_
    refine x_Vo (rest := [.int xi]) E (mJ0_length l D cyI cyJ Z) kJ0_length_8abf5 wq716 wq717 wq718 ⟨rfl, rfl, Nat.le_trans (Nat.le_of_ble_eq_true rfl) hfr, Nat.le_trans (Nat.le_of_ble_eq_true rfl) hlo⟩ hP hD hS hA hO hl.1 rfl (Nat.le_of_ble_eq_true rfl) dX8_init_58 hce (fun _ H locs hP hD hS => ?_)
    refine lv_icmp_ge (tgt := 133) hx hb dX8_init_61 (by decide) (fun c9 => ?_) (fun c9 => absurd (by rw [ei, e118]; exact nI_le (by omega) (by omega)) c9)
    exact kk f H locs ls hP hD hS (lv_sub hl [4] rfl)
  | succ d ih =>
    intro i b g xi xb xg cd f H locs ls hid hbi ei eb hg eg hP hD hS hl
    have hi118 : i < 118 := by omega
    refine lv_iload hx hb dX8_init_54 (lv_at hl 0 rfl) ?_
    refine va_ldcS hx hb E.1.2.2.2.1 E.2.2.2.1.1 dX8_init_56 ?_
    refine x_Vo (rest := [.int xi]) E (mJ0_length l D cyI cyJ Z) kJ0_length_8abf5 wq716 wq717 wq718 ⟨rfl, rfl, Nat.le_trans (Nat.le_of_ble_eq_true rfl) hfr, Nat.le_trans (Nat.le_of_ble_eq_true rfl) hlo⟩ hP hD hS hA hO hl.1 rfl (Nat.le_of_ble_eq_true rfl) dX8_init_58 hce (fun _ H locs hP hD hS => ?_)
    refine lv_icmp_ge (tgt := 133) hx hb dX8_init_61 (by decide) (fun c9 => absurd c9 (by rw [ei, e118]; exact nI_ge (by omega) (by omega))) (fun c9 => ?_)
    refine va_ldcS hx hb E.1.2.2.2.1 E.2.2.2.1.1 dX8_init_64 ?_
    refine lv_iload hx hb dX8_init_66 (lv_at hl 0 rfl) ?_
    refine x_Vo (rest := []) E (mJ0_charAt l D cyI cyJ Z i hi118 xi ei) kJ0_charAt_5068e wq719 wq720 wq721 ⟨rfl, rfl, Nat.le_trans (Nat.le_of_ble_eq_true rfl) hfr, Nat.le_trans (Nat.le_of_ble_eq_true rfl) hlo⟩ hP hD hS hA hO hl.1 rfl (Nat.le_of_ble_eq_true rfl) dX8_init_68 hce (fun u H locs hP hD hS => ?_)
    refine lv_topi (fun ch _ => ?_)
    refine lv_istore (lv' := [(6, .int ch), (5, .int xi), (4, .int xb), (3, .int cd), (2, .int xg), (0, .ref h0), (1, .ref h1)]) hx hb dX8_init_71 hl (by decide) rfl (fun ls hl => ?_)
    refine lv_iload hx hb dX8_init_73 (lv_at hl 0 rfl) ?_
    refine x_So (rest := []) E (mX8_isLetter_o l D cyI cyJ Z ch) kX8_isLetter wq722 wq723 ⟨rfl, rfl, Nat.le_trans (Nat.le_of_ble_eq_true rfl) hfr, Nat.le_trans (Nat.le_of_ble_eq_true rfl) hlo⟩ hP hD hS hA hl.1 rfl (Nat.le_of_ble_eq_true rfl) dX8_init_75 hce (fun u H locs hP hD hS => ?_)
    obtain ⟨xj, ej⟩ : ∃ z : Int32, z = xi + 1 := ⟨_, rfl⟩
    have ej2 : xj = nI (i + 1) := by rw [ej, ei]; exact nI_1 i
    refine lv_if_eq (tgt := 98) hx hb dX8_init_78 (by decide) (fun c9 => ?_) (fun c9 => ?_)
    · refine lv_iload_n hx hb dX8_init_98 rfl (lv_at hl 4 rfl) ?_
      refine lv_aload_n hx hb dX8_init_99 rfl (lv_at hl 5 rfl) ?_
      refine x_get E iX8 hP k0 (h0w f) rfl 1 (by decide) wq88 hf1 dX8_init_100 ?_
      refine x_alen (v := 25) E hP k1 (h1w f) (by decide) dX8_init_103 ?_
      refine lv_icmp_ge (tgt := 127) hx hb dX8_init_104 (by decide) (fun c9 => ?_) (fun c9 => ?_)
      · refine lv_iinc (v := xj) (lv' := [(5, .int xj), (6, .int ch), (4, .int xb), (3, .int cd), (2, .int xg), (0, .ref h0), (1, .ref h1)]) hx hb dX8_init_127 hl (k := 1) rfl (by rw [ej]; rfl) (by decide) rfl (fun ls hl => ?_)
        refine lv_goto (tgt := 54) hx hb dX8_init_130 (by decide) ?_
        exact ih (i + 1) b g xj xb xg cd f H locs ls (by omega) (by omega) ej2 eb hg eg hP hD hS (lv_sub hl [0, 2, 3, 4, 5, 6] rfl)
      · have e25 : (25 : Int32) = nI 25 := by decide
        have hg25 : g < 25 := by
          rcases Nat.lt_or_ge g 25 with q | q
          · exact q
          · exact absurd (by rw [eg, e25]; exact nI_le q (by omega)) c9
        refine lv_aload_n hx hb dX8_init_107 rfl (lv_at hl 5 rfl) ?_
        refine x_get E iX8 hP k0 (h0w f) rfl 1 (by decide) wq88 hf1 dX8_init_108 ?_
        refine lv_iload_n hx hb dX8_init_111 rfl (lv_at hl 4 rfl) ?_
        refine lv_iload_n hx hb dX8_init_112 rfl (lv_at hl 3 rfl) ?_
        refine lv_iload hx hb dX8_init_113 (lv_at hl 2 rfl) ?_
        refine x_So (rest := [.int xg, .ref a1]) E (mX8_padded_o l D cyI cyJ Z cd xb b (by omega) eb) kX8_padded wq724 wq725 ⟨rfl, rfl, Nat.le_trans (Nat.le_of_ble_eq_true rfl) hfr, Nat.le_trans (Nat.le_of_ble_eq_true rfl) hlo⟩ hP hD hS hA hl.1 rfl (Nat.le_of_ble_eq_true rfl) dX8_init_115 hce (fun u H locs hP hD hS => ?_)
        refine x_iastG (wg := wg) E hP hD hS k1 (h1w f) (by rw [eg]; exact vp_in_nI hg25 (by omega)) (hset f) dX8_init_118 (fun f H locs hP hD hS => ?_)
        obtain ⟨xh, eh⟩ : ∃ z : Int32, z = xg + 1 := ⟨_, rfl⟩
        refine lv_iinc (v := xh) (lv' := [(2, .int xh), (6, .int ch), (5, .int xi), (4, .int xb), (3, .int cd), (0, .ref h0), (1, .ref h1)]) hx hb dX8_init_119 hl (k := 4) rfl (by rw [eh]; rfl) (by decide) rfl (fun ls hl => ?_)
        refine lv_iconst (v := 0) hx hb dX8_init_122 (by decide) ?_
        refine lv_istore_n (lv' := [(3, .int 0), (2, .int xh), (6, .int ch), (5, .int xi), (4, .int xb), (0, .ref h0), (1, .ref h1)]) hx hb dX8_init_123 rfl hl (by decide) rfl (fun ls hl => ?_)
        refine lv_iconst (v := 0) hx hb dX8_init_124 (by decide) ?_
        refine lv_istore (lv' := [(4, .int 0), (3, .int 0), (2, .int xh), (6, .int ch), (5, .int xi), (0, .ref h0), (1, .ref h1)]) hx hb dX8_init_125 hl (by decide) rfl (fun ls hl => ?_)
        refine lv_iinc (v := xj) (lv' := [(5, .int xj), (4, .int 0), (3, .int 0), (2, .int xh), (6, .int ch), (0, .ref h0), (1, .ref h1)]) hx hb dX8_init_127 hl (k := 4) rfl (by rw [ej]; rfl) (by decide) rfl (fun ls hl => ?_)
        refine lv_goto (tgt := 54) hx hb dX8_init_130 (by decide) ?_
        exact ih (i + 1) 0 (g + 1) xj 0 xh 0 f H locs ls (by omega) (by omega) ej2 nI_0.symm (by omega) (by rw [eh, eg]; exact nI_1 g) hP hD hS (lv_sub hl [0, 1, 2, 3, 5, 6] rfl)
    · refine lv_iload_n hx hb dX8_init_81 rfl (lv_at hl 3 rfl) ?_
      refine lv_bipush (v := 27) hx hb dX8_init_82 (by decide) ?_
      refine lv_imul hx hb dX8_init_84 ?_
      refine lv_topi (fun y1 _ => ?_)
      refine lv_iload hx hb dX8_init_85 (lv_at hl 0 rfl) ?_
      refine lv_iadd hx hb dX8_init_87 ?_
      refine lv_topi (fun y2 _ => ?_)
      refine lv_bipush (v := 96) hx hb dX8_init_88 (by decide) ?_
      refine lv_isub hx hb dX8_init_90 ?_
      refine lv_topi (fun y3 _ => ?_)
      refine lv_istore_n (lv' := [(3, .int y3), (6, .int ch), (5, .int xi), (4, .int xb), (2, .int xg), (0, .ref h0), (1, .ref h1)]) hx hb dX8_init_91 rfl hl (by decide) rfl (fun ls hl => ?_)
      obtain ⟨xh, eh⟩ : ∃ z : Int32, z = xb + 1 := ⟨_, rfl⟩
      refine lv_iinc (v := xh) (lv' := [(4, .int xh), (3, .int y3), (6, .int ch), (5, .int xi), (2, .int xg), (0, .ref h0), (1, .ref h1)]) hx hb dX8_init_92 hl (k := 3) rfl (by rw [eh]; rfl) (by decide) rfl (fun ls hl => ?_)
      refine lv_goto (tgt := 127) hx hb dX8_init_95 (by decide) ?_
      refine lv_iinc (v := xj) (lv' := [(5, .int xj), (4, .int xh), (3, .int y3), (6, .int ch), (2, .int xg), (0, .ref h0), (1, .ref h1)]) hx hb dX8_init_127 hl (k := 3) rfl (by rw [ej]; rfl) (by decide) rfl (fun ls hl => ?_)
      refine lv_goto (tgt := 54) hx hb dX8_init_130 (by decide) ?_
      exact ih (i + 1) (b + 1) g xj xh xg y3 f H locs ls (by omega) (by omega) ej2 (by rw [eh, eb]; exact nI_1 b) hg eg hP hD hS (lv_sub hl [0, 1, 2, 4, 5, 6] rfl)
theorem x8_loop {wg : (Nat → Int32) → va_W} {h0 h1 a1 : Nat} {fs : List Value} {f : Nat → Int32} {H : Heap} {locs : List Loc} {ls : Array Slot} (E : Ctx p s m args c cX8_init 7 RX8 D cyI cyJ Z A) (hfr : 9 ≤ R.frames) (hlo : 400 ≤ R.locals) (hce : cells ≤ R.cells ∧ slots ≤ R.slots) (hD : va_D A (wg f)) (hS : va_S A s.heap H locs) (hA : ∀ q : Nat, s.heap.size ≤ q → A q) (k0 k1 : Nat) (h0w : ∀ f, (wg f)[k0]? = some (h0, .inr (8, fs))) (hf1 : fs[1]? = some (.ref a1)) (h1w : ∀ f, (wg f)[k1]? = some (a1, .inl (cyI, 25, .inl f))) (hset : ∀ f f', (wg f).set k1 (a1, .inl (cyI, 25, .inl f')) = wg f')
    (kk : ∀ (g : Nat → Int32) (H1 : Heap) (locs1 : List Loc) (ls1 : Array Slot), va_P D vwCl (wg g) H1 → va_D A (wg g) → va_S A s.heap H1 locs1 → lv_has ls1 7 [(0, .ref h0)] → W p l e R s m args below meth c H1 locs1 cells slots Q (F0 m 133 ls1 []))
    (hP : va_P D vwCl (wg f) H) (hl : lv_has ls 7 [(5, .int 0), (4, .int 0), (3, .int 0), (2, .int 0), (0, .ref h0), (1, .ref h1)]) : W p l e R s m args below meth c H locs cells slots Q (F0 m 54 ls []) :=
  x8_go E hfr hlo hce hA k0 k1 h0w hf1 h1w hset kk 118 0 0 0 0 0 0 0 f H locs ls rfl (Nat.le_refl _) nI_0.symm nI_0.symm (Nat.zero_le _) nI_0.symm hP hD hS hl
end X8
