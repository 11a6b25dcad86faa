/-! named(): it always throws on a fresh object; the law's own 'named' catches it. -/
def MetX (l : Launch) (y : MethodName) (cd : Cond) (rm : Room) (D : va_G) (cyI cyJ : ClassId) (Z : xZ) (av : List Value) (wc : va_W) (mc ms : Nat) : Prop :=
  ∀ sz : Nat, vx_Met l y (cd :: G) rm (PreW D cyI cyJ Z av wc sz) (va_Qi (fun _ (_ : Unit) => False) (fun _ _ => True) (va_A wc sz)) (vx_X (fun _ : Unit => True) (fun E9 _ _ => E9 = xNSE) (va_A wc sz)) mc ms (va_A wc sz)
theorem met_x {l : Launch} {y : MethodName} {bytes : ByteArray} {maxL : Nat} {rm : Room} {D : va_G} {cyI cyJ : ClassId} {Z : xZ} {av : List Value} {wc : va_W} {mc ms : Nat} {rt : FieldType} (hy : plainName y.cls = true) (hlen : Nat.ble (lg_sl av).length maxL = true)
    (body : ∀ (p : Program) (e : Env) (s : State) (m : MethodId) (below : List Frame) (meth : Method) (c : Code) (A : Nat → Prop) (ls : Array Slot), Ctx p s m av.toArray c bytes maxL y.cls D cyI cyJ Z A → (∀ x ∈ c.exceptionTable.toList, False) → meth.locks = false → va_P D vwCl wc s.heap → va_D A wc → (∀ q : Nat, s.heap.size ≤ q → A q) → lv_has ls maxL (lv_args 0 av) → W p l e rm s m av.toArray below meth c s.heap [] 0 0 (vx_MQ below (va_Qi (fun _ (_ : Unit) => False) (fun _ _ => True) A) (vx_X (fun _ : Unit => True) (fun E9 _ _ => E9 = xNSE) A) av.toArray s mc ms A) (F0 m 0 ls [])) :
    MetX l y (Cond.code y bytes maxL (some rt)) rm D cyI cyJ Z av wc mc ms := by
  intro sz
  refine vx_ofW (cc := bytes) (maxL := maxL) (ret := some rt) hy rfl ?_
  intro p e s m args below meth c s₁ B hml hex hv
  obtain ⟨rfl, hsz, hP, hK, hD0, hN, hF⟩ := hv
  subst hsz
  have hts := atoms_spec (ws := Cond.code y bytes maxL (some rt) :: G) B.pre
  have hl := lv_entry av (n := maxL) (Nat.le_of_ble_eq_true hlen)
  rw [lg_entry_eq]
  generalize (lg_sl av ++ List.replicate (maxL - (lg_sl av).length) Slot.unset).toArray = ls at hl ⊢
  exact body p e s m below meth c _ ls ⟨⟨B.exec, B.bytes, hml, findClass_of_methodNamed B.named, fun w h => hts w (List.mem_cons_of_mem _ h)⟩, hK, hN, hF⟩ hex B.notSynchronized hP hD0.self (fun q h => Or.inr h) hl
theorem xThr_no : ∀ w ∈ nsAt.filter (fun w => !goodWord w), w ∈ [Cond.castable xNSE xNSE, Cond.declares (Bundle.initS "java/lang/RuntimeException"), Cond.declares (Bundle.initS "java/lang/Exception"), Cond.declares (Bundle.initS Bundle.tN)] := by decide +kernel
theorem xThr_ot : ∀ w ∈ Cond.classLink RX11 319 xNSE :: Cond.initialized xNSE :: nsAt, vx_ot w = true := by decide +kernel
section XE
variable {p : Program} {l : Launch} {e : Env} {R : Room} {s : State} {m : MethodId} {args : Array Value} {below : List Frame} {meth : Method} {c : Code} {H : Heap} {locs : List Loc} {cells slots : Nat} {Q : State → Prop}
variable {ls : Array Slot} {rest st0 : List Value} {D : va_G} {A : Nat → Prop} {ws : va_W} {cyI cyJ : ClassId} {Z : xZ}
theorem x_thr {mc ms : Nat} (hst : l.stackTraces = false) (E : Ctx p s m args c cX11_named 4 RX11 D cyI cyJ Z A) (hex : ∀ x ∈ c.exceptionTable.toList, False) (hlk : meth.locks = false) (hS : va_S A s.heap H locs) (hls : ls.size = 4) (hfr : 6 ≤ R.frames) (hlo : 90 ≤ R.locals) (hce : cells + 1 ≤ R.cells ∧ slots + 6 ≤ R.slots) (hcm : cells + 1 ≤ mc ∧ slots + 6 ≤ ms) :
    W p l e R s m args below meth c H locs cells slots (vx_MQ below (va_Qi (fun _ (_ : Unit) => False) (fun _ _ => True) A) (vx_X (fun _ : Unit => True) (fun E9 _ _ => E9 = xNSE) A) args s mc ms A) (F0 m 44 ls []) := by
  obtain ⟨sa, hsa⟩ := E.2.2.1.2.1 _ qs17
  have hat : ∀ w ∈ nsAt, w.before args s = true :=
    vx_hat (L := nsAt) (fun w h => E.1.2.2.2.2 _ (List.mem_append_right _ (List.mem_append_right _ h))) xThr_no (vx_c (va_Nw.use rfl E.2.2.1.2.2.1) (vx_c (va_Nw.use rfl E.2.2.1.2.2.2.1) (vx_c (va_Nw.use rfl E.2.2.1.2.2.2.2.1) (vx_c (va_Nw.use rfl E.2.2.1.2.2.2.2.2) vx_n))))
  refine x_nsMake E.1.1 E.1.2.1 hst E.1.2.2.2.1 (E.1.2.2.2.2 _ wq726) (E.1.2.2.2.2 _ wq727) hsa hat xThr_ot E.2.2.2.2.2.1 E.2.2.2.2.2.2.1 hS (hls.trans E.1.2.2.1.symm) dX11_named_44 dX11_named_47 dX11_named_48 dX11_named_51 (by omega) (by show 0 + 82 ≤ R.locals; omega) hce.1 hce.2 (fun q ce H1 hq hv hcl hS1 => ?_)
  refine vx_athrow E.1.1 E.1.2.1 dX11_named_54 ?_
  exact vx_out (E := xNSE) (fun x h => (hex x h).elim) hlk hq hv hcl (fun t ht hvm => ⟨(), trivial, rfl, hS1.F ht⟩) hS1.2.2 hcm.1 hcm.2
end XE
theorem met_w {l : Launch} {y : MethodName} {ws ws' : List Cond} {rm : Room} {Pc : Array Value → State → Prop} {Qc : Array Value → State → Outcome → State → Prop} {mc ms : Nat} {free : Addr → Prop} {cc : ByteArray} {maxL : Nat} {ret : Option FieldType} {hh : List (Nat × Nat × Nat × Nat)}
    (hy : plainName y.cls = true) (hw : ws = Cond.codeWith y cc maxL ret hh :: ws')
    (body : ∀ p e s m args below meth c s₁, BodyLoose p l y (headSpec ws rm) cc maxL ret e s m args below meth c s₁ → c.maxLocals = maxL → Pc args s →
      W p l e (headSpec ws rm).room s m args below meth c s.heap [] 0 0 (MQ below Qc args s mc ms free) (entryFrame m args maxL)) : Met l y ws rm Pc Qc mc ms free := by
  refine MetFree.of_bodyS (code := cc) (maxLocals := maxL) (ret := ret) hy ?_ ?_
  · intro args s m h hn
    obtain ⟨m9, meth, c, hn9, h1, h2, h3, h4, -, h5, h6, -⟩ := Cond.codeWith_spec (atoms_spec (ws := ws) h _ (by rw [hw]; exact List.mem_cons_self))
    cases hn.symm.trans hn9
    exact ⟨meth, c, h1, h2, h3, h4, h5, h6⟩
  · intro p e s m args below meth c s₁ B hml hP _
    have hh0 : s₁.heap = s.heap := by rw [B.state]; rfl
    obtain ⟨t, a1, o, b1, b2, b3⟩ := body p e s m args below meth c s₁ B hml hP s₁ hh0 (Stand.of_body B)
    exact ⟨t, o, a1, b1, b2, ⟨b3.1, b3.2⟩⟩
abbrev cdL_named : Cond := Cond.codeWith yL_named cL_named 4 (some .int) [(0, 9, 12, 13)]
set_option maxHeartbeats 4000000 in
theorem mL_named (l : Launch) (D : va_G) (cyI cyJ : ClassId) (Z : xZ) {rm0 : Room} {wc : va_W} {h0 ho : Nat} {n : Int32} {fs : List Value} (hM : MetX l yX11_named (Cond.code yX11_named cX11_named 4 (some .int)) rm0 D cyI cyJ Z [.ref h0, .int n] wc 1 6) (hrm : rm0.cells = 1 ∧ rm0.slots = 6 ∧ rm0.frames ≤ 20 ∧ rm0.locals ≤ 400) (he : wc[0]? = some (h0, .inr (11, fs))) :
    ∀ sz : Nat, Met l yL_named (cdL_named :: G) { frames := 22, cells := 1, slots := 6, locals := 450 } (PreW D cyI cyJ Z [.ref h0, .int n, .ref ho] wc sz) (va_Qi (fun r (_ : Unit) => r = 1) (BW D (va_A wc sz) (fun _ : Unit => ([] : va_W))) (va_A wc sz)) 1 6 (va_A wc sz) := by
  intro sz
  refine met_w (cc := cL_named) (maxL := 4) (ret := some .int) (by decide) rfl ?_
  intro p e s m args below meth c s₁ B hml hv
  obtain ⟨rfl, hsz, hP, hK, hD0, hN, hF⟩ := hv
  subst hsz
  have hts := atoms_spec (ws := cdL_named :: G) B.pre
  have htab : c.exceptionTable.toList = tableOf [(0, 9, 12, 13)] := vx_table (x := yL_named) B (hts _ List.mem_cons_self)
  have hl := lv_entry [.ref h0, .int n, .ref ho] (n := 4) (Nat.le_of_ble_eq_true rfl)
  rw [lg_entry_eq]
  generalize (lg_sl [.ref h0, .int n, .ref ho] ++ List.replicate (4 - (lg_sl [.ref h0, .int n, .ref ho]).length) Slot.unset).toArray = ls at hl ⊢
  have E : Ctx p s m [Value.ref h0, .int n, .ref ho].toArray c cL_named 4 RL D cyI cyJ Z (va_A wc s.heap.size) := ⟨⟨B.exec, B.bytes, hml, findClass_of_methodNamed B.named, fun w h => hts w (List.mem_cons_of_mem _ h)⟩, hK, hN, hF⟩
  have hD : va_D (va_A wc s.heap.size) wc := hD0.self
  have hA : ∀ q : Nat, s.heap.size ≤ q → va_A wc s.heap.size q := fun q h => Or.inr h
  have hr := B.returns
  have hlk := B.notSynchronized
  generalize hAe : va_A wc s.heap.size = A at E hD hA ⊢
  have hS : va_S A s.heap s.heap [] := va_S.rf
  have hx := E.1.1
  have hb := E.1.2.1
  have hl : lv_has ls 4 [(0, .ref h0), (1, .int n), (2, .ref ho)] := hl
  refine lv_aload_n hx hb dL_named_0 rfl (lv_at hl 2 rfl) ?_
  refine lv_iconst (v := 0) hx hb dL_named_1 (by decide) ?_
  refine lv_aload_n hx hb dL_named_2 rfl (lv_at hl 0 rfl) ?_
  refine lv_iload_n hx hb dL_named_3 rfl (lv_at hl 1 rfl) ?_
  have hFc : ∀ q, va_A wc s.heap.size q → A q := fun q h => by rw [← hAe]; exact h
  have hrec := va_recv E.2.1 hP (ci := 11) (q := (RX11, TX11, 16)) rfl he
  have hr1 := vx_runV (meth := meth) (locs := []) (below := below) (e := e) (R := { frames := 22, cells := 1, slots := 6, locals := 450 }) (cells := 0) (slots := 0) (rest := [.int 0, .ref ho]) (g := F0 m (0 + 1 + 1 + 1 + 1) ls [.int n, .ref h0, .int 0, .ref ho]) E.1 (hM s.heap.size) ⟨x_callB (mc := 1) (ms := 6) E kX11_named wq728 ⟨hrm.1, hrm.2.1, by have := hrm.2.2.1; show rm0.frames + 1 ≤ 22; omega, by have := hrm.2.2.2; show 8 + (4 + 11) + rm0.locals ≤ 450; omega⟩, E.1.2.2.2.2 _ wq729, E.1.2.2.2.2 _ wq730⟩ ⟨x_blind, hrec, x_pre E hP hD hS hFc⟩ rfl rfl hl.1 rfl (lv_room (Nat.le_of_ble_eq_true rfl)) dL_named_4 ⟨Nat.le_of_ble_eq_true rfl, Nat.le_of_ble_eq_true rfl⟩
  refine vx_calli hr1 hS (fun q _ h => hFc q h) hFc (fun q _ h => hFc q h) ?_ ?_
  · intro E9 ce q9 u t H1 locs1 ht hvm hpx hBX hz1 hk1 hS1 hce hcv hcl
    have e9 : E9 = xNSE := hBX
    subst e9
    refine vx_catch (name := xNSE) E.1.2.2.2.1 [] { startPc := 0, endPc := 9, handlerPc := 12, catchType := 13 } [] (htab.trans rfl) (fun z hz => nomatch hz) (by decide) (by decide) (E.1.2.2.2.2 _ wq731) (va_Nw.use rfl E.2.2.1.2.2.1) hce hcv hcl ?_
    refine lv_astore_n (lv' := [(3, .ref q9), (0, .ref h0), (1, .int n), (2, .ref ho)]) hx hb dL_named_12 rfl hl (by decide) rfl (fun ls hl => ?_)
    refine lv_iconst (v := 1) hx hb dL_named_13 (by decide) ?_
    exact x_iret (w1 := fun _ : Unit => ([] : va_W)) (rv := fun _ : Unit => 1) (ws := []) E hr hlk (fun k q h => by simp at h) ⟨fun i j p q h => by simp at h, fun k q h => by simp at h⟩ hS1 () rfl [] (by decide) rfl rfl dL_named_14
  · intro r u t H1 locs1 ht hvm hpost
    exact hpost.elim
