/-! The walker's own rows: a fixed context, worlds restated by each row, calls with the frame rule in one row. -/
abbrev xZ := Nat × Nat × (Nat → Int32)
def xNest (q : String × Nat × String × String × String × String) : Cond := .fieldLinkNest q.1 q.2.1 q.2.2.1 q.2.2.2.1 q.2.2.2.2.1 q.2.2.2.2.2
/-- what a call's words can't carry: links to private fields of nest mates, String constants -/
def NN (U : State) : Prop := (∀ q ∈ xNestL, va_Nw (xNest q) U) ∧ (∀ q ∈ xStrL, ∃ a : Nat, vk_R q.1 q.2.1 q.2.2 a U) ∧ va_Nw (.castable xNSE xNSE) U ∧ va_Nw (.declares (Bundle.initS "java/lang/RuntimeException")) U ∧ va_Nw (.declares (Bundle.initS "java/lang/Exception")) U ∧ va_Nw (.declares (Bundle.initS Bundle.tN)) U
theorem NN.warm {s U : State} (hW : s.WarmedH U.vm) (h : NN s) : NN U := ⟨fun q hq => va_Nw.warmF hW (h.1 q hq), fun q hq => by
  obtain ⟨a, ha⟩ := h.2.1 q hq
  exact ⟨a, ha.warm hW⟩, va_Nw.warmC hW h.2.2.1, va_Nw.warmD hW h.2.2.2.1, va_Nw.warmD hW h.2.2.2.2.1, va_Nw.warmD hW h.2.2.2.2.2⟩
theorem NN.same {u U : State} (hv : u.vm = U.vm) (h : NN u) : NN U := ⟨fun q hq => va_Nw.same rfl hv (h.1 q hq), fun q hq => by
  obtain ⟨a, ha⟩ := h.2.1 q hq
  exact ⟨a, ha.same hv.symm⟩, va_Nw.same rfl hv h.2.2.1, va_Nw.same rfl hv h.2.2.2.1, va_Nw.same rfl hv h.2.2.2.2.1, va_Nw.same rfl hv h.2.2.2.2.2⟩
/-- what the heap holds from the start on, outside of what a method may change: a String constant that is read, three statics -/
def SF (Z : xZ) (A : Nat → Prop) (U : State) (H : Heap) : Prop :=
  (vk_R RX8 27 xWORDS Z.1 U ∧ va_O "java/lang/String" Z.1 A U H ∧ va_OF "java/lang/String" "coder" "B" (.int 0) Z.1 A U H ∧ va_OF "java/lang/String" "value" "[B" (.ref Z.2.1) Z.1 A U H ∧ va_T .byte Z.2.1 118 (fun j => .int (Z.2.2 j)) A U H) ∧ va_Z "java/lang/String" "COMPACT_STRINGS" "Z" (.int 1) A U H ∧ vx_Zq Bundle.tN "UNASSIGNED_STACK" Bundle.steD A U H ∧ vx_Zq Bundle.tN "SUPPRESSED_SENTINEL" Bundle.listD A U H ∧ va_Zq "jdk/internal/util/Preconditions" "SIOOBE_FORMATTER" "Ljava/util/function/BiFunction;" A U H
theorem SF.warm {Z : xZ} {A : Nat → Prop} {s U : State} {H : Heap} (hW : s.WarmedH U.vm) (h : SF Z A s H) : SF Z A U H := by
  obtain ⟨⟨h1, h2, h3, h4, h5⟩, h6, h7, h8, h9⟩ := h
  exact ⟨⟨h1.warm hW, h2.moved hW.alike, h3.moved hW.alike, h4.moved hW.alike, h5.moved hW.alike⟩, h6.moved hW.alike, h7.moved hW.alike, h8.moved hW.alike, h9.moved hW.alike⟩
theorem SF.same {Z : xZ} {A : Nat → Prop} {u U : State} {H : Heap} (hv : u.vm = U.vm) (h : SF Z A u H) : SF Z A U H := by
  obtain ⟨⟨h1, h2, h3, h4, h5⟩, h6, h7, h8, h9⟩ := h
  have hW : u.vm.Alike U.vm := hv ▸ Vm.Alike.refl u.vm
  exact ⟨⟨h1.same hv.symm, h2.moved hW, h3.moved hW, h4.moved hW, h5.moved hW⟩, h6.moved hW, h7.moved hW, h8.moved hW, h9.moved hW⟩
theorem SF.kept {Z : xZ} {A : Nat → Prop} {U : State} {H H1 : Heap} (h : SF Z A U H) (hq : ∀ a : Nat, a < H.size → ¬ A a → H1[a]? = H[a]?) : SF Z A U H1 := by
  obtain ⟨⟨h1, h2, h3, h4, h5⟩, h6, h7, h8, h9⟩ := h
  exact ⟨⟨h1, h2.kept hq, h3.kept hq, h4.kept hq, h5.kept hq⟩, h6.kept hq, h7.kept hq, h8.kept hq, h9.kept hq⟩
theorem SF.narrow {Z : xZ} {A B : Nat → Prop} {U : State} {H : Heap} (h : SF Z A U H) (hAB : ∀ q, B q → A q) : SF Z B U H := by
  obtain ⟨⟨h1, h2, h3, h4, h5⟩, h6, h7, h8, h9⟩ := h
  exact ⟨⟨h1, h2.narrow hAB, h3.narrow hAB, h4.narrow hAB, h5.narrow hAB⟩, h6.narrow hAB, h7.narrow hAB, h8.narrow hAB, h9.narrow hAB⟩
theorem goodG : ∀ w ∈ G, goodWord w = true := List.all_eq_true.mp (by decide +kernel)
theorem good_cons {w : Cond} (h : w ∈ G) : GoodIn G (w :: G) := fun v hv => by
  rcases List.mem_cons.mp hv with e | hv
  · subst e; exact ⟨h, good_of_word (goodG _ h)⟩
  · exact ⟨hv, good_of_word (goodG _ hv)⟩
abbrev xTys (cyI cyJ : ClassId) : List (ClassId × FieldType) := [(cyI, .int), (cyJ, .long)]
/-- a method's context -/
def Ctx (p : Program) (s : State) (m : MethodId) (args : Array Value) (c : Code) (cc : ByteArray) (nL : Nat) (own : String) (D : va_G) (cyI cyJ : ClassId) (Z : xZ) (A : Nat → Prop) : Prop :=
  CallFix p m c cc nL s args G own ∧ va_K D vwCl (xTys cyI cyJ) s ∧ NN s ∧ SF Z A s s.heap
def OkM (y : MethodName) (bytes : ByteArray) (maxL : Nat) (ret : Option FieldType) (n : Nat) : Prop :=
  Cond.code y bytes maxL ret ∈ G ∧ Cond.initialized y.cls ∈ G ∧ (y.cls ≠ "java/lang/invoke/MethodHandle" ∧ y.cls ≠ "java/lang/invoke/VarHandle" ∧ (parseMethodDescriptor y.desc).map (fun d => d.parameters.length) = some n)
def PreW (D : va_G) (cyI cyJ : ClassId) (Z : xZ) (av : List Value) (wc : va_W) (sz : Nat) : Array Value → State → Prop :=
  va_Pc av (fun U => U.heap.size = sz ∧ va_P D vwCl wc U.heap ∧ va_K D vwCl (xTys cyI cyJ) U ∧ va_D (fun _ => True) wc ∧ NN U ∧ SF Z (va_A wc sz) U U.heap)
abbrev BW (D : va_G) (A : Nat → Prop) {S : Type} (w1 : S → va_W) : S → State → Prop := fun u t => va_P D vwCl (w1 u) t.heap ∧ va_D A (w1 u)
def MetI (l : Launch) (y : MethodName) (cd : Cond) (rm : Room) (D : va_G) (cyI cyJ : ClassId) (Z : xZ) (av : List Value) (wc : va_W) {S : Type} (rv : S → Int32) (w1 : S → va_W) (mc ms : Nat) : Prop :=
  ∀ sz : Nat, Met l y (cd :: G) rm (PreW D cyI cyJ Z av wc sz) (va_Qi (fun r u => r = rv u) (BW D (va_A wc sz) w1) (va_A wc sz)) mc ms (va_A wc sz)
def MetV (l : Launch) (y : MethodName) (cd : Cond) (rm : Room) (D : va_G) (cyI cyJ : ClassId) (Z : xZ) (av : List Value) (wc : va_W) {S : Type} (w1 : S → va_W) (mc ms : Nat) : Prop :=
  ∀ sz : Nat, Met l y (cd :: G) rm (PreW D cyI cyJ Z av wc sz) (va_Qv (fun _ => True) (BW D (va_A wc sz) w1) (va_A wc sz)) mc ms (va_A wc sz)
theorem x_subP {D : va_G} {cl : List vw_C} {ws w1 : va_W} {H : Heap} (h : va_P D cl ws H) (is : List Nat) (hs : is.map (fun i => ws[i]?) = w1.map some) : va_P D cl w1 H := by
  intro k q hk
  have h1 : (is.map (fun i => ws[i]?))[k]? = some (some q) := by rw [hs, List.getElem?_map, hk]; rfl
  rw [List.getElem?_map] at h1
  cases hi : is[k]? with
  | none => rw [hi] at h1; cases h1
  | some i => rw [hi] at h1; exact h i q (Option.some.inj h1)
theorem x_blind {D : va_G} {cyI cyJ : ClassId} {Z : xZ} {av : List Value} {wc : va_W} {sz : Nat} : FrameBlind (PreW D cyI cyJ Z av wc sz) := fun a U g mk q => by
  obtain ⟨q0, q1, qP, qK, qD, qN, qS⟩ := q
  exact ⟨q0, q1, qP, va_K.moved (u := U) (U := U.calling g mk a) (Vm.Alike.refl U.vm) qK, qD, NN.same (u := U) (U := U.calling g mk a) rfl qN, SF.same (u := U) (U := U.calling g mk a) rfl qS⟩
section XK
variable {p : Program} {l : Launch} {e : Env} {R : Room} {s : State} {m : MethodId} {args : Array Value} {below : List Frame} {meth : Method} {c : Code} {H : Heap} {locs : List Loc} {cells slots : Nat} {Q : State → Prop}
variable {cc : ByteArray} {pc : Nat} {ls : Array Slot} {rest st0 : List Value} {D : va_G} {A : Nat → Prop} {a : Nat} {ws : va_W} {cyI cyJ : ClassId} {Z : xZ} {own : String} {nL : Nat}
theorem x_pre {av : List Value} {wc : va_W} (E : Ctx p s m args c cc nL own D cyI cyJ Z A) (hP : va_P D vwCl wc H) (hD : va_D A wc) (hS : va_S A s.heap H locs) (hF : ∀ q, va_A wc H.size q → A q) : ∀ U : State, U.heap = H → s.WarmedH U.vm → PreW D cyI cyJ Z av wc H.size av.toArray U :=
  fun U hU hW => ⟨rfl, by rw [hU], by rw [hU]; exact hP, va_K.moved hW.alike E.2.1, hD.weaken (fun _ _ _ _ => trivial), E.2.2.1.warm hW, by rw [hU]; exact ((E.2.2.2.kept hS.2.1).narrow hF).warm hW⟩
theorem x_callB {y : MethodName} {bytes : ByteArray} {maxL n index mc ms : Nat} {ret : Option FieldType} {rm : Room} (E : Ctx p s m args c cc nL own D cyI cyJ Z A) (k : OkM y bytes maxL ret n) (hl : Cond.methodLink own index y ∈ G) (hr : rm.cells = mc ∧ rm.slots = ms ∧ rm.frames + 1 ≤ R.frames ∧ 8 + (maxL + 11) + rm.locals ≤ R.locals) :
    CallB R s args own index y bytes maxL ret (Cond.code y bytes maxL ret :: G) rm mc ms n :=
  callB_of n E.1.2.2.2.2 (good_cons k.1) rfl hr.1 hr.2.1 (E.1.2.2.2.2 _ k.2.1) (E.1.2.2.2.2 _ hl) k.2.2 hr.2.2
theorem x_joini {wc wr : va_W} {S : Type} {rv : S → Int32} {w1 ws' : S → va_W} {mc ms k9 n9 : Nat} {av : Array Value} (hr : va_Run p l e R s m args below meth c H locs cells slots mc ms (F0 m pc ls st0) rest (va_Qi (fun r u => r = rv u) (BW D (va_A wc H.size) w1) (va_A wc H.size) av) (va_A wc H.size)) (hP : va_P D vwCl ws H) (hD : va_D A ws) (hS : va_S A s.heap H locs) (hA : ∀ q : Nat, s.heap.size ≤ q → A q)
    (isC isR : List Nat) (hC : isC.map (fun i => ws[i]?) = wc.map some) (hR : isR.map (fun i => ws[i]?) = wr.map some) (hn : (va_nd isR && isR.all (fun i => !isC.contains i)) = true) (hw : ∀ u, wr ++ w1 u = ws' u) (hk : cells + mc = k9 ∧ slots + ms = n9)
    (kk : ∀ (u : S) (H1 : Heap) (locs1 : List Loc), va_P D vwCl (ws' u) H1 → va_D A (ws' u) → va_S A s.heap H1 locs1 → W p l e R s m args below meth c H1 locs1 k9 n9 Q (F0 m (pc + 3) ls (.int (rv u) :: rest))) : W p l e R s m args below meth c H locs cells slots Q (F0 m pc ls st0) := by
  have hFc := va_free (wc := wc) hD hS hA isC hC
  obtain ⟨rfl, rfl⟩ := hk
  obtain ⟨hn1, hn2⟩ := Bool.and_eq_true_iff.mp hn
  refine va_calli hr hS (fun q _ h => hFc q h) hFc (fun r u t H1 locs1 ht hvm hw9 hB hz1 hk1 hS1 => ?_)
  obtain ⟨hP1, hD1⟩ := hB
  rw [ht] at hP1
  obtain ⟨hP2, hD2⟩ := va_join hP hD isC isR hC hR hn1 (fun i hi => by have := List.all_eq_true.mp hn2 i hi; simpa using this) hk1 hFc hP1 hD1
  subst hw9
  rw [hw u] at hP2 hD2
  exact kk u H1 locs1 hP2 hD2 hS1
theorem x_joinv {wc wr : va_W} {S : Type} {w1 ws' : S → va_W} {mc ms k9 n9 : Nat} {av : Array Value} (hr : va_Run p l e R s m args below meth c H locs cells slots mc ms (F0 m pc ls st0) rest (va_Qv (fun _ => True) (BW D (va_A wc H.size) w1) (va_A wc H.size) av) (va_A wc H.size)) (hP : va_P D vwCl ws H) (hD : va_D A ws) (hS : va_S A s.heap H locs) (hA : ∀ q : Nat, s.heap.size ≤ q → A q)
    (isC isR : List Nat) (hC : isC.map (fun i => ws[i]?) = wc.map some) (hR : isR.map (fun i => ws[i]?) = wr.map some) (hn : (va_nd isR && isR.all (fun i => !isC.contains i)) = true) (hw : ∀ u, wr ++ w1 u = ws' u) (hk : cells + mc = k9 ∧ slots + ms = n9)
    (kk : ∀ (u : S) (H1 : Heap) (locs1 : List Loc), va_P D vwCl (ws' u) H1 → va_D A (ws' u) → va_S A s.heap H1 locs1 → W p l e R s m args below meth c H1 locs1 k9 n9 Q (F0 m (pc + 3) ls rest)) : W p l e R s m args below meth c H locs cells slots Q (F0 m pc ls st0) := by
  have hFc := va_free (wc := wc) hD hS hA isC hC
  obtain ⟨rfl, rfl⟩ := hk
  obtain ⟨hn1, hn2⟩ := Bool.and_eq_true_iff.mp hn
  refine va_callv hr hS (fun q _ h => hFc q h) hFc (fun u t H1 locs1 ht hvm hw9 hB hz1 hk1 hS1 => ?_)
  obtain ⟨hP1, hD1⟩ := hB
  rw [ht] at hP1
  obtain ⟨hP2, hD2⟩ := va_join hP hD isC isR hC hR hn1 (fun i hi => by have := List.all_eq_true.mp hn2 i hi; simpa using this) hk1 hFc hP1 hD1
  rw [hw u] at hP2 hD2
  exact kk u H1 locs1 hP2 hD2 hS1
variable {y : MethodName} {bytes : ByteArray} {maxL index mc ms k9 n9 : Nat} {rm : Room} {As : List Value} {b : Nat} {wc wr : va_W} {S : Type} {rv : S → Int32} {w1 ws' : S → va_W} {ret : Option FieldType}
/-- invokevirtual, an int or a boolean comes back -/
theorem x_Vi (E : Ctx p s m args c cc nL own D cyI cyJ Z A) (hM : MetI l y (Cond.code y bytes maxL ret) rm D cyI cyJ Z (.ref b :: As) wc rv w1 mc ms) (k : OkM y bytes maxL ret As.length) (hl : Cond.methodLink own index y ∈ G) (him : Cond.instanceMethod y ∈ G) (hse : Cond.selects y.cls y y ∈ G) (hr : rm.cells = mc ∧ rm.slots = ms ∧ rm.frames + 1 ≤ R.frames ∧ 8 + (maxL + 11) + rm.locals ≤ R.locals)
    (hP : va_P D vwCl ws H) (hD : va_D A ws) (hS : va_S A s.heap H locs) (hA : ∀ q : Nat, s.heap.size ≤ q → A q)
    (isC isR : List Nat) (hC : isC.map (fun i => ws[i]?) = wc.map some) (hR : isR.map (fun i => ws[i]?) = wr.map some) (hn : (va_nd isC && (va_nd isR && isR.all (fun i => !isC.contains i))) = true) (hw : ∀ u, wr ++ w1 u = ws' u) (q0 : Nat) {ci : Nat} {fs : List Value} {q9 : vw_C} (he : ws[q0]? = some (b, .inr (ci, fs))) (hc : vwCl[ci]? = some q9) (hq : q9.1 = y.cls)
    (hls : ls.size = nL) (hst : st0 = As.reverse ++ .ref b :: rest) (hrm : (rest.map fun v => v.category).sum ≤ 8) (hdg : decode cc pc = .ok (.invokevirtual index, 3)) (hk : cells + mc = k9 ∧ slots + ms = n9) (hf : k9 ≤ R.cells ∧ n9 ≤ R.slots)
    (kk : ∀ (u : S) (H1 : Heap) (locs1 : List Loc), va_P D vwCl (ws' u) H1 → va_D A (ws' u) → va_S A s.heap H1 locs1 → W p l e R s m args below meth c H1 locs1 k9 n9 Q (F0 m (pc + 3) ls (.int (rv u) :: rest))) : W p l e R s m args below meth c H locs cells slots Q (F0 m pc ls st0) := by
  obtain ⟨hn0, hn1⟩ := Bool.and_eq_true_iff.mp hn
  have hrec := va_recv E.2.1 hP hc he
  rw [hq] at hrec
  exact x_joini (va_runV E.1 (hM H.size) ⟨x_callB E k hl hr, E.1.2.2.2.2 _ him, E.1.2.2.2.2 _ hse⟩ ⟨x_blind, hrec, x_pre E (x_subP hP isC hC) (hD.sub isC hn0 hC) hS (va_free (wc := wc) hD hS hA isC hC)⟩ rfl rfl hls hst (lv_room hrm) hdg (by rw [hk.1, hk.2]; exact hf)) hP hD hS hA isC isR hC hR hn1 hw hk kk
theorem x_Vv (E : Ctx p s m args c cc nL own D cyI cyJ Z A) (hM : MetV l y (Cond.code y bytes maxL ret) rm D cyI cyJ Z (.ref b :: As) wc w1 mc ms) (k : OkM y bytes maxL ret As.length) (hl : Cond.methodLink own index y ∈ G) (him : Cond.instanceMethod y ∈ G) (hse : Cond.selects y.cls y y ∈ G) (hr : rm.cells = mc ∧ rm.slots = ms ∧ rm.frames + 1 ≤ R.frames ∧ 8 + (maxL + 11) + rm.locals ≤ R.locals)
    (hP : va_P D vwCl ws H) (hD : va_D A ws) (hS : va_S A s.heap H locs) (hA : ∀ q : Nat, s.heap.size ≤ q → A q)
    (isC isR : List Nat) (hC : isC.map (fun i => ws[i]?) = wc.map some) (hR : isR.map (fun i => ws[i]?) = wr.map some) (hn : (va_nd isC && (va_nd isR && isR.all (fun i => !isC.contains i))) = true) (hw : ∀ u, wr ++ w1 u = ws' u) (q0 : Nat) {ci : Nat} {fs : List Value} {q9 : vw_C} (he : ws[q0]? = some (b, .inr (ci, fs))) (hc : vwCl[ci]? = some q9) (hq : q9.1 = y.cls)
    (hls : ls.size = nL) (hst : st0 = As.reverse ++ .ref b :: rest) (hrm : (rest.map fun v => v.category).sum ≤ 8) (hdg : decode cc pc = .ok (.invokevirtual index, 3)) (hk : cells + mc = k9 ∧ slots + ms = n9) (hf : k9 ≤ R.cells ∧ n9 ≤ R.slots)
    (kk : ∀ (u : S) (H1 : Heap) (locs1 : List Loc), va_P D vwCl (ws' u) H1 → va_D A (ws' u) → va_S A s.heap H1 locs1 → W p l e R s m args below meth c H1 locs1 k9 n9 Q (F0 m (pc + 3) ls rest)) : W p l e R s m args below meth c H locs cells slots Q (F0 m pc ls st0) := by
  obtain ⟨hn0, hn1⟩ := Bool.and_eq_true_iff.mp hn
  have hrec := va_recv E.2.1 hP hc he
  rw [hq] at hrec
  exact x_joinv (va_runV E.1 (hM H.size) ⟨x_callB E k hl hr, E.1.2.2.2.2 _ him, E.1.2.2.2.2 _ hse⟩ ⟨x_blind, hrec, x_pre E (x_subP hP isC hC) (hD.sub isC hn0 hC) hS (va_free (wc := wc) hD hS hA isC hC)⟩ rfl rfl hls hst (lv_room hrm) hdg (by rw [hk.1, hk.2]; exact hf)) hP hD hS hA isC isR hC hR hn1 hw hk kk
/-- invokestatic -/
theorem x_Si (E : Ctx p s m args c cc nL own D cyI cyJ Z A) (hM : MetI l y (Cond.code y bytes maxL ret) rm D cyI cyJ Z As wc rv w1 mc ms) (k : OkM y bytes maxL ret As.length) (hl : Cond.methodLink own index y ∈ G) (hsm : Cond.static y ∈ G) (hr : rm.cells = mc ∧ rm.slots = ms ∧ rm.frames + 1 ≤ R.frames ∧ 8 + (maxL + 11) + rm.locals ≤ R.locals)
    (hP : va_P D vwCl ws H) (hD : va_D A ws) (hS : va_S A s.heap H locs) (hA : ∀ q : Nat, s.heap.size ≤ q → A q)
    (isC isR : List Nat) (hC : isC.map (fun i => ws[i]?) = wc.map some) (hR : isR.map (fun i => ws[i]?) = wr.map some) (hn : (va_nd isC && (va_nd isR && isR.all (fun i => !isC.contains i))) = true) (hw : ∀ u, wr ++ w1 u = ws' u)
    (hls : ls.size = nL) (hst : st0 = As.reverse ++ rest) (hrm : (rest.map fun v => v.category).sum ≤ 8) (hdg : decode cc pc = .ok (.invokestatic index, 3)) (hk : cells + mc = k9 ∧ slots + ms = n9) (hf : k9 ≤ R.cells ∧ n9 ≤ R.slots)
    (kk : ∀ (u : S) (H1 : Heap) (locs1 : List Loc), va_P D vwCl (ws' u) H1 → va_D A (ws' u) → va_S A s.heap H1 locs1 → W p l e R s m args below meth c H1 locs1 k9 n9 Q (F0 m (pc + 3) ls (.int (rv u) :: rest))) : W p l e R s m args below meth c H locs cells slots Q (F0 m pc ls st0) := by
  obtain ⟨hn0, hn1⟩ := Bool.and_eq_true_iff.mp hn
  exact x_joini (va_runS E.1 (hM H.size) ⟨x_callB E k hl hr, E.1.2.2.2.2 _ hsm⟩ ⟨x_blind, x_pre E (x_subP hP isC hC) (hD.sub isC hn0 hC) hS (va_free (wc := wc) hD hS hA isC hC)⟩ rfl rfl hls hst (lv_room hrm) hdg (by rw [hk.1, hk.2]; exact hf)) hP hD hS hA isC isR hC hR hn1 hw hk kk
theorem x_Sv (E : Ctx p s m args c cc nL own D cyI cyJ Z A) (hM : MetV l y (Cond.code y bytes maxL ret) rm D cyI cyJ Z As wc w1 mc ms) (k : OkM y bytes maxL ret As.length) (hl : Cond.methodLink own index y ∈ G) (hsm : Cond.static y ∈ G) (hr : rm.cells = mc ∧ rm.slots = ms ∧ rm.frames + 1 ≤ R.frames ∧ 8 + (maxL + 11) + rm.locals ≤ R.locals)
    (hP : va_P D vwCl ws H) (hD : va_D A ws) (hS : va_S A s.heap H locs) (hA : ∀ q : Nat, s.heap.size ≤ q → A q)
    (isC isR : List Nat) (hC : isC.map (fun i => ws[i]?) = wc.map some) (hR : isR.map (fun i => ws[i]?) = wr.map some) (hn : (va_nd isC && (va_nd isR && isR.all (fun i => !isC.contains i))) = true) (hw : ∀ u, wr ++ w1 u = ws' u)
    (hls : ls.size = nL) (hst : st0 = As.reverse ++ rest) (hrm : (rest.map fun v => v.category).sum ≤ 8) (hdg : decode cc pc = .ok (.invokestatic index, 3)) (hk : cells + mc = k9 ∧ slots + ms = n9) (hf : k9 ≤ R.cells ∧ n9 ≤ R.slots)
    (kk : ∀ (u : S) (H1 : Heap) (locs1 : List Loc), va_P D vwCl (ws' u) H1 → va_D A (ws' u) → va_S A s.heap H1 locs1 → W p l e R s m args below meth c H1 locs1 k9 n9 Q (F0 m (pc + 3) ls rest)) : W p l e R s m args below meth c H locs cells slots Q (F0 m pc ls st0) := by
  obtain ⟨hn0, hn1⟩ := Bool.and_eq_true_iff.mp hn
  exact x_joinv (va_runS E.1 (hM H.size) ⟨x_callB E k hl hr, E.1.2.2.2.2 _ hsm⟩ ⟨x_blind, x_pre E (x_subP hP isC hC) (hD.sub isC hn0 hC) hS (va_free (wc := wc) hD hS hA isC hC)⟩ rfl rfl hls hst (lv_room hrm) hdg (by rw [hk.1, hk.2]; exact hf)) hP hD hS hA isC isR hC hR hn1 hw hk kk
/-- invokespecial of a constructor -/
theorem x_Iv (E : Ctx p s m args c cc nL own D cyI cyJ Z A) (hM : MetV l y (Cond.code y bytes maxL none) rm D cyI cyJ Z (.ref b :: As) wc w1 mc ms) (k : OkM y bytes maxL none As.length) (hl : Cond.methodLink own index y ∈ G) (him : Cond.instanceMethod y ∈ G) (hy1 : y.name = "<init>") (hr : rm.cells = mc ∧ rm.slots = ms ∧ rm.frames + 1 ≤ R.frames ∧ 8 + (maxL + 11) + rm.locals ≤ R.locals)
    (hP : va_P D vwCl ws H) (hD : va_D A ws) (hS : va_S A s.heap H locs) (hA : ∀ q : Nat, s.heap.size ≤ q → A q)
    (isC isR : List Nat) (hC : isC.map (fun i => ws[i]?) = wc.map some) (hR : isR.map (fun i => ws[i]?) = wr.map some) (hn : (va_nd isC && (va_nd isR && isR.all (fun i => !isC.contains i))) = true) (hw : ∀ u, wr ++ w1 u = ws' u)
    (hls : ls.size = nL) (hst : st0 = As.reverse ++ .ref b :: rest) (hrm : (rest.map fun v => v.category).sum ≤ 8) (hdg : decode cc pc = .ok (.invokespecial index, 3)) (hk : cells + mc = k9 ∧ slots + ms = n9) (hf : k9 ≤ R.cells ∧ n9 ≤ R.slots)
    (kk : ∀ (u : S) (H1 : Heap) (locs1 : List Loc), va_P D vwCl (ws' u) H1 → va_D A (ws' u) → va_S A s.heap H1 locs1 → W p l e R s m args below meth c H1 locs1 k9 n9 Q (F0 m (pc + 3) ls rest)) : W p l e R s m args below meth c H locs cells slots Q (F0 m pc ls st0) := by
  obtain ⟨hn0, hn1⟩ := Bool.and_eq_true_iff.mp hn
  exact x_joinv (va_runI E.1 (hM H.size) ⟨x_callB E k hl hr, hy1, E.1.2.2.2.2 _ him⟩ ⟨x_blind, x_pre E (x_subP hP isC hC) (hD.sub isC hn0 hC) hS (va_free (wc := wc) hD hS hA isC hC)⟩ rfl rfl hls hst (lv_room hrm) hdg (by rw [hk.1, hk.2]; exact hf)) hP hD hS hA isC isR hC hR hn1 hw hk kk
end XK
section XL
variable {p : Program} {l : Launch} {e : Env} {R : Room} {s : State} {m : MethodId} {args : Array Value} {below : List Frame} {meth : Method} {c : Code} {H : Heap} {locs : List Loc} {cells slots : Nat} {Q : State → Prop}
variable {cc : ByteArray} {pc : Nat} {ls : Array Slot} {rest st0 : List Value} {D : va_G} {A : Nat → Prop} {a : Nat} {ws ws' : va_W} {H0 : Heap} {cyI cyJ : ClassId} {Z : xZ} {own : String} {nL : Nat}
theorem x_get (E : Ctx p s m args c cc nL own D cyI cyJ Z A) {C : String} {T : u_T} {N ci index : Nat} (hin : ∀ w ∈ u_ws C T N, w ∈ G) (hP : va_P D vwCl ws H) (q0 : Nat) {fs : List Value} (he : ws[q0]? = some (a, .inr (ci, fs))) (hc : vwCl[ci]? = some (C, T, N)) (k : Nat) (hk : k < N) (hl : Cond.fieldLink own index (T k).1 (T k).2.1 (T k).2.2.1 ∈ G) {v : Value} (hv : fs[k]? = some v) (hdg : decode cc pc = .ok (.getfield index, 3))
    (kk : W p l e R s m args below meth c H locs cells slots Q (F0 m (pc + 3) ls (v :: rest))) : W p l e R s m args below meth c H locs cells slots Q (F0 m pc ls (.ref a :: rest)) :=
  va_get E.1.1 E.1.2.1 E.1.2.2.2.2 hin E.1.2.2.2.1 E.2.1 hP q0 he hc k hk (E.1.2.2.2.2 _ hl) (fun _ h => h) hv hdg kk
theorem x_getN (E : Ctx p s m args c cc nL own D cyI cyJ Z A) {C host : String} {T : u_T} {N ci index : Nat} (hin : ∀ w ∈ u_ws C T N, w ∈ G) (hP : va_P D vwCl ws H) (q0 : Nat) {fs : List Value} (he : ws[q0]? = some (a, .inr (ci, fs))) (hc : vwCl[ci]? = some (C, T, N)) (k : Nat) (hk : k < N) (hl : (own, index, (T k).1, (T k).2.1, (T k).2.2.1, host) ∈ xNestL) {v : Value} (hv : fs[k]? = some v) (hdg : decode cc pc = .ok (.getfield index, 3))
    (kk : W p l e R s m args below meth c H locs cells slots Q (F0 m (pc + 3) ls (v :: rest))) : W p l e R s m args below meth c H locs cells slots Q (F0 m pc ls (.ref a :: rest)) :=
  va_getN E.1.1 E.1.2.1 E.1.2.2.2.2 hin E.1.2.2.2.1 E.2.1 hP q0 he hc k hk (va_Nw.use rfl (E.2.2.1.1 _ hl)) (fun _ h => h) hv hdg kk
theorem x_put (E : Ctx p s m args c cc nL own D cyI cyJ Z A) {C : String} {T : u_T} {N ci index : Nat} (hin : ∀ w ∈ u_ws C T N, w ∈ G) (ty0 : Nat → FieldType) (hty : ∀ k, k < N → parseFieldDescriptor (T k).2.2.1 = some (ty0 k)) (hnm : ∀ a, a < N → ∀ b, b < N → a ≠ b → (T a).2.1 ≠ (T b).2.1) (hP : va_P D vwCl ws H) (hD : va_D A ws) (hS : va_S A H0 H locs) (q0 : Nat) {fs : List Value} (he : ws[q0]? = some (a, .inr (ci, fs))) (hc : vwCl[ci]? = some (C, T, N)) (k : Nat) (hk : k < N) (hl : Cond.fieldLink own index (T k).1 (T k).2.1 (T k).2.2.1 ∈ G) (hfin : (T k).2.2.2 = false) {v : Value} (hn : narrow (ty0 k) v = v) (hfit : fits (ty0 k) v = true) (hlt : Nat.ble (k + 1) fs.length = true) (hw : ws.set q0 (a, .inr (ci, fs.set k v)) = ws')
    (hdg : decode cc pc = .ok (.putfield index, 3)) (kk : ∀ (H1 : Heap) (locs1 : List Loc), va_P D vwCl ws' H1 → va_D A ws' → va_S A H0 H1 locs1 → W p l e R s m args below meth c H1 locs1 cells slots Q (F0 m (pc + 3) ls rest)) : W p l e R s m args below meth c H locs cells slots Q (F0 m pc ls (v :: .ref a :: rest)) := by
  subst hw
  exact va_put E.1.1 E.1.2.1 E.1.2.2.2.2 hin ty0 hty hnm E.1.2.2.2.1 E.2.1 hP hD hS q0 he hc k hk (E.1.2.2.2.2 _ hl) (fun _ h => h) hfin (hty k hk) hn hfit (Nat.le_of_ble_eq_true hlt) hdg kk
theorem x_putF (E : Ctx p s m args c cc nL own D cyI cyJ Z A) {C : String} {T : u_T} {N ci index : Nat} (hin : ∀ w ∈ u_ws C T N, w ∈ G) (ty0 : Nat → FieldType) (hty : ∀ k, k < N → parseFieldDescriptor (T k).2.2.1 = some (ty0 k)) (hnm : ∀ a, a < N → ∀ b, b < N → a ≠ b → (T a).2.1 ≠ (T b).2.1) (hP : va_P D vwCl ws H) (hD : va_D A ws) (hS : va_S A H0 H locs) (hnm0 : meth.name = "<init>") (q0 : Nat) {fs : List Value} (he : ws[q0]? = some (a, .inr (ci, fs))) (hc : vwCl[ci]? = some (C, T, N)) (k : Nat) (hk : k < N) (hl : Cond.fieldLink own index (T k).1 (T k).2.1 (T k).2.2.1 ∈ G) (hfin : (T k).2.2.2 = true) (hdecl : (T k).1 = own) {v : Value} (hn : narrow (ty0 k) v = v) (hfit : fits (ty0 k) v = true) (hlt : Nat.ble (k + 1) fs.length = true) (hw : ws.set q0 (a, .inr (ci, fs.set k v)) = ws')
    (hdg : decode cc pc = .ok (.putfield index, 3)) (kk : ∀ (H1 : Heap) (locs1 : List Loc), va_P D vwCl ws' H1 → va_D A ws' → va_S A H0 H1 locs1 → W p l e R s m args below meth c H1 locs1 cells slots Q (F0 m (pc + 3) ls rest)) : W p l e R s m args below meth c H locs cells slots Q (F0 m pc ls (v :: .ref a :: rest)) := by
  subst hw
  exact va_putF E.1.1 E.1.2.1 E.1.2.2.2.2 hin ty0 hty hnm E.1.2.2.2.1 E.2.1 hP hD hS q0 he hc k hk (E.1.2.2.2.2 _ hl) (fun _ h => h) hfin hnm0 hdecl (hty k hk) hn hfit (Nat.le_of_ble_eq_true hlt) hdg kk
theorem x_iald (E : Ctx p s m args c cc nL own D cyI cyJ Z A) (hP : va_P D vwCl ws H) (q0 : Nat) {n : Nat} {f : Nat → Int32} (ha : ws[q0]? = some (a, .inl (cyI, n, .inl f))) {i v : Int32} (hin : ¬ (i < 0 ∨ n ≤ i.toNatClampNeg)) (hv : f i.toNatClampNeg = v) (hdg : decode cc pc = .ok (.iaload, 1))
    (kk : W p l e R s m args below meth c H locs cells slots Q (F0 m (pc + 1) ls (.int v :: rest))) : W p l e R s m args below meth c H locs cells slots Q (F0 m pc ls (.int i :: .ref a :: rest)) := by
  subst hv
  exact va_iald E.1.1 E.1.2.1 E.2.1 hP q0 0 ha rfl hin hdg kk
theorem x_iast (E : Ctx p s m args c cc nL own D cyI cyJ Z A) (hP : va_P D vwCl ws H) (hD : va_D A ws) (hS : va_S A H0 H locs) (q0 : Nat) {n : Nat} {f f' : Nat → Int32} (ha : ws[q0]? = some (a, .inl (cyI, n, .inl f))) {i x : Int32} (hin : ¬ (i < 0 ∨ n ≤ i.toNatClampNeg)) (hf : upd f i.toNatClampNeg x = f') (hw : ws.set q0 (a, .inl (cyI, n, .inl f')) = ws') (hdg : decode cc pc = .ok (.iastore, 1))
    (kk : ∀ (H1 : Heap) (locs1 : List Loc), va_P D vwCl ws' H1 → va_D A ws' → va_S A H0 H1 locs1 → W p l e R s m args below meth c H1 locs1 cells slots Q (F0 m (pc + 1) ls rest)) : W p l e R s m args below meth c H locs cells slots Q (F0 m pc ls (.int x :: .int i :: .ref a :: rest)) := by
  subst hf; subst hw
  exact va_iast E.1.1 E.1.2.1 E.2.1 hP hD hS q0 0 ha rfl hin hdg kk
/-- the same, what the row holds being let go -/
theorem x_iastG (E : Ctx p s m args c cc nL own D cyI cyJ Z A) {wg : (Nat → Int32) → va_W} (hP : va_P D vwCl ws H) (hD : va_D A ws) (hS : va_S A H0 H locs) (q0 : Nat) {n : Nat} {f : Nat → Int32} (ha : ws[q0]? = some (a, .inl (cyI, n, .inl f))) {i x : Int32} (hin : ¬ (i < 0 ∨ n ≤ i.toNatClampNeg)) (hw : ∀ f', ws.set q0 (a, .inl (cyI, n, .inl f')) = wg f') (hdg : decode cc pc = .ok (.iastore, 1))
    (kk : ∀ (f' : Nat → Int32) (H1 : Heap) (locs1 : List Loc), va_P D vwCl (wg f') H1 → va_D A (wg f') → va_S A H0 H1 locs1 → W p l e R s m args below meth c H1 locs1 cells slots Q (F0 m (pc + 1) ls rest)) : W p l e R s m args below meth c H locs cells slots Q (F0 m pc ls (.int x :: .int i :: .ref a :: rest)) :=
  va_iast E.1.1 E.1.2.1 E.2.1 hP hD hS q0 0 ha rfl hin hdg (fun H1 locs1 h1 h2 h3 => kk _ H1 locs1 (by rw [← hw]; exact h1) (by rw [← hw]; exact h2) h3)
theorem x_alen (E : Ctx p s m args c cc nL own D cyI cyJ Z A) (hP : va_P D vwCl ws H) (q0 : Nat) {n : Nat} {f : Nat → Int32} (ha : ws[q0]? = some (a, .inl (cyI, n, .inl f))) {v : Int32} (hv : Int32.ofNat n = v) (hdg : decode cc pc = .ok (.arraylength, 1))
    (kk : W p l e R s m args below meth c H locs cells slots Q (F0 m (pc + 1) ls (.int v :: rest))) : W p l e R s m args below meth c H locs cells slots Q (F0 m pc ls (.ref a :: rest)) :=
  va_alen E.1.1 E.1.2.1 E.2.1 hP q0 0 ha rfl hv hdg kk
theorem x_newI (E : Ctx p s m args c cc nL own D cyI cyJ Z A) {wg : Nat → va_W} {k9 n9 : Nat} (hw9 : Cond.arrayClass .int ∈ G) (hP : va_P D vwCl ws H) (hD : va_D A ws) (hS : va_S A H0 H locs) (hA : ∀ q : Nat, H0.size ≤ q → A q) {n : Int32} (N' : Nat) (hn : ¬ n < 0) (hN : n.toNatClampNeg = N') (hbytes : Nat.ble (N' * 4) 536870912 = true) (hk : cells + 1 = k9 ∧ slots + N' = n9) (hf : k9 ≤ R.cells ∧ n9 ≤ R.slots) (hw : ∀ q, ws ++ [(q, .inl (cyI, N', .inl (fun _ => 0)))] = wg q) (hdg : decode cc pc = .ok (.newarray .int, 2))
    (kk : ∀ (q : Nat) (H1 : Heap), va_P D vwCl (wg q) H1 → va_D A (wg q) → va_S A H0 H1 locs → W p l e R s m args below meth c H1 locs k9 n9 Q (F0 m (pc + 2) ls (.ref q :: rest))) : W p l e R s m args below meth c H locs cells slots Q (F0 m pc ls (.int n :: rest)) := by
  obtain ⟨rfl, rfl⟩ := hk
  refine va_newa (atype := .int) (ty := .int) (a0 := (N', .inl (fun _ => 0))) E.1.1 E.1.2.1 (E.1.2.2.2.2 _ hw9) rfl E.2.1 hP hD hS hA (fun _ => rfl) hn hN (Nat.le_of_ble_eq_true hbytes) hf.1 hf.2 hdg (fun q cA H1 hK1 hP1 hD1 hS1 => ?_)
  have e1 : s.vm.findClass ("[" ++ FieldType.int.toString) = some cA := (hK1.2 2 (cA, .int) rfl).2
  have e2 : s.vm.findClass ("[" ++ FieldType.int.toString) = some cyI := (E.2.1.2 0 (cyI, .int) rfl).2
  have e3 : cA = cyI := Option.some.inj (e1.symm.trans e2)
  subst e3
  exact kk q H1 (by rw [← hw]; exact hP1) (by rw [← hw]; exact hD1) hS1
theorem x_newJ (E : Ctx p s m args c cc nL own D cyI cyJ Z A) {wg : Nat → va_W} {k9 n9 : Nat} (hw9 : Cond.arrayClass .long ∈ G) (hP : va_P D vwCl ws H) (hD : va_D A ws) (hS : va_S A H0 H locs) (hA : ∀ q : Nat, H0.size ≤ q → A q) {n : Int32} (N' : Nat) (hn : ¬ n < 0) (hN : n.toNatClampNeg = N') (hbytes : Nat.ble (N' * 8) 536870912 = true) (hk : cells + 1 = k9 ∧ slots + N' = n9) (hf : k9 ≤ R.cells ∧ n9 ≤ R.slots) (hw : ∀ q, ws ++ [(q, .inl (cyJ, N', .inr (.inl (fun _ => 0))))] = wg q) (hdg : decode cc pc = .ok (.newarray .long, 2))
    (kk : ∀ (q : Nat) (H1 : Heap), va_P D vwCl (wg q) H1 → va_D A (wg q) → va_S A H0 H1 locs → W p l e R s m args below meth c H1 locs k9 n9 Q (F0 m (pc + 2) ls (.ref q :: rest))) : W p l e R s m args below meth c H locs cells slots Q (F0 m pc ls (.int n :: rest)) := by
  obtain ⟨rfl, rfl⟩ := hk
  refine va_newa (atype := .long) (ty := .long) (a0 := (N', .inr (.inl (fun _ => 0)))) E.1.1 E.1.2.1 (E.1.2.2.2.2 _ hw9) rfl E.2.1 hP hD hS hA (fun _ => rfl) hn hN (Nat.le_of_ble_eq_true hbytes) hf.1 hf.2 hdg (fun q cA H1 hK1 hP1 hD1 hS1 => ?_)
  have e1 : s.vm.findClass ("[" ++ FieldType.long.toString) = some cA := (hK1.2 2 (cA, .long) rfl).2
  have e2 : s.vm.findClass ("[" ++ FieldType.long.toString) = some cyJ := (E.2.1.2 1 (cyJ, .long) rfl).2
  have e3 : cA = cyJ := Option.some.inj (e1.symm.trans e2)
  subst e3
  exact kk q H1 (by rw [← hw]; exact hP1) (by rw [← hw]; exact hD1) hS1
theorem x_new (E : Ctx p s m args c cc nL own D cyI cyJ Z A) {wg : Nat → va_W} {k9 n9 : Nat} {C : String} {T : u_T} {N ci index : Nat} (hin : ∀ w ∈ u_ws C T N, w ∈ G) (ty : Nat → FieldType) (hty : ∀ k, k < N → parseFieldDescriptor (T k).2.2.1 = some (ty k)) (hcl : Cond.classLink own index C ∈ G) (hinst : Cond.instantiable C N ∈ G) (hini : Cond.initialized C ∈ G) (hP : va_P D vwCl ws H) (hD : va_D A ws) (hS : va_S A H0 H locs) (hA : ∀ q : Nat, H0.size ≤ q → A q) (hc : vwCl[ci]? = some (C, T, N)) (fs : List Value) (hfs : (List.range N).all (fun j => decide (defaultValue (ty j) = vp_V fs j)) = true) (hk : cells + 1 = k9 ∧ slots + N = n9) (hf : k9 ≤ R.cells ∧ n9 ≤ R.slots) (hw : ∀ q, ws ++ [(q, .inr (ci, fs))] = wg q) (hdg : decode cc pc = .ok (.new index, 3))
    (kk : ∀ (q : Nat) (H1 : Heap), va_P D vwCl (wg q) H1 → va_D A (wg q) → va_S A H0 H1 locs → W p l e R s m args below meth c H1 locs k9 n9 Q (F0 m (pc + 3) ls (.ref q :: rest))) : W p l e R s m args below meth c H locs cells slots Q (F0 m pc ls rest) := by
  obtain ⟨rfl, rfl⟩ := hk
  exact va_new E.1.1 E.1.2.1 E.1.2.2.2.2 hin ty hty E.1.2.2.2.1 (E.1.2.2.2.2 _ hcl) (E.1.2.2.2.2 _ hinst) (E.1.2.2.2.2 _ hini) E.2.1 hP hD hS hA hc (fun j hj => of_decide_eq_true (List.all_eq_true.mp hfs j (List.mem_range.mpr hj))) hf.1 hf.2 hdg (fun q H1 h1 h2 h3 => kk q H1 (by rw [← hw]; exact h1) (by rw [← hw]; exact h2) h3)
theorem x_obj (E : Ctx p s m args c cc nL own D cyI cyJ Z A) {index : Nat} (hl : Cond.methodLink own index objectInit ∈ G) (him : Cond.instanceMethod objectInit ∈ G) (hcd : Cond.code objectInit ⟨#[0xb1]⟩ 1 none ∈ G) (hls : ls.size = nL) (hdg : decode cc pc = .ok (.invokespecial index, 3)) (hfr : 1 ≤ R.frames) (hlo : (rest.map fun v => v.category).sum + 12 ≤ R.locals)
    (kk : W p l e R s m args below meth c H locs cells slots Q (F0 m (pc + 3) ls rest)) : W p l e R s m args below meth c H locs cells slots Q (F0 m pc ls (.ref a :: rest)) :=
  W.objInit E.1.1 E.1.2.1 E.1.2.2.2.1 (E.1.2.2.2.2 _ hl) (E.1.2.2.2.2 _ him) (E.1.2.2.2.2 _ hcd) rfl (hls.trans E.1.2.2.1.symm) rfl hdg hfr (by simpa [JFrame.monitorRoom] using hlo) kk
theorem x_str (E : Ctx p s m args c cc nL own D cyI cyJ Z A) {index : Nat} {tx : String} (hq : (own, index, tx) ∈ xStrL) (hdg : decode cc pc = .ok (.ldc index, 2))
    (kk : ∀ q : Nat, W p l e R s m args below meth c H locs cells slots Q (F0 m (pc + 2) ls (.ref q :: rest))) : W p l e R s m args below meth c H locs cells slots Q (F0 m pc ls rest) := by
  obtain ⟨q, hZ⟩ := E.2.2.1.2.1 _ hq
  exact va_ldcS E.1.1 E.1.2.1 E.1.2.2.2.1 hZ hdg (kk q)
theorem x_ldc (E : Ctx p s m args c cc nL own D cyI cyJ Z A) {index : Nat} {v : Int32} (hq : Cond.constant own index v ∈ G) (hdg : decode cc pc = .ok (.ldc index, 2))
    (kk : W p l e R s m args below meth c H locs cells slots Q (F0 m (pc + 2) ls (.int v :: rest))) : W p l e R s m args below meth c H locs cells slots Q (F0 m pc ls rest) :=
  lv_ldc E.1.1 E.1.2.1 E.1.2.2.2.1 (E.1.2.2.2.2 _ hq) hdg kk
theorem x_ldcw (E : Ctx p s m args c cc nL own D cyI cyJ Z A) {index : Nat} {v : Int32} (hq : Cond.constant own index v ∈ G) (hdg : decode cc pc = .ok (.ldc_w index, 3))
    (kk : W p l e R s m args below meth c H locs cells slots Q (F0 m (pc + 3) ls (.int v :: rest))) : W p l e R s m args below meth c H locs cells slots Q (F0 m pc ls rest) :=
  lv_ldcw E.1.1 E.1.2.1 E.1.2.2.2.1 (E.1.2.2.2.2 _ hq) hdg kk
theorem x_min (E : Ctx p s m args c cc nL own D cyI cyJ Z A) {index : Nat} (hl : Cond.methodLink own index Lib.Math.min.name ∈ G) (hst : Cond.static Lib.Math.min.name ∈ G) (hini : Cond.initialized "java/lang/Math" ∈ G) (hcd : Cond.code Lib.Math.min.name Lib.Math.min.code 2 (some .int) ∈ G) (hls : ls.size = nL) (hfr : 1 ≤ R.frames ∧ (rest.map fun v => v.category).sum + 13 ≤ R.locals ∧ cells ≤ R.cells ∧ slots ≤ R.slots) {x y z : Int32} (hz : (if y < x then y else x) = z) (hdg : decode cc pc = .ok (.invokestatic index, 3))
    (kk : W p l e R s m args below meth c H locs cells slots Q (F0 m (pc + 3) ls (.int z :: rest))) : W p l e R s m args below meth c H locs cells slots Q (F0 m pc ls (.int y :: .int x :: rest)) := by
  subst hz
  exact va_mmin E.1.1 E.1.2.1 (E.1.2.2.1.trans hls.symm) E.1.2.2.2.1 (E.1.2.2.2.2 _ hl) (E.1.2.2.2.2 _ hst) (E.1.2.2.2.2 _ hini) (E.1.2.2.2.2 _ hcd) hfr.1 hfr.2.1 hfr.2.2.1 hfr.2.2.2 hdg kk
theorem x_copy (E : Ctx p s m args c cc nL own D cyI cyJ Z A) {wg : (Nat → Int32) → va_W} {index : Nat} (hl : Cond.methodLink own index arraycopyName ∈ G) (hnat : Cond.native arraycopyName ∈ G) (hst : Cond.static arraycopyName ∈ G) (hini : Cond.initialized "java/lang/System" ∈ G) (hP : va_P D vwCl ws H) (hD : va_D A ws) (hS : va_S A H0 H locs) (hls : ls.size = nL) (q0 q1 : Nat) {a0 : Nat} {n0 n1 : Nat} {f g : Nat → Int32} (ha0 : ws[q0]? = some (a0, .inl (cyI, n0, .inl f))) (ha1 : ws[q1]? = some (a, .inl (cyI, n1, .inl g)))
    {sp dp n : Int32} (h1 : ¬ sp < 0 ∧ ¬ dp < 0 ∧ ¬ n < 0 ∧ sp.toNatClampNeg + n.toNatClampNeg ≤ n0 ∧ dp.toNatClampNeg + n.toNatClampNeg ≤ n1) (hfr : 1 ≤ R.frames ∧ (rest.map fun v => v.category).sum + (nativeFrameWords "java/lang/System" "arraycopy" 5 + 11) ≤ R.locals) (hw : ∀ g', ws.set q1 (a, .inl (cyI, n1, .inl g')) = wg g') (hdg : decode cc pc = .ok (.invokestatic index, 3))
    (kk : ∀ (g' : Nat → Int32) (H1 : Heap) (locs1 : List Loc), va_P D vwCl (wg g') H1 → va_D A (wg g') → va_S A H0 H1 locs1 → W p l e R s m args below meth c H1 locs1 cells slots Q (F0 m (pc + 3) ls rest)) : W p l e R s m args below meth c H locs cells slots Q (F0 m pc ls (.int n :: .int dp :: .ref a :: .int sp :: .ref a0 :: rest)) :=
  va_copyi (ty := .int) E.1.1 E.1.2.1 (E.1.2.2.1.trans hls.symm) E.1.2.2.2.1 (E.1.2.2.2.2 _ hl) (E.1.2.2.2.2 _ hnat) (E.1.2.2.2.2 _ hst) (E.1.2.2.2.2 _ hini) E.2.1 hP hD hS q0 q1 0 0 ha0 ha1 rfl rfl rfl h1.1 h1.2.1 h1.2.2.1 h1.2.2.2.1 h1.2.2.2.2 (fun _ _ => rfl) hfr.1 hfr.2 hdg (fun H1 locs1 h1 h2 h3 => kk _ H1 locs1 (by rw [← hw]; exact h1) (by rw [← hw]; exact h2) h3)
theorem x_topi {x z : Int32} (h : x = z) (kk : W p l e R s m args below meth c H locs cells slots Q (F0 m pc ls (.int z :: rest))) : W p l e R s m args below meth c H locs cells slots Q (F0 m pc ls (.int x :: rest)) := h ▸ kk
variable {S : Type} {rv : S → Int32} {w1 : S → va_W} {v : Int32} {rt : FieldType}
theorem x_iret (E : Ctx p s m args c cc nL own D cyI cyJ Z A) (hr : meth.sig.returnType = some rt) (hlk : meth.locks = false) (hP : va_P D vwCl ws H) (hD : va_D A ws) (hS : va_S A s.heap H locs) (u : S) (hp : v = rv u) (is : List Nat) (hn : va_nd is = true) (hs : is.map (fun i => ws[i]?) = (w1 u).map some) (hnr : narrow rt (.int v) = .int v) (hdg : decode cc pc = .ok (.ireturn, 1)) :
    W p l e R s m args below meth c H locs cells slots (MQ below (va_Qi (fun r u => r = rv u) (BW D A w1) A) args s cells slots A) (F0 m pc ls [.int v]) :=
  W.zret E.1.1 E.1.2.1 hr hnr (fun t ht hW => ⟨⟨v, u, rfl, hp, by rw [ht]; exact x_subP hP is hs, hD.sub is hn hs⟩, hS.F ht⟩) hS.2.2 hdg hlk
theorem x_vret (E : Ctx p s m args c cc nL own D cyI cyJ Z A) (hr : meth.sig.returnType = none) (hlk : meth.locks = false) (hP : va_P D vwCl ws H) (hD : va_D A ws) (hS : va_S A s.heap H locs) (u : S) (is : List Nat) (hn : va_nd is = true) (hs : is.map (fun i => ws[i]?) = (w1 u).map some) (hdg : decode cc pc = .ok (.return_, 1)) :
    W p l e R s m args below meth c H locs cells slots (MQ below (va_Qv (fun _ => True) (BW D A w1) A) args s cells slots A) (F0 m pc ls []) :=
  W.vret E.1.1 E.1.2.1 hr (fun t ht hW => ⟨⟨u, rfl, trivial, by rw [ht]; exact x_subP hP is hs, hD.sub is hn hs⟩, hS.F ht⟩) hS.2.2 hdg hlk
end XL
theorem met_i {l : Launch} {y : MethodName} {bytes : ByteArray} {maxL : Nat} {rm : Room} {D : va_G} {cyI cyJ : ClassId} {Z : xZ} {av : List Value} {wc : va_W} {S : Type} {rv : S → Int32} {w1 : S → va_W} {mc ms : Nat} {rt : FieldType} (hy : plainName y.cls = true) (hlen : Nat.ble (lg_sl av).length maxL = true)
    (body : ∀ (p : Program) (e : Env) (s : State) (m : MethodId) (below : List Frame) (meth : Method) (c : Code) (A : Nat → Prop) (ls : Array Slot), Ctx p s m av.toArray c bytes maxL y.cls D cyI cyJ Z A → meth.sig.returnType = some rt → meth.locks = false → va_P D vwCl wc s.heap → va_D A wc → (∀ q : Nat, s.heap.size ≤ q → A q) → lv_has ls maxL (lv_args 0 av) → W p l e rm s m av.toArray below meth c s.heap [] 0 0 (MQ below (va_Qi (fun r u => r = rv u) (BW D A w1) A) av.toArray s mc ms A) (F0 m 0 ls [])) :
    MetI l y (Cond.code y bytes maxL (some rt)) rm D cyI cyJ Z av wc rv w1 mc ms := by
  intro sz
  refine Met.ofW (cc := bytes) (maxL := maxL) (ret := some rt) hy rfl ?_
  intro p e s m args below meth c s₁ B hml hv
  obtain ⟨rfl, hsz, hP, hK, hD0, hN, hF⟩ := hv
  subst hsz
  have hts := atoms_spec (ws := Cond.code y bytes maxL (some rt) :: G) B.pre
  have hl := lv_entry av (n := maxL) (Nat.le_of_ble_eq_true hlen)
  rw [lg_entry_eq]
  generalize (lg_sl av ++ List.replicate (maxL - (lg_sl av).length) Slot.unset).toArray = ls at hl ⊢
  exact body p e s m below meth c _ ls ⟨⟨B.exec, B.bytes, hml, findClass_of_methodNamed B.named, fun w h => hts w (List.mem_cons_of_mem _ h)⟩, hK, hN, hF⟩ B.returns B.notSynchronized hP hD0.self (fun q h => Or.inr h) hl
theorem met_v {l : Launch} {y : MethodName} {bytes : ByteArray} {maxL : Nat} {rm : Room} {D : va_G} {cyI cyJ : ClassId} {Z : xZ} {av : List Value} {wc : va_W} {S : Type} {w1 : S → va_W} {mc ms : Nat} (hy : plainName y.cls = true) (hlen : Nat.ble (lg_sl av).length maxL = true)
    (body : ∀ (p : Program) (e : Env) (s : State) (m : MethodId) (below : List Frame) (meth : Method) (c : Code) (A : Nat → Prop) (ls : Array Slot), Ctx p s m av.toArray c bytes maxL y.cls D cyI cyJ Z A → meth.sig.returnType = none → meth.locks = false → meth.name = y.name → va_P D vwCl wc s.heap → va_D A wc → (∀ q : Nat, s.heap.size ≤ q → A q) → lv_has ls maxL (lv_args 0 av) → W p l e rm s m av.toArray below meth c s.heap [] 0 0 (MQ below (va_Qv (fun _ => True) (BW D A w1) A) av.toArray s mc ms A) (F0 m 0 ls [])) :
    MetV l y (Cond.code y bytes maxL none) rm D cyI cyJ Z av wc w1 mc ms := by
  intro sz
  refine Met.ofW (cc := bytes) (maxL := maxL) (ret := none) hy rfl ?_
  intro p e s m args below meth c s₁ B hml hv
  obtain ⟨rfl, hsz, hP, hK, hD0, hN, hF⟩ := hv
  subst hsz
  have hts := atoms_spec (ws := Cond.code y bytes maxL none :: G) B.pre
  have hl := lv_entry av (n := maxL) (Nat.le_of_ble_eq_true hlen)
  rw [lg_entry_eq]
  generalize (lg_sl av ++ List.replicate (maxL - (lg_sl av).length) Slot.unset).toArray = ls at hl ⊢
  exact body p e s m below meth c _ ls ⟨⟨B.exec, B.bytes, hml, findClass_of_methodNamed B.named, fun w h => hts w (List.mem_cons_of_mem _ h)⟩, hK, hN, hF⟩ B.returns B.notSynchronized (name_of_methodNamed B.named B.method).1 hP hD0.self (fun q h => Or.inr h) hl
theorem kJ0_charAt_5068e : OkM yJ0_charAt_5068e cJ0_charAt_5068e 2 (some .char) 1 := ⟨wq733, wq734, by decide +kernel⟩
theorem kJ0_checkIndex_df160 : OkM yJ0_checkIndex_df160 cJ0_checkIndex_df160 2 none 2 := ⟨wq735, wq734, by decide +kernel⟩
theorem kJ0_coder_7d493 : OkM yJ0_coder_7d493 cJ0_coder_7d493 1 (some .byte) 0 := ⟨wq736, wq734, by decide +kernel⟩
theorem kJ0_isLatin1_aae02 : OkM yJ0_isLatin1_aae02 cJ0_isLatin1_aae02 1 (some .boolean) 0 := ⟨wq737, wq734, by decide +kernel⟩
theorem kJ0_length_8abf5 : OkM yJ0_length_8abf5 cJ0_length_8abf5 1 (some .int) 0 := ⟨wq738, wq734, by decide +kernel⟩
theorem kJ1_charAt_3b067 : OkM yJ1_charAt_3b067 cJ1_charAt_3b067 2 (some .char) 2 := ⟨wq739, wq740, by decide +kernel⟩
theorem kJ3_checkIndex_8e157 : OkM yJ3_checkIndex_8e157 cJ3_checkIndex_8e157 3 (some .int) 3 := ⟨wq741, wq742, by decide +kernel⟩
theorem kJ7_fill_53178 : OkM yJ7_fill_53178 cJ7_fill_53178 4 none 2 := ⟨wq743, wq744, by decide +kernel⟩
theorem kX0_clear : OkM yX0_clear cX0_clear 1 none 0 := ⟨wq745, wq7, by decide +kernel⟩
theorem kX0_cut : OkM yX0_cut cX0_cut 1 none 0 := ⟨wq746, wq7, by decide +kernel⟩
theorem kX0_init : OkM yX0_init cX0_init 1 none 0 := ⟨wq747, wq7, by decide +kernel⟩
theorem kX0_link : OkM yX0_link cX0_link 3 none 1 := ⟨wq748, wq7, by decide +kernel⟩
theorem kX0_mark : OkM yX0_mark cX0_mark 1 none 0 := ⟨wq749, wq7, by decide +kernel⟩
theorem kX0_measure : OkM yX0_measure cX0_measure 6 none 1 := ⟨wq750, wq7, by decide +kernel⟩
theorem kX0_node : OkM yX0_node cX0_node 8 (some .int) 4 := ⟨wq751, wq7, by decide +kernel⟩
theorem kX0_unlink : OkM yX0_unlink cX0_unlink 2 none 0 := ⟨wq752, wq7, by decide +kernel⟩
theorem kX10_byteAt : OkM yX10_byteAt cX10_byteAt 2 (some .int) 1 := ⟨wq753, wq154, by decide +kernel⟩
theorem kX10_init : OkM yX10_init cX10_init 3 none 2 := ⟨wq754, wq154, by decide +kernel⟩
theorem kX11_about : OkM yX11_about cX11_about 2 (some .int) 1 := ⟨wq755, wq692, by decide +kernel⟩
theorem kX11_abs : OkM yX11_abs cX11_abs 3 (some .int) 2 := ⟨wq756, wq692, by decide +kernel⟩
theorem kX11_answered : OkM yX11_answered cX11_answered 2 (some .int) 1 := ⟨wq757, wq692, by decide +kernel⟩
theorem kX11_assume : OkM yX11_assume cX11_assume 3 (some .int) 1 := ⟨wq758, wq692, by decide +kernel⟩
theorem kX11_begin : OkM yX11_begin cX11_begin 1 none 0 := ⟨wq759, wq692, by decide +kernel⟩
theorem kX11_beta : OkM yX11_beta cX11_beta 3 (some .int) 1 := ⟨wq760, wq692, by decide +kernel⟩
theorem kX11_better : OkM yX11_better cX11_better 4 (some .int) 1 := ⟨wq761, wq692, by decide +kernel⟩
theorem kX11_comb : OkM yX11_comb cX11_comb 3 (some .int) 2 := ⟨wq762, wq692, by decide +kernel⟩
theorem kX11_convert : OkM yX11_convert cX11_convert 4 (some .int) 1 := ⟨wq763, wq692, by decide +kernel⟩
theorem kX11_decide : OkM yX11_decide cX11_decide 6 (some .int) 1 := ⟨wq764, wq692, by decide +kernel⟩
theorem kX11_deduct : OkM yX11_deduct cX11_deduct 3 (some .int) 2 := ⟨wq765, wq692, by decide +kernel⟩
theorem kX11_eqmp : OkM yX11_eqmp cX11_eqmp 3 (some .int) 2 := ⟨wq766, wq692, by decide +kernel⟩
theorem kX11_eta : OkM yX11_eta cX11_eta 3 (some .int) 1 := ⟨wq767, wq692, by decide +kernel⟩
theorem kX11_fault : OkM yX11_fault cX11_fault 1 (some .int) 0 := ⟨wq768, wq692, by decide +kernel⟩
theorem kX11_feed : OkM yX11_feed cX11_feed 6 (some .int) 5 := ⟨wq769, wq692, by decide +kernel⟩
theorem kX11_fresh : OkM yX11_fresh cX11_fresh 2 (some .int) 0 := ⟨wq770, wq692, by decide +kernel⟩
theorem kX11_init : OkM yX11_init cX11_init 1 none 0 := ⟨wq771, wq692, by decide +kernel⟩
theorem kX11_inst : OkM yX11_inst cX11_inst 5 (some .int) 3 := ⟨wq772, wq692, by decide +kernel⟩
theorem kX11_lay : OkM yX11_lay cX11_lay 3 none 1 := ⟨wq773, wq692, by decide +kernel⟩
theorem kX11_named : OkM yX11_named cX11_named 4 (some .int) 1 := ⟨wq774, wq692, by decide +kernel⟩
theorem kX11_normal : OkM yX11_normal cX11_normal 3 (some .int) 1 := ⟨wq775, wq692, by decide +kernel⟩
theorem kX11_octet : OkM yX11_octet cX11_octet 2 (some .int) 1 := ⟨wq776, wq692, by decide +kernel⟩
theorem kX11_opens : OkM yX11_opens cX11_opens 2 (some .boolean) 1 := ⟨wq777, wq692, by decide +kernel⟩
theorem kX11_opensTheorems : OkM yX11_opensTheorems cX11_opensTheorems 3 (some .boolean) 2 := ⟨wq778, wq692, by decide +kernel⟩
theorem kX11_readTerm : OkM yX11_readTerm cX11_readTerm 3 (some .int) 1 := ⟨wq779, wq692, by decide +kernel⟩
theorem kX11_refl : OkM yX11_refl cX11_refl 3 (some .int) 1 := ⟨wq780, wq692, by decide +kernel⟩
theorem kX11_refused : OkM yX11_refused cX11_refused 2 (some .int) 1 := ⟨wq781, wq692, by decide +kernel⟩
theorem kX11_rewrite : OkM yX11_rewrite cX11_rewrite 5 (some .int) 2 := ⟨wq782, wq692, by decide +kernel⟩
theorem kX11_same : OkM yX11_same cX11_same 3 (some .int) 2 := ⟨wq783, wq692, by decide +kernel⟩
theorem kX11_size : OkM yX11_size cX11_size 1 (some .int) 0 := ⟨wq784, wq692, by decide +kernel⟩
theorem kX11_sym : OkM yX11_sym cX11_sym 2 (some .int) 1 := ⟨wq785, wq692, by decide +kernel⟩
theorem kX11_takeBack : OkM yX11_takeBack cX11_takeBack 1 none 0 := ⟨wq786, wq692, by decide +kernel⟩
theorem kX11_term : OkM yX11_term cX11_term 5 (some .int) 2 := ⟨wq787, wq692, by decide +kernel⟩
theorem kX11_theorem : OkM yX11_theorem cX11_theorem 4 (some .int) 2 := ⟨wq788, wq692, by decide +kernel⟩
theorem kX11_theory : OkM yX11_theory cX11_theory 2 (some .int) 1 := ⟨wq789, wq692, by decide +kernel⟩
theorem kX11_trans : OkM yX11_trans cX11_trans 3 (some .int) 2 := ⟨wq790, wq692, by decide +kernel⟩
theorem kX11_trouble : OkM yX11_trouble cX11_trouble 1 (some .int) 0 := ⟨wq791, wq692, by decide +kernel⟩
theorem kX11_unfold : OkM yX11_unfold cX11_unfold 3 (some .int) 1 := ⟨wq792, wq692, by decide +kernel⟩
theorem kX11_used : OkM yX11_used cX11_used 2 (some .int) 1 := ⟨wq793, wq692, by decide +kernel⟩
theorem kX11_wasReadWell : OkM yX11_wasReadWell cX11_wasReadWell 1 (some .boolean) 0 := ⟨wq794, wq692, by decide +kernel⟩
theorem kX11_where : OkM yX11_where cX11_where 1 (some .int) 0 := ⟨wq795, wq692, by decide +kernel⟩
theorem kX11_write : OkM yX11_write cX11_write 3 (some .int) 1 := ⟨wq796, wq692, by decide +kernel⟩
theorem kX11_writeOf : OkM yX11_writeOf cX11_writeOf 4 (some .int) 2 := ⟨wq797, wq692, by decide +kernel⟩
theorem kX11_writeSide : OkM yX11_writeSide cX11_writeSide 4 (some .int) 2 := ⟨wq798, wq692, by decide +kernel⟩
theorem kX11_writeType : OkM yX11_writeType cX11_writeType 3 (some .int) 1 := ⟨wq799, wq692, by decide +kernel⟩
theorem kX12_about : OkM yX12_about cX12_about 4 (some .int) 1 := ⟨wq800, wq697, by decide +kernel⟩
theorem kX12_abs : OkM yX12_abs cX12_abs 3 (some .int) 2 := ⟨wq801, wq697, by decide +kernel⟩
theorem kX12_assume_ : OkM yX12_assume_ cX12_assume_ 2 (some .int) 1 := ⟨wq802, wq697, by decide +kernel⟩
theorem kX12_begins : OkM yX12_begins cX12_begins 2 none 1 := ⟨wq803, wq697, by decide +kernel⟩
theorem kX12_beginsPiece : OkM yX12_beginsPiece cX12_beginsPiece 1 (some .boolean) 0 := ⟨wq804, wq697, by decide +kernel⟩
theorem kX12_beginsRules : OkM yX12_beginsRules cX12_beginsRules 2 none 0 := ⟨wq805, wq697, by decide +kernel⟩
theorem kX12_beta_ : OkM yX12_beta_ cX12_beta_ 2 (some .int) 1 := ⟨wq806, wq697, by decide +kernel⟩
theorem kX12_better : OkM yX12_better cX12_better 3 (some .int) 1 := ⟨wq807, wq697, by decide +kernel⟩
theorem kX12_callsOnTape : OkM yX12_callsOnTape cX12_callsOnTape 6 (some .int) 4 := ⟨wq808, wq697, by decide +kernel⟩
theorem kX12_callsOnTwo : OkM yX12_callsOnTwo cX12_callsOnTwo 4 (some .int) 3 := ⟨wq809, wq697, by decide +kernel⟩
theorem kX12_comb_ : OkM yX12_comb_ cX12_comb_ 3 (some .int) 2 := ⟨wq810, wq697, by decide +kernel⟩
theorem kX12_convert : OkM yX12_convert cX12_convert 4 (some .int) 1 := ⟨wq811, wq697, by decide +kernel⟩
theorem kX12_decide : OkM yX12_decide cX12_decide 10 (some .int) 1 := ⟨wq812, wq697, by decide +kernel⟩
theorem kX12_deduct_ : OkM yX12_deduct_ cX12_deduct_ 3 (some .int) 2 := ⟨wq813, wq697, by decide +kernel⟩
theorem kX12_eqmp_ : OkM yX12_eqmp_ cX12_eqmp_ 3 (some .int) 2 := ⟨wq814, wq697, by decide +kernel⟩
theorem kX12_eta_ : OkM yX12_eta_ cX12_eta_ 2 (some .int) 1 := ⟨wq815, wq697, by decide +kernel⟩
theorem kX12_fault : OkM yX12_fault cX12_fault 1 (some .int) 0 := ⟨wq816, wq697, by decide +kernel⟩
theorem kX12_faulty : OkM yX12_faulty cX12_faulty 1 (some .int) 0 := ⟨wq817, wq697, by decide +kernel⟩
theorem kX12_feed : OkM yX12_feed cX12_feed 8 (some .int) 5 := ⟨wq818, wq697, by decide +kernel⟩
theorem kX12_flaw : OkM yX12_flaw cX12_flaw 2 none 1 := ⟨wq819, wq697, by decide +kernel⟩
theorem kX12_flawAt : OkM yX12_flawAt cX12_flawAt 3 none 2 := ⟨wq820, wq697, by decide +kernel⟩
theorem kX12_fresh : OkM yX12_fresh cX12_fresh 3 (some .int) 0 := ⟨wq821, wq697, by decide +kernel⟩
theorem kX12_goOn : OkM yX12_goOn cX12_goOn 2 none 0 := ⟨wq822, wq697, by decide +kernel⟩
theorem kX12_good : OkM yX12_good cX12_good 2 (some .int) 1 := ⟨wq823, wq697, by decide +kernel⟩
theorem kX12_in : OkM yX12_in cX12_in 3 (some .boolean) 3 := ⟨wq824, wq697, by decide +kernel⟩
theorem kX12_init : OkM yX12_init cX12_init 1 none 0 := ⟨wq825, wq697, by decide +kernel⟩
theorem kX12_inst_ : OkM yX12_inst_ cX12_inst_ 4 (some .int) 3 := ⟨wq826, wq697, by decide +kernel⟩
theorem kX12_isLong : OkM yX12_isLong cX12_isLong 2 (some .boolean) 1 := ⟨wq827, wq697, by decide +kernel⟩
theorem kX12_isName : OkM yX12_isName cX12_isName 1 (some .boolean) 0 := ⟨wq828, wq697, by decide +kernel⟩
theorem kX12_isSign : OkM yX12_isSign cX12_isSign 2 (some .boolean) 1 := ⟨wq829, wq697, by decide +kernel⟩
theorem kX12_isThm : OkM yX12_isThm cX12_isThm 2 (some .boolean) 1 := ⟨wq830, wq697, by decide +kernel⟩
theorem kX12_isWord : OkM yX12_isWord cX12_isWord 2 (some .boolean) 1 := ⟨wq831, wq697, by decide +kernel⟩
theorem kX12_named : OkM yX12_named cX12_named 6 (some .int) 1 := ⟨wq832, wq697, by decide +kernel⟩
theorem kX12_needs : OkM yX12_needs cX12_needs 2 none 1 := ⟨wq833, wq697, by decide +kernel⟩
theorem kX12_needsEnd : OkM yX12_needsEnd cX12_needsEnd 1 none 0 := ⟨wq834, wq697, by decide +kernel⟩
theorem kX12_newReg : OkM yX12_newReg cX12_newReg 1 (some .int) 0 := ⟨wq835, wq697, by decide +kernel⟩
theorem kX12_normal_ : OkM yX12_normal_ cX12_normal_ 3 (some .int) 1 := ⟨wq836, wq697, by decide +kernel⟩
theorem kX12_octet : OkM yX12_octet cX12_octet 2 (some .int) 1 := ⟨wq837, wq697, by decide +kernel⟩
theorem kX12_passes : OkM yX12_passes cX12_passes 2 (some .boolean) 1 := ⟨wq838, wq697, by decide +kernel⟩
theorem kX12_readConv : OkM yX12_readConv cX12_readConv 3 (some .int) 0 := ⟨wq839, wq697, by decide +kernel⟩
theorem kX12_readFirst : OkM yX12_readFirst cX12_readFirst 2 (some .int) 0 := ⟨wq840, wq697, by decide +kernel⟩
theorem kX12_readLine : OkM yX12_readLine cX12_readLine 1 none 0 := ⟨wq841, wq697, by decide +kernel⟩
theorem kX12_readPiece : OkM yX12_readPiece cX12_readPiece 2 (some .int) 0 := ⟨wq842, wq697, by decide +kernel⟩
theorem kX12_readPieces : OkM yX12_readPieces cX12_readPieces 5 (some .int) 0 := ⟨wq843, wq697, by decide +kernel⟩
theorem kX12_readSide : OkM yX12_readSide cX12_readSide 5 (some .int) 0 := ⟨wq844, wq697, by decide +kernel⟩
theorem kX12_readStep : OkM yX12_readStep cX12_readStep 3 (some .int) 0 := ⟨wq845, wq697, by decide +kernel⟩
theorem kX12_readTerm : OkM yX12_readTerm cX12_readTerm 5 (some .int) 2 := ⟨wq846, wq697, by decide +kernel⟩
theorem kX12_readsTerm : OkM yX12_readsTerm cX12_readsTerm 3 (some .int) 1 := ⟨wq847, wq697, by decide +kernel⟩
theorem kX12_refl_ : OkM yX12_refl_ cX12_refl_ 2 (some .int) 1 := ⟨wq848, wq697, by decide +kernel⟩
theorem kX12_refused : OkM yX12_refused cX12_refused 2 (some .int) 1 := ⟨wq849, wq697, by decide +kernel⟩
theorem kX12_rewrite : OkM yX12_rewrite cX12_rewrite 4 (some .int) 2 := ⟨wq850, wq697, by decide +kernel⟩
theorem kX12_same : OkM yX12_same cX12_same 3 (some .int) 2 := ⟨wq851, wq697, by decide +kernel⟩
theorem kX12_size : OkM yX12_size cX12_size 1 (some .int) 0 := ⟨wq852, wq697, by decide +kernel⟩
theorem kX12_sym : OkM yX12_sym cX12_sym 3 (some .int) 1 := ⟨wq853, wq697, by decide +kernel⟩
theorem kX12_term : OkM yX12_term cX12_term 5 (some .int) 2 := ⟨wq854, wq697, by decide +kernel⟩
theorem kX12_theorem : OkM yX12_theorem cX12_theorem 3 (some .int) 2 := ⟨wq855, wq697, by decide +kernel⟩
theorem kX12_theory : OkM yX12_theory cX12_theory 5 (some .int) 1 := ⟨wq856, wq697, by decide +kernel⟩
theorem kX12_thrown : OkM yX12_thrown cX12_thrown 1 (some .int) 0 := ⟨wq857, wq697, by decide +kernel⟩
theorem kX12_trans_ : OkM yX12_trans_ cX12_trans_ 3 (some .int) 2 := ⟨wq858, wq697, by decide +kernel⟩
theorem kX12_trouble : OkM yX12_trouble cX12_trouble 1 (some .int) 0 := ⟨wq859, wq697, by decide +kernel⟩
theorem kX12_unfold : OkM yX12_unfold cX12_unfold 2 (some .int) 1 := ⟨wq860, wq697, by decide +kernel⟩
theorem kX12_used : OkM yX12_used cX12_used 2 (some .int) 1 := ⟨wq861, wq697, by decide +kernel⟩
theorem kX12_where : OkM yX12_where cX12_where 1 (some .int) 0 := ⟨wq862, wq697, by decide +kernel⟩
theorem kX12_write : OkM yX12_write cX12_write 3 (some .int) 1 := ⟨wq863, wq697, by decide +kernel⟩
theorem kX12_writeOf : OkM yX12_writeOf cX12_writeOf 3 (some .int) 2 := ⟨wq864, wq697, by decide +kernel⟩
theorem kX12_writeSide : OkM yX12_writeSide cX12_writeSide 3 (some .int) 2 := ⟨wq865, wq697, by decide +kernel⟩
theorem kX12_writeType : OkM yX12_writeType cX12_writeType 3 (some .int) 1 := ⟨wq866, wq697, by decide +kernel⟩
theorem kX1_init : OkM yX1_init cX1_init 3 none 2 := ⟨wq867, wq125, by decide +kernel⟩
theorem kX1_opOfWord : OkM yX1_opOfWord cX1_opOfWord 1 (some .int) 1 := ⟨wq868, wq125, by decide +kernel⟩
theorem kX1_read : OkM yX1_read cX1_read 1 (some .int) 0 := ⟨wq869, wq125, by decide +kernel⟩
theorem kX1_readConv : OkM yX1_readConv cX1_readConv 5 (some .int) 1 := ⟨wq870, wq125, by decide +kernel⟩
theorem kX1_readFirst : OkM yX1_readFirst cX1_readFirst 5 (some .int) 1 := ⟨wq871, wq125, by decide +kernel⟩
theorem kX1_readStep : OkM yX1_readStep cX1_readStep 5 (some .int) 1 := ⟨wq872, wq125, by decide +kernel⟩
theorem kX2_init : OkM yX2_init cX2_init 6 none 5 := ⟨wq873, wq137, by decide +kernel⟩
theorem kX3_clear : OkM yX3_clear cX3_clear 1 none 0 := ⟨wq874, wq73, by decide +kernel⟩
theorem kX3_countOf : OkM yX3_countOf cX3_countOf 2 (some .int) 1 := ⟨wq875, wq73, by decide +kernel⟩
theorem kX3_countOfAll : OkM yX3_countOfAll cX3_countOfAll 3 (some .int) 0 := ⟨wq876, wq73, by decide +kernel⟩
theorem kX3_goBack : OkM yX3_goBack cX3_goBack 1 none 0 := ⟨wq877, wq73, by decide +kernel⟩
theorem kX3_init : OkM yX3_init cX3_init 4 none 3 := ⟨wq878, wq73, by decide +kernel⟩
theorem kX3_mark : OkM yX3_mark cX3_mark 1 none 0 := ⟨wq879, wq73, by decide +kernel⟩
theorem kX4_init : OkM yX4_init cX4_init 7 none 6 := ⟨wq880, wq112, by decide +kernel⟩
theorem kX4_readLines : OkM yX4_readLines cX4_readLines 2 none 0 := ⟨wq881, wq112, by decide +kernel⟩
theorem kX5_init : OkM yX5_init cX5_init 4 none 3 := ⟨wq882, wq63, by decide +kernel⟩
theorem kX6_beginsPiece : OkM yX6_beginsPiece cX6_beginsPiece 1 (some .boolean) 0 := ⟨wq883, wq98, by decide +kernel⟩
theorem kX6_init : OkM yX6_init cX6_init 5 none 4 := ⟨wq884, wq98, by decide +kernel⟩
theorem kX6_readPiece : OkM yX6_readPiece cX6_readPiece 3 (some .int) 1 := ⟨wq885, wq98, by decide +kernel⟩
theorem kX6_readSide : OkM yX6_readSide cX6_readSide 6 (some .int) 1 := ⟨wq886, wq98, by decide +kernel⟩
theorem kX6_readTermAt : OkM yX6_readTermAt cX6_readTermAt 5 (some .int) 1 := ⟨wq887, wq98, by decide +kernel⟩
theorem kX6_readWhole : OkM yX6_readWhole cX6_readWhole 4 (some .int) 1 := ⟨wq888, wq98, by decide +kernel⟩
theorem kX7_init : OkM yX7_init cX7_init 2 none 1 := ⟨wq889, wq39, by decide +kernel⟩
theorem kX8_add : OkM yX8_add cX8_add 4 none 3 := ⟨wq890, wq86, by decide +kernel⟩
theorem kX8_advance : OkM yX8_advance cX8_advance 1 none 0 := ⟨wq891, wq86, by decide +kernel⟩
theorem kX8_init : OkM yX8_init cX8_init 7 none 1 := ⟨wq892, wq86, by decide +kernel⟩
theorem kX8_isLetter : OkM yX8_isLetter cX8_isLetter 1 (some .boolean) 1 := ⟨wq893, wq86, by decide +kernel⟩
theorem kX8_nameHere : OkM yX8_nameHere cX8_nameHere 1 (some .int) 0 := ⟨wq894, wq86, by decide +kernel⟩
theorem kX8_onlyName : OkM yX8_onlyName cX8_onlyName 3 (some .int) 1 := ⟨wq895, wq86, by decide +kernel⟩
theorem kX8_padded : OkM yX8_padded cX8_padded 4 (some .int) 2 := ⟨wq896, wq86, by decide +kernel⟩
theorem kX8_refuse : OkM yX8_refuse cX8_refuse 3 (some .int) 2 := ⟨wq897, wq86, by decide +kernel⟩
theorem kX8_start : OkM yX8_start cX8_start 7 none 1 := ⟨wq898, wq86, by decide +kernel⟩
theorem kX8_takeEnd : OkM yX8_takeEnd cX8_takeEnd 1 none 0 := ⟨wq899, wq86, by decide +kernel⟩
theorem kX8_wordHere : OkM yX8_wordHere cX8_wordHere 1 (some .int) 0 := ⟨wq900, wq86, by decide +kernel⟩
theorem kX9_clear : OkM yX9_clear cX9_clear 1 none 0 := ⟨wq901, wq47, by decide +kernel⟩
theorem kX9_definedCount : OkM yX9_definedCount cX9_definedCount 3 (some .int) 0 := ⟨wq902, wq47, by decide +kernel⟩
theorem kX9_goBack : OkM yX9_goBack cX9_goBack 1 none 0 := ⟨wq903, wq47, by decide +kernel⟩
theorem kX9_hasTheorem : OkM yX9_hasTheorem cX9_hasTheorem 2 (some .boolean) 1 := ⟨wq904, wq47, by decide +kernel⟩
theorem kX9_hasVar : OkM yX9_hasVar cX9_hasVar 2 (some .boolean) 1 := ⟨wq905, wq47, by decide +kernel⟩
theorem kX9_init : OkM yX9_init cX9_init 2 none 1 := ⟨wq906, wq47, by decide +kernel⟩
theorem kX9_mark : OkM yX9_mark cX9_mark 1 none 0 := ⟨wq907, wq47, by decide +kernel⟩
