/-! Rows by hand: Arrays.fill, the loop over WORDS. -/
theorem mJ7_fill (l : Launch) (D : va_G) (cyI cyJ : ClassId) (Z : xZ) (h0 n : Nat) (hn : n < 2 ^ 31) (f : Nat → Int32) (x : Int32) : MetV l yJ7_fill_53178 (Cond.code yJ7_fill_53178 cJ7_fill_53178 4 none) { frames := 0, cells := 0, slots := 0, locals := 0 } D cyI cyJ Z [.ref h0, .int x] [(h0, .inl (cyI, n, .inl f))] (fun _ : Unit => ([(h0, .inl (cyI, n, .inl (fun _ => x)))] : va_W)) 0 0 := by
  sorry
section X8
variable {p : Program} {l : Launch} {e : Env} {R : Room} {s : State} {m : MethodId} {args : Array Value} {below : List Frame} {meth : Method} {c : Code} {H : Heap} {locs : List Loc} {cells slots : Nat} {Q : State → Prop}
variable {ls : Array Slot} {D : va_G} {A : Nat → Prop} {cyI cyJ : ClassId} {Z : xZ}
theorem x8_loop {wg : (Nat → Int32) → va_W} {h0 h1 a1 : Nat} {fs : List Value} {f : Nat → Int32} (E : Ctx p s m args c cX8_init 7 RX8 D cyI cyJ Z A) (hfr : 9 ≤ R.frames) (hlo : 400 ≤ R.locals) (hD : va_D A (wg f)) (hS : va_S A s.heap H locs) (hA : ∀ q : Nat, s.heap.size ≤ q → A q) (k0 k1 : Nat) (h0w : ∀ f, (wg f)[k0]? = some (h0, .inr (8, fs))) (hf1 : fs[1]? = some (.ref a1)) (h1w : ∀ f, (wg f)[k1]? = some (a1, .inl (cyI, 25, .inl f))) (hset : ∀ f f', (wg f).set k1 (a1, .inl (cyI, 25, .inl f')) = wg f')
    (kk : ∀ (g : Nat → Int32) (H1 : Heap) (locs1 : List Loc) (ls1 : Array Slot), va_P D vwCl (wg g) H1 → va_D A (wg g) → va_S A s.heap H1 locs1 → lv_has ls1 7 [(0, .ref h0)] → W p l e R s m args below meth c H1 locs1 cells slots Q (F0 m 133 ls1 []))
    (hP : va_P D vwCl (wg f) H) (hl : lv_has ls 7 [(5, .int 0), (4, .int 0), (3, .int 0), (2, .int 0), (0, .ref h0), (1, .ref h1)]) : W p l e R s m args below meth c H locs cells slots Q (F0 m 54 ls []) := by
  sorry
end X8
