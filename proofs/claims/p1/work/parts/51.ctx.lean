theorem wn0 : xNest (RX4, 53, "TenRules$Tokens", "place", "I", "TenRules") ∈ lw_tbl := List.mem_append_right _ (List.mem_append_right _ (List.mem_append_left _ (List.mem_of_getElem? (i := 72) rfl : _ ∈ tables_1_2)))
theorem wn1 : xNest (RX4, 61, "TenRules$Tokens", "fault", "I", "TenRules") ∈ lw_tbl := List.mem_append_right _ (List.mem_append_right _ (List.mem_append_left _ (List.mem_of_getElem? (i := 76) rfl : _ ∈ tables_1_2)))
theorem wn2 : xNest (RX11, 338, "TenRules$Tokens", "fault", "I", "TenRules") ∈ lw_tbl := List.mem_append_right _ (List.mem_append_right _ (List.mem_append_left _ (List.mem_of_getElem? (i := 78) rfl : _ ∈ tables_1_2)))
theorem wn3 : xNest (RX11, 341, "TenRules$Tokens", "faultPlace", "I", "TenRules") ∈ lw_tbl := List.mem_append_right _ (List.mem_append_right _ (List.mem_append_left _ (List.mem_of_getElem? (i := 80) rfl : _ ∈ tables_1_2)))
theorem wn4 : xNest (RX6, 37, "TenRules$Tokens", "place", "I", "TenRules") ∈ lw_tbl := List.mem_append_right _ (List.mem_append_right _ (List.mem_append_left _ (List.mem_of_getElem? (i := 71) rfl : _ ∈ tables_1_2)))
theorem wn5 : xNest (RX6, 71, "TenRules$Tokens", "kind", "I", "TenRules") ∈ lw_tbl := List.mem_append_right _ (List.mem_append_right _ (List.mem_append_left _ (List.mem_of_getElem? (i := 68) rfl : _ ∈ tables_1_2)))
theorem wn6 : xNest (RX1, 66, "TenRules$Tokens", "kind", "I", "TenRules") ∈ lw_tbl := List.mem_append_right _ (List.mem_append_right _ (List.mem_append_left _ (List.mem_of_getElem? (i := 70) rfl : _ ∈ tables_1_2)))
theorem wn7 : xNest (RX1, 33, "TenRules$Tokens", "place", "I", "TenRules") ∈ lw_tbl := List.mem_append_right _ (List.mem_append_right _ (List.mem_append_left _ (List.mem_of_getElem? (i := 73) rfl : _ ∈ tables_1_2)))
theorem wn8 : xNest (RX11, 134, "TenRules$Told", "theoremCount", "I", "TenRules") ∈ lw_tbl := List.mem_append_right _ (List.mem_append_left _ (List.mem_of_getElem? (i := 156) rfl : _ ∈ tables_1_1))
theorem wn9 : xNest (RX11, 154, "TenRules$Told", "varCount", "I", "TenRules") ∈ lw_tbl := List.mem_append_right _ (List.mem_append_left _ (List.mem_of_getElem? (i := 151) rfl : _ ∈ tables_1_1))
theorem wn10 : xNest (RX11, 157, "TenRules$Told", "constCount", "I", "TenRules") ∈ lw_tbl := List.mem_append_right _ (List.mem_append_left _ (List.mem_of_getElem? (i := 154) rfl : _ ∈ tables_1_1))
theorem wn11 : xNest (RX11, 167, "TenRules$Writer", "length", "I", "TenRules") ∈ lw_tbl := List.mem_append_right _ (List.mem_append_right _ (List.mem_append_right _ (List.mem_append_left _ (List.mem_of_getElem? (i := 4) rfl : _ ∈ tables_1_3))))
theorem ws0 : Cond.stringRef RX12 186 "var" ∈ lw_tbl := List.mem_append_right _ (List.mem_append_right _ (List.mem_append_right _ (List.mem_append_right _ (List.mem_append_right _ (List.mem_append_right _ (List.mem_append_right _ (List.mem_append_right _ (List.mem_append_left _ (List.mem_of_getElem? (i := 226) rfl : _ ∈ tables_1_8)))))))))
theorem wf0 : Cond.exactly (.string RX12 186) "java/lang/String" ∈ flatC (Jvm.Cond.and given_1 narrow_1) := by decide +kernel
theorem ws1 : Cond.stringRef RX12 188 "const" ∈ lw_tbl := List.mem_append_right _ (List.mem_append_right _ (List.mem_append_right _ (List.mem_append_right _ (List.mem_append_right _ (List.mem_append_right _ (List.mem_append_right _ (List.mem_append_right _ (List.mem_append_right _ (List.mem_append_left _ (List.mem_of_getElem? (i := 20) rfl : _ ∈ tables_1_9))))))))))
theorem wf1 : Cond.exactly (.string RX12 188) "java/lang/String" ∈ flatC (Jvm.Cond.and given_1 narrow_1) := by decide +kernel
theorem ws2 : Cond.stringRef RX12 190 "def" ∈ lw_tbl := List.mem_append_right _ (List.mem_append_right _ (List.mem_append_right _ (List.mem_append_right _ (List.mem_append_right _ (List.mem_append_right _ (List.mem_append_right _ (List.mem_append_right _ (List.mem_append_right _ (List.mem_append_left _ (List.mem_of_getElem? (i := 21) rfl : _ ∈ tables_1_9))))))))))
theorem wf2 : Cond.exactly (.string RX12 190) "java/lang/String" ∈ flatC (Jvm.Cond.and given_1 narrow_1) := by decide +kernel
theorem ws3 : Cond.stringRef RX12 192 "thm" ∈ lw_tbl := List.mem_append_right _ (List.mem_append_right _ (List.mem_append_right _ (List.mem_append_right _ (List.mem_append_right _ (List.mem_append_right _ (List.mem_append_right _ (List.mem_append_right _ (List.mem_append_right _ (List.mem_append_left _ (List.mem_of_getElem? (i := 22) rfl : _ ∈ tables_1_9))))))))))
theorem wf3 : Cond.exactly (.string RX12 192) "java/lang/String" ∈ flatC (Jvm.Cond.and given_1 narrow_1) := by decide +kernel
theorem ws4 : Cond.stringRef RX12 214 "all" ∈ lw_tbl := List.mem_append_right _ (List.mem_append_right _ (List.mem_append_right _ (List.mem_append_right _ (List.mem_append_right _ (List.mem_append_right _ (List.mem_append_right _ (List.mem_append_right _ (List.mem_append_right _ (List.mem_append_left _ (List.mem_of_getElem? (i := 33) rfl : _ ∈ tables_1_9))))))))))
theorem wf4 : Cond.exactly (.string RX12 214) "java/lang/String" ∈ flatC (Jvm.Cond.and given_1 narrow_1) := by decide +kernel
theorem ws5 : Cond.stringRef RX12 216 "no" ∈ lw_tbl := List.mem_append_right _ (List.mem_append_right _ (List.mem_append_right _ (List.mem_append_right _ (List.mem_append_right _ (List.mem_append_right _ (List.mem_append_right _ (List.mem_append_right _ (List.mem_append_right _ (List.mem_append_left _ (List.mem_of_getElem? (i := 34) rfl : _ ∈ tables_1_9))))))))))
theorem wf5 : Cond.exactly (.string RX12 216) "java/lang/String" ∈ flatC (Jvm.Cond.and given_1 narrow_1) := by decide +kernel
theorem ws6 : Cond.stringRef RX12 202 "beta" ∈ lw_tbl := List.mem_append_right _ (List.mem_append_right _ (List.mem_append_right _ (List.mem_append_right _ (List.mem_append_right _ (List.mem_append_right _ (List.mem_append_right _ (List.mem_append_right _ (List.mem_append_right _ (List.mem_append_left _ (List.mem_of_getElem? (i := 27) rfl : _ ∈ tables_1_9))))))))))
theorem wf6 : Cond.exactly (.string RX12 202) "java/lang/String" ∈ flatC (Jvm.Cond.and given_1 narrow_1) := by decide +kernel
theorem ws7 : Cond.stringRef RX12 212 "eta" ∈ lw_tbl := List.mem_append_right _ (List.mem_append_right _ (List.mem_append_right _ (List.mem_append_right _ (List.mem_append_right _ (List.mem_append_right _ (List.mem_append_right _ (List.mem_append_right _ (List.mem_append_right _ (List.mem_append_left _ (List.mem_of_getElem? (i := 32) rfl : _ ∈ tables_1_9))))))))))
theorem wf7 : Cond.exactly (.string RX12 212) "java/lang/String" ∈ flatC (Jvm.Cond.and given_1 narrow_1) := by decide +kernel
theorem ws8 : Cond.stringRef RX12 218 "by" ∈ lw_tbl := List.mem_append_right _ (List.mem_append_right _ (List.mem_append_right _ (List.mem_append_right _ (List.mem_append_right _ (List.mem_append_right _ (List.mem_append_right _ (List.mem_append_right _ (List.mem_append_right _ (List.mem_append_left _ (List.mem_of_getElem? (i := 35) rfl : _ ∈ tables_1_9))))))))))
theorem wf8 : Cond.exactly (.string RX12 218) "java/lang/String" ∈ flatC (Jvm.Cond.and given_1 narrow_1) := by decide +kernel
theorem ws9 : Cond.stringRef RX12 220 "try" ∈ lw_tbl := List.mem_append_right _ (List.mem_append_right _ (List.mem_append_right _ (List.mem_append_right _ (List.mem_append_right _ (List.mem_append_right _ (List.mem_append_right _ (List.mem_append_right _ (List.mem_append_right _ (List.mem_append_left _ (List.mem_of_getElem? (i := 36) rfl : _ ∈ tables_1_9))))))))))
theorem wf9 : Cond.exactly (.string RX12 220) "java/lang/String" ∈ flatC (Jvm.Cond.and given_1 narrow_1) := by decide +kernel
theorem ws10 : Cond.stringRef RX12 222 "rep" ∈ lw_tbl := List.mem_append_right _ (List.mem_append_right _ (List.mem_append_right _ (List.mem_append_right _ (List.mem_append_right _ (List.mem_append_right _ (List.mem_append_right _ (List.mem_append_right _ (List.mem_append_right _ (List.mem_append_left _ (List.mem_of_getElem? (i := 37) rfl : _ ∈ tables_1_9))))))))))
theorem wf10 : Cond.exactly (.string RX12 222) "java/lang/String" ∈ flatC (Jvm.Cond.and given_1 narrow_1) := by decide +kernel
theorem ws11 : Cond.stringRef RX12 224 "left" ∈ lw_tbl := List.mem_append_right _ (List.mem_append_right _ (List.mem_append_right _ (List.mem_append_right _ (List.mem_append_right _ (List.mem_append_right _ (List.mem_append_right _ (List.mem_append_right _ (List.mem_append_right _ (List.mem_append_left _ (List.mem_of_getElem? (i := 38) rfl : _ ∈ tables_1_9))))))))))
theorem wf11 : Cond.exactly (.string RX12 224) "java/lang/String" ∈ flatC (Jvm.Cond.and given_1 narrow_1) := by decide +kernel
theorem ws12 : Cond.stringRef RX12 226 "right" ∈ lw_tbl := List.mem_append_right _ (List.mem_append_right _ (List.mem_append_right _ (List.mem_append_right _ (List.mem_append_right _ (List.mem_append_right _ (List.mem_append_right _ (List.mem_append_right _ (List.mem_append_right _ (List.mem_append_left _ (List.mem_of_getElem? (i := 39) rfl : _ ∈ tables_1_9))))))))))
theorem wf12 : Cond.exactly (.string RX12 226) "java/lang/String" ∈ flatC (Jvm.Cond.and given_1 narrow_1) := by decide +kernel
theorem ws13 : Cond.stringRef RX12 228 "in" ∈ lw_tbl := List.mem_append_right _ (List.mem_append_right _ (List.mem_append_right _ (List.mem_append_right _ (List.mem_append_right _ (List.mem_append_right _ (List.mem_append_right _ (List.mem_append_right _ (List.mem_append_right _ (List.mem_append_left _ (List.mem_of_getElem? (i := 40) rfl : _ ∈ tables_1_9))))))))))
theorem wf13 : Cond.exactly (.string RX12 228) "java/lang/String" ∈ flatC (Jvm.Cond.and given_1 narrow_1) := by decide +kernel
theorem ws14 : Cond.stringRef RX12 229 "once" ∈ lw_tbl := List.mem_append_right _ (List.mem_append_right _ (List.mem_append_right _ (List.mem_append_right _ (List.mem_append_right _ (List.mem_append_right _ (List.mem_append_right _ (List.mem_append_right _ (List.mem_append_right _ (List.mem_append_left _ (List.mem_of_getElem? (i := 41) rfl : _ ∈ tables_1_9))))))))))
theorem wf14 : Cond.exactly (.string RX12 229) "java/lang/String" ∈ flatC (Jvm.Cond.and given_1 narrow_1) := by decide +kernel
theorem ws15 : Cond.stringRef RX12 233 "else" ∈ lw_tbl := List.mem_append_right _ (List.mem_append_right _ (List.mem_append_right _ (List.mem_append_right _ (List.mem_append_right _ (List.mem_append_right _ (List.mem_append_right _ (List.mem_append_right _ (List.mem_append_right _ (List.mem_append_left _ (List.mem_of_getElem? (i := 43) rfl : _ ∈ tables_1_9))))))))))
theorem wf15 : Cond.exactly (.string RX12 233) "java/lang/String" ∈ flatC (Jvm.Cond.and given_1 narrow_1) := by decide +kernel
theorem ws16 : Cond.stringRef RX12 231 "then" ∈ lw_tbl := List.mem_append_right _ (List.mem_append_right _ (List.mem_append_right _ (List.mem_append_right _ (List.mem_append_right _ (List.mem_append_right _ (List.mem_append_right _ (List.mem_append_right _ (List.mem_append_right _ (List.mem_append_left _ (List.mem_of_getElem? (i := 42) rfl : _ ∈ tables_1_9))))))))))
theorem wf16 : Cond.exactly (.string RX12 231) "java/lang/String" ∈ flatC (Jvm.Cond.and given_1 narrow_1) := by decide +kernel
theorem ws17 : Cond.stringRef RX11 321 "no theorem of that name" ∈ lw_tbl := List.mem_append_right _ (List.mem_append_right _ (List.mem_append_right _ (List.mem_append_right _ (List.mem_append_right _ (List.mem_append_right _ (List.mem_append_right _ (List.mem_append_left _ (List.mem_of_getElem? (i := 182) rfl : _ ∈ tables_1_7))))))))
theorem wf17 : Cond.exactly (.string RX11 321) "java/lang/String" ∈ flatC (Jvm.Cond.and given_1 narrow_1) := by decide +kernel
theorem lw_str {own tx : String} {k : Nat} {a0 : Array Value} {s : State} (h1 : (Cond.stringRef own k tx).before a0 s = true) (h2 : (Cond.exactly (.string own k) "java/lang/String").before a0 s = true) : ∃ a : Nat, vk_R own k tx a s := by
  obtain ⟨a, c, cA, kA, q1, -⟩ := Cond.exactly_spec (args := a0) (first := s) (o := none) (s := s) (idx := []) (t := .string own k) (cls := "java/lang/String") h2
  exact ⟨a, vk_R.of h1 q1⟩
theorem wsW : Cond.stringRef RX8 27 xWORDS ∈ lw_tbl := List.mem_append_right _ (List.mem_append_right _ (List.mem_append_left _ (List.mem_of_getElem? (i := 5) rfl : _ ∈ tables_1_2)))
def xB : List Int32 := [114, 101, 102, 108, 32, 116, 114, 97, 110, 115, 32, 99, 111, 109, 98, 32, 97, 98, 115, 32, 98, 101, 116, 97, 32, 97, 115, 115, 117, 109, 101, 32, 101, 113, 109, 112, 32, 100, 101, 100, 117, 99, 116, 32, 105, 110, 115, 116, 32, 101, 116, 97, 32, 118, 97, 114, 32, 99, 111, 110, 115, 116, 32, 100, 101, 102, 32, 116, 104, 109, 32, 97, 108, 108, 32, 110, 111, 32, 98, 121, 32, 116, 114, 121, 32, 114, 101, 112, 32, 108, 101, 102, 116, 32, 114, 105, 103, 104, 116, 32, 105, 110, 32, 111, 110, 99, 101, 32, 116, 104, 101, 110, 32, 101, 108, 115, 101, 32]
theorem wfW1 : Cond.exactly (.string "TenRules$Tokens" 27) "java/lang/String" ∈ flatC (Jvm.Cond.and given_1 narrow_1) := by decide +kernel
theorem wfW2 : Cond.eq (.field (.string "TenRules$Tokens" 27) "java/lang/String" "coder" "B") (.int 0) ∈ flatC (Jvm.Cond.and given_1 narrow_1) := by decide +kernel
theorem wfW3 : Cond.arrayOf (Term.field (.string "TenRules$Tokens" 27) "java/lang/String" "value" "[B") .byte ∈ flatC (Jvm.Cond.and given_1 narrow_1) := by decide +kernel
theorem wfW4 : Cond.eq (.length (Term.field (.string "TenRules$Tokens" 27) "java/lang/String" "value" "[B")) (.int 118) ∈ flatC (Jvm.Cond.and given_1 narrow_1) := by decide +kernel
set_option maxRecDepth 100000 in
theorem wfW5 : ∀ j, j < 118 → Cond.eq (.elem (Term.field (.string "TenRules$Tokens" 27) "java/lang/String" "value" "[B") (.int (Int32.ofNat j))) (.int (xB.getD j 0)) ∈ flatC (Jvm.Cond.and given_1 narrow_1) := by decide +kernel
theorem wfZ1 : Cond.eq (.static "java/lang/String" "COMPACT_STRINGS" "Z") (.int 1) ∈ flatC (Jvm.Cond.and given_1 narrow_1) := by decide +kernel
theorem wfZ2 : Cond.isRef (.static Bundle.tN "UNASSIGNED_STACK" Bundle.steD) ∈ flatC (Jvm.Cond.and given_1 narrow_1) := by decide +kernel
theorem wfZ3 : Cond.isRef (.static Bundle.tN "SUPPRESSED_SENTINEL" Bundle.listD) ∈ flatC (Jvm.Cond.and given_1 narrow_1) := by decide +kernel
theorem wfZ4 : Cond.isRef (.static "jdk/internal/util/Preconditions" "SIOOBE_FORMATTER" "Ljava/util/function/BiFunction;") ∈ flatC (Jvm.Cond.and given_1 narrow_1) := by decide +kernel
theorem wlZ1 : Cond.laysStatic "java/lang/String" "COMPACT_STRINGS" "Z" ∈ lw_tbl := List.mem_append_right _ (List.mem_append_right _ (List.mem_append_left _ (List.mem_of_getElem? (i := 15) rfl : _ ∈ tables_1_2)))
theorem wiZ1 : Cond.initialized "java/lang/String" ∈ lw_tbl := List.mem_append_right _ (List.mem_append_left _ (List.mem_of_getElem? (i := 11) rfl : _ ∈ tables_1_1))
theorem wlZ2 : Cond.laysStatic Bundle.tN "UNASSIGNED_STACK" Bundle.steD ∈ lw_tbl := List.mem_append_right _ (List.mem_append_right _ (List.mem_append_right _ (List.mem_append_right _ (List.mem_append_right _ (List.mem_append_right _ (List.mem_append_right _ (List.mem_append_left _ (List.mem_of_getElem? (i := 170) rfl : _ ∈ tables_1_7))))))))
theorem wiZ2 : Cond.initialized Bundle.tN ∈ lw_tbl := List.mem_append_right _ (List.mem_append_left _ (List.mem_of_getElem? (i := 23) rfl : _ ∈ tables_1_1))
theorem wlZ3 : Cond.laysStatic Bundle.tN "SUPPRESSED_SENTINEL" Bundle.listD ∈ lw_tbl := List.mem_append_right _ (List.mem_append_right _ (List.mem_append_right _ (List.mem_append_right _ (List.mem_append_right _ (List.mem_append_right _ (List.mem_append_right _ (List.mem_append_left _ (List.mem_of_getElem? (i := 172) rfl : _ ∈ tables_1_7))))))))
theorem wiZ3 : Cond.initialized Bundle.tN ∈ lw_tbl := List.mem_append_right _ (List.mem_append_left _ (List.mem_of_getElem? (i := 23) rfl : _ ∈ tables_1_1))
theorem wlZ4 : Cond.laysStatic "jdk/internal/util/Preconditions" "SIOOBE_FORMATTER" "Ljava/util/function/BiFunction;" ∈ lw_tbl := List.mem_append_right _ (List.mem_append_right _ (List.mem_append_left _ (List.mem_of_getElem? (i := 31) rfl : _ ∈ tables_1_2)))
theorem wiZ4 : Cond.initialized "jdk/internal/util/Preconditions" ∈ lw_tbl := List.mem_append_right _ (List.mem_append_left _ (List.mem_of_getElem? (i := 13) rfl : _ ∈ tables_1_1))
theorem wcN : Cond.castable xNSE xNSE ∈ lw_tbl := List.mem_append_right _ (List.mem_append_right _ (List.mem_append_right _ (List.mem_append_right _ (List.mem_append_right _ (List.mem_append_right _ (List.mem_append_right _ (List.mem_append_left _ (List.mem_of_getElem? (i := 145) rfl : _ ∈ tables_1_7))))))))
theorem wd1 : Cond.declares (Bundle.initS "java/lang/RuntimeException") ∈ lw_tbl := List.mem_append_right _ (List.mem_append_right _ (List.mem_append_right _ (List.mem_append_right _ (List.mem_append_right _ (List.mem_append_right _ (List.mem_append_right _ (List.mem_append_left _ (List.mem_of_getElem? (i := 147) rfl : _ ∈ tables_1_7))))))))
theorem wd2 : Cond.declares (Bundle.initS "java/lang/Exception") ∈ lw_tbl := List.mem_append_right _ (List.mem_append_right _ (List.mem_append_right _ (List.mem_append_right _ (List.mem_append_right _ (List.mem_append_right _ (List.mem_append_right _ (List.mem_append_left _ (List.mem_of_getElem? (i := 149) rfl : _ ∈ tables_1_7))))))))
theorem wd3 : Cond.declares (Bundle.initS Bundle.tN) ∈ lw_tbl := List.mem_append_right _ (List.mem_append_right _ (List.mem_append_right _ (List.mem_append_right _ (List.mem_append_right _ (List.mem_append_right _ (List.mem_append_right _ (List.mem_append_left _ (List.mem_of_getElem? (i := 151) rfl : _ ∈ tables_1_7))))))))
theorem wi0 : Cond.instantiable RX0 14 ∈ lw_tbl := List.mem_append_right _ (List.mem_append_left _ (List.mem_of_getElem? (i := 36) rfl : _ ∈ tables_1_1))
theorem wi1 : Cond.instantiable RX1 6 ∈ lw_tbl := List.mem_append_right _ (List.mem_append_right _ (List.mem_append_left _ (List.mem_of_getElem? (i := 167) rfl : _ ∈ tables_1_2)))
theorem wi2 : Cond.instantiable RX2 12 ∈ lw_tbl := List.mem_append_right _ (List.mem_append_right _ (List.mem_append_left _ (List.mem_of_getElem? (i := 192) rfl : _ ∈ tables_1_2)))
theorem wi3 : Cond.instantiable RX3 8 ∈ lw_tbl := List.mem_append_right _ (List.mem_append_left _ (List.mem_of_getElem? (i := 209) rfl : _ ∈ tables_1_1))
theorem wi4 : Cond.instantiable RX4 6 ∈ lw_tbl := List.mem_append_right _ (List.mem_append_right _ (List.mem_append_left _ (List.mem_of_getElem? (i := 142) rfl : _ ∈ tables_1_2)))
theorem wi5 : Cond.instantiable RX5 3 ∈ lw_tbl := List.mem_append_right _ (List.mem_append_left _ (List.mem_of_getElem? (i := 193) rfl : _ ∈ tables_1_1))
theorem wi6 : Cond.instantiable RX6 9 ∈ lw_tbl := List.mem_append_right _ (List.mem_append_right _ (List.mem_append_left _ (List.mem_of_getElem? (i := 108) rfl : _ ∈ tables_1_2)))
theorem wi7 : Cond.instantiable RX7 1 ∈ lw_tbl := List.mem_append_right _ (List.mem_append_left _ (List.mem_of_getElem? (i := 125) rfl : _ ∈ tables_1_1))
theorem wi8 : Cond.instantiable RX8 12 ∈ lw_tbl := List.mem_append_right _ (List.mem_append_right _ (List.mem_append_left _ (List.mem_of_getElem? (i := 0) rfl : _ ∈ tables_1_2)))
theorem wi9 : Cond.instantiable RX9 15 ∈ lw_tbl := List.mem_append_right _ (List.mem_append_left _ (List.mem_of_getElem? (i := 135) rfl : _ ∈ tables_1_1))
theorem wi10 : Cond.instantiable RX10 4 ∈ lw_tbl := List.mem_append_right _ (List.mem_append_right _ (List.mem_append_left _ (List.mem_of_getElem? (i := 235) rfl : _ ∈ tables_1_2)))
theorem wi11 : Cond.instantiable RX11 16 ∈ lw_tbl := List.mem_append_right _ (List.mem_append_left _ (List.mem_of_getElem? (i := 28) rfl : _ ∈ tables_1_1))
theorem wi12 : Cond.instantiable RX12 65 ∈ lw_tbl := List.mem_append_right _ (List.mem_append_right _ (List.mem_append_right _ (List.mem_append_right _ (List.mem_append_right _ (List.mem_append_right _ (List.mem_append_right _ (List.mem_append_left _ (List.mem_of_getElem? (i := 209) rfl : _ ∈ tables_1_7))))))))
set_option maxHeartbeats 4000000 in
theorem lw_ctx {p : Program} {s : State} {m : MethodId} {meth : Method} {c : Code} {b L : Nat} {xs : Nat → Int32} (C0 : lw_At p s m meth c b L xs) : ∃ (D : va_G) (cyI cyJ : ClassId) (Z : xZ), Ctx p s m #[Value.ref b] c code 7 RL D cyI cyJ Z (fun q => s.heap.size ≤ q) := by
  obtain ⟨hx, hb, hr, hml, hown, hts0, hX, hbl, hlocks, hgv⟩ := id C0
  have hts : ∀ w ∈ G, w.before #[Value.ref b] s = true := fun w h => hts0 w (gG w h).1
  have hfl := flat_of_before _ hgv
  have hAn : ∀ a : Nat, a < s.heap.size → ¬ (fun q => s.heap.size ≤ q) a := fun a h => Nat.not_le.mpr h
  obtain ⟨c0, i0, hk0⟩ := u_known (C := RX0) (T := TX0) (N := 14) (n := 14) hts iX0 (hts0 _ wi0)
  obtain ⟨c1, i1, hk1⟩ := u_known (C := RX1) (T := TX1) (N := 6) (n := 6) hts iX1 (hts0 _ wi1)
  obtain ⟨c2, i2, hk2⟩ := u_known (C := RX2) (T := TX2) (N := 12) (n := 12) hts iX2 (hts0 _ wi2)
  obtain ⟨c3, i3, hk3⟩ := u_known (C := RX3) (T := TX3) (N := 8) (n := 8) hts iX3 (hts0 _ wi3)
  obtain ⟨c4, i4, hk4⟩ := u_known (C := RX4) (T := TX4) (N := 6) (n := 6) hts iX4 (hts0 _ wi4)
  obtain ⟨c5, i5, hk5⟩ := u_known (C := RX5) (T := TX5) (N := 3) (n := 3) hts iX5 (hts0 _ wi5)
  obtain ⟨c6, i6, hk6⟩ := u_known (C := RX6) (T := TX6) (N := 9) (n := 9) hts iX6 (hts0 _ wi6)
  obtain ⟨c7, i7, hk7⟩ := u_known (C := RX7) (T := TX7) (N := 1) (n := 1) hts iX7 (hts0 _ wi7)
  obtain ⟨c8, i8, hk8⟩ := u_known (C := RX8) (T := TX8) (N := 12) (n := 12) hts iX8 (hts0 _ wi8)
  obtain ⟨c9, i9, hk9⟩ := u_known (C := RX9) (T := TX9) (N := 15) (n := 15) hts iX9 (hts0 _ wi9)
  obtain ⟨c10, i10, hk10⟩ := u_known (C := RX10) (T := TX10) (N := 4) (n := 4) hts iX10 (hts0 _ wi10)
  obtain ⟨c11, i11, hk11⟩ := u_known (C := RX11) (T := TX11) (N := 16) (n := 16) hts iX11 (hts0 _ wi11)
  obtain ⟨c12, i12, hk12⟩ := u_known (C := RX12) (T := TX12) (N := 65) (n := 65) hts iX12 (hts0 _ wi12)
  have hch : ∀ k : Nat, ∃ z : ClassId × (Nat → Nat), ∀ q : vw_C, vwCl[k]? = some q → u_Kn s q.1 q.2.1 q.2.2 z.1 z.2 := by
    intro k
    match k with
    | 0 => exact ⟨(c0, i0), fun q hq => by cases hq; exact hk0⟩
    | 1 => exact ⟨(c1, i1), fun q hq => by cases hq; exact hk1⟩
    | 2 => exact ⟨(c2, i2), fun q hq => by cases hq; exact hk2⟩
    | 3 => exact ⟨(c3, i3), fun q hq => by cases hq; exact hk3⟩
    | 4 => exact ⟨(c4, i4), fun q hq => by cases hq; exact hk4⟩
    | 5 => exact ⟨(c5, i5), fun q hq => by cases hq; exact hk5⟩
    | 6 => exact ⟨(c6, i6), fun q hq => by cases hq; exact hk6⟩
    | 7 => exact ⟨(c7, i7), fun q hq => by cases hq; exact hk7⟩
    | 8 => exact ⟨(c8, i8), fun q hq => by cases hq; exact hk8⟩
    | 9 => exact ⟨(c9, i9), fun q hq => by cases hq; exact hk9⟩
    | 10 => exact ⟨(c10, i10), fun q hq => by cases hq; exact hk10⟩
    | 11 => exact ⟨(c11, i11), fun q hq => by cases hq; exact hk11⟩
    | 12 => exact ⟨(c12, i12), fun q hq => by cases hq; exact hk12⟩
    | k + 13 => exact ⟨(c0, i0), fun q hq => by simp [vwCl] at hq⟩
  obtain ⟨z, hz⟩ := Classical.axiomOfChoice hch
  obtain ⟨cyI, kI, mI, hI1, hI2, hI3⟩ := Cond.arrayClass_spec (args := #[Value.ref b]) (first := s) (o := none) (s := s) (idx := []) (hts _ wq3)
  obtain ⟨cyJ, kJ, mJ, hJ1, hJ2, hJ3⟩ := Cond.arrayClass_spec (args := #[Value.ref b]) (first := s) (o := none) (s := s) (idx := []) (hts _ wq171)
  have hK : va_K (fun k => (z k).1, fun k => (z k).2) vwCl (xTys cyI cyJ) s := by
    refine ⟨fun k q h => hz k q h, fun k q h => ?_⟩
    match k, h with
    | 0, h => cases h; exact ⟨fun n z => ⟨fun k h => (by cases h), kI, hI2, mI, hI3⟩, hI1⟩
    | 1, h => cases h; exact ⟨fun n z => ⟨fun k h => (by cases h), kJ, hJ2, mJ, hJ3⟩, hJ1⟩
    | k + 2, h => simp [xTys] at h
  obtain ⟨adK, adV, hSt, hEv⟩ := vk_Sof (N := 1) (tm := fun _ => .string "TenRules$Tokens" 27) (len := [118]) (byt := [xB]) (A := fun q => s.heap.size ≤ q) (args := #[Value.ref b]) (s := s) (fun i hi => by rw [show i = 0 by omega]; decide) (fun i _ => hfl _ wfW1) (fun i _ => hfl _ wfW2) (fun i _ => hfl _ wfW3) (fun i hi => by rw [show i = 0 by omega]; exact hfl _ wfW4) (fun i hi j hj => by rw [show i = 0 by omega] at hj ⊢; exact hfl _ (wfW5 j hj)) (fun i j hi hj hij => by omega) hAn
  obtain ⟨s1, s2, s3, s4⟩ := hSt.1 0 (by decide)
  exact ⟨(fun k => (z k).1, fun k => (z k).2), cyI, cyJ, (adK 0, adV 0, fun j => xB.getD j 0), ⟨hx, hb, hml, hown, hts⟩, hK, ⟨List.forall_mem_cons.mpr ⟨va_Nw.of rfl (hts0 _ wn0), List.forall_mem_cons.mpr ⟨va_Nw.of rfl (hts0 _ wn1), List.forall_mem_cons.mpr ⟨va_Nw.of rfl (hts0 _ wn2), List.forall_mem_cons.mpr ⟨va_Nw.of rfl (hts0 _ wn3), List.forall_mem_cons.mpr ⟨va_Nw.of rfl (hts0 _ wn4), List.forall_mem_cons.mpr ⟨va_Nw.of rfl (hts0 _ wn5), List.forall_mem_cons.mpr ⟨va_Nw.of rfl (hts0 _ wn6), List.forall_mem_cons.mpr ⟨va_Nw.of rfl (hts0 _ wn7), List.forall_mem_cons.mpr ⟨va_Nw.of rfl (hts0 _ wn8), List.forall_mem_cons.mpr ⟨va_Nw.of rfl (hts0 _ wn9), List.forall_mem_cons.mpr ⟨va_Nw.of rfl (hts0 _ wn10), List.forall_mem_cons.mpr ⟨va_Nw.of rfl (hts0 _ wn11), fun _ h => absurd h List.not_mem_nil⟩⟩⟩⟩⟩⟩⟩⟩⟩⟩⟩⟩, List.forall_mem_cons.mpr ⟨lw_str (hts0 _ ws0) (hfl _ wf0), List.forall_mem_cons.mpr ⟨lw_str (hts0 _ ws1) (hfl _ wf1), List.forall_mem_cons.mpr ⟨lw_str (hts0 _ ws2) (hfl _ wf2), List.forall_mem_cons.mpr ⟨lw_str (hts0 _ ws3) (hfl _ wf3), List.forall_mem_cons.mpr ⟨lw_str (hts0 _ ws4) (hfl _ wf4), List.forall_mem_cons.mpr ⟨lw_str (hts0 _ ws5) (hfl _ wf5), List.forall_mem_cons.mpr ⟨lw_str (hts0 _ ws6) (hfl _ wf6), List.forall_mem_cons.mpr ⟨lw_str (hts0 _ ws7) (hfl _ wf7), List.forall_mem_cons.mpr ⟨lw_str (hts0 _ ws8) (hfl _ wf8), List.forall_mem_cons.mpr ⟨lw_str (hts0 _ ws9) (hfl _ wf9), List.forall_mem_cons.mpr ⟨lw_str (hts0 _ ws10) (hfl _ wf10), List.forall_mem_cons.mpr ⟨lw_str (hts0 _ ws11) (hfl _ wf11), List.forall_mem_cons.mpr ⟨lw_str (hts0 _ ws12) (hfl _ wf12), List.forall_mem_cons.mpr ⟨lw_str (hts0 _ ws13) (hfl _ wf13), List.forall_mem_cons.mpr ⟨lw_str (hts0 _ ws14) (hfl _ wf14), List.forall_mem_cons.mpr ⟨lw_str (hts0 _ ws15) (hfl _ wf15), List.forall_mem_cons.mpr ⟨lw_str (hts0 _ ws16) (hfl _ wf16), List.forall_mem_cons.mpr ⟨lw_str (hts0 _ ws17) (hfl _ wf17), fun _ h => absurd h List.not_mem_nil⟩⟩⟩⟩⟩⟩⟩⟩⟩⟩⟩⟩⟩⟩⟩⟩⟩⟩, va_Nw.of rfl (hts0 _ wcN), va_Nw.of rfl (hts0 _ wd1), va_Nw.of rfl (hts0 _ wd2), va_Nw.of rfl (hts0 _ wd3)⟩, ⟨vk_R.of (hts0 _ wsW) (hEv 0 (by decide)), s1, s2, s3, s4⟩, va_Zof (hts0 _ wlZ1) (hts0 _ wiZ1) (va_eqt (hfl _ wfZ1)) hAn, vx_Zqof (hts0 _ wlZ2) (hts0 _ wiZ2) (hfl _ wfZ2) hAn, vx_Zqof (hts0 _ wlZ3) (hts0 _ wiZ3) (hfl _ wfZ3) hAn, va_Zqof (hts0 _ wlZ4) (hts0 _ wiZ4) (hfl _ wfZ4) hAn⟩
