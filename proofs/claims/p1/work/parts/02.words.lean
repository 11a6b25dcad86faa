/-- a private method of a class that the tables say can be made, by its rows of tables_1 -/
def lw_okq (q : MethodName × Nat) : Prop := (q.1.cls ≠ "java/lang/invoke/MethodHandle" ∧ q.1.cls ≠ "java/lang/invoke/VarHandle") ∧ Cond.instantiable q.1.cls q.2 ∈ tables_1 ∧ Cond.privateMethod q.1 ∈ tables_1 ∧ Cond.instanceMethod q.1 ∈ tables_1
theorem lw_p0 : lw_okq (⟨"TenRules", "opens", "(I)Z"⟩, 16) := ⟨⟨by decide +kernel, by decide +kernel⟩, List.mem_of_getElem? (i := 28) (by decide +kernel), List.mem_of_getElem? (i := 556) (by decide +kernel), List.mem_of_getElem? (i := 557) (by decide +kernel)⟩
def lw_privs : List (MethodName × Nat) := [(⟨"TenRules", "opens", "(I)Z"⟩, 16)]
def lw_tbl : List Cond := k2_sels lw_privs ++ tables_1
theorem lw_privs_ok : ∀ q ∈ lw_privs, lw_okq q := List.forall_mem_cons.mpr ⟨lw_p0, fun _ h => absurd h List.not_mem_nil⟩
theorem goodIn_r {big : List Cond} (ws : List Cond) (ps : List Nat) (hp : ws = ps.filterMap (fun i => big[i]?)) (h : ws.all goodWord = true) : GoodIn big ws := by
  intro w hw
  have h1 := List.all_eq_true.mp h w hw
  rw [hp] at hw
  obtain ⟨i, -, hi⟩ := List.mem_filterMap.mp hw
  have hm : w ∈ big := by first | exact List.mem_of_getElem? hi | exact List.getElem?_mem hi
  exact ⟨hm, good_of_word h1⟩
theorem goodIn_app {big a b : List Cond} (ha : GoodIn big a) (hb : GoodIn big b) : GoodIn big (a ++ b) := fun w h => (List.mem_append.mp h).elim (ha w) (hb w)
def gW0 : List Cond := [.fieldLink RX8 76 "TenRules$Tokens" "fault" "I", .fieldLink RX8 79 "TenRules$Tokens" "faultPlace" "I", .fieldLink RX8 88 "TenRules$Tokens" "kind" "I", .selects RX11 yX11_opens yX11_opens, .code yX8_refuse cX8_refuse 3 (some .int), .initialized RX8]
def gL : List Cond := wsX00 ++ wsX10 ++ wsX20 ++ wsX30 ++ wsX40 ++ wsX50 ++ wsX60 ++ wsX70 ++ wsX80 ++ wsX90 ++ wsX100 ++ wsX110 ++ wsX120
def gK : List Cond := gW0
def G : List Cond := gK ++ gL
theorem q0 : (Cond.fieldLink RX8 76 "TenRules$Tokens" "fault" "I" : Cond) ∈ G := List.mem_append_left _ ((List.mem_of_getElem? (i := 0) rfl : _ ∈ gW0))
theorem q1 : (Cond.fieldLink RX8 79 "TenRules$Tokens" "faultPlace" "I" : Cond) ∈ G := List.mem_append_left _ ((List.mem_of_getElem? (i := 1) rfl : _ ∈ gW0))
theorem q2 : (Cond.fieldLink RX8 88 "TenRules$Tokens" "kind" "I" : Cond) ∈ G := List.mem_append_left _ ((List.mem_of_getElem? (i := 2) rfl : _ ∈ gW0))
theorem q3 : (Cond.selects RX11 yX11_opens yX11_opens : Cond) ∈ G := List.mem_append_left _ ((List.mem_of_getElem? (i := 3) rfl : _ ∈ gW0))
theorem q4 : (Cond.code yX8_refuse cX8_refuse 3 (some .int) : Cond) ∈ G := List.mem_append_left _ ((List.mem_of_getElem? (i := 4) rfl : _ ∈ gW0))
theorem q5 : (Cond.initialized RX8 : Cond) ∈ G := List.mem_append_left _ ((List.mem_of_getElem? (i := 5) rfl : _ ∈ gW0))
theorem iX0 : ∀ w ∈ u_ws RX0 TX0 14, w ∈ G := fun w h => List.mem_append_right _ (List.mem_append_left _ (List.mem_append_left _ (List.mem_append_left _ (List.mem_append_left _ (List.mem_append_left _ (List.mem_append_left _ (List.mem_append_left _ (List.mem_append_left _ (List.mem_append_left _ (List.mem_append_left _ (List.mem_append_left _ (List.mem_append_left _ (h)))))))))))))
theorem iX1 : ∀ w ∈ u_ws RX1 TX1 6, w ∈ G := fun w h => List.mem_append_right _ (List.mem_append_left _ (List.mem_append_left _ (List.mem_append_left _ (List.mem_append_left _ (List.mem_append_left _ (List.mem_append_left _ (List.mem_append_left _ (List.mem_append_left _ (List.mem_append_left _ (List.mem_append_left _ (List.mem_append_left _ (List.mem_append_right _ h))))))))))))
theorem iX2 : ∀ w ∈ u_ws RX2 TX2 12, w ∈ G := fun w h => List.mem_append_right _ (List.mem_append_left _ (List.mem_append_left _ (List.mem_append_left _ (List.mem_append_left _ (List.mem_append_left _ (List.mem_append_left _ (List.mem_append_left _ (List.mem_append_left _ (List.mem_append_left _ (List.mem_append_left _ (List.mem_append_right _ h)))))))))))
theorem iX3 : ∀ w ∈ u_ws RX3 TX3 8, w ∈ G := fun w h => List.mem_append_right _ (List.mem_append_left _ (List.mem_append_left _ (List.mem_append_left _ (List.mem_append_left _ (List.mem_append_left _ (List.mem_append_left _ (List.mem_append_left _ (List.mem_append_left _ (List.mem_append_left _ (List.mem_append_right _ h))))))))))
theorem iX4 : ∀ w ∈ u_ws RX4 TX4 6, w ∈ G := fun w h => List.mem_append_right _ (List.mem_append_left _ (List.mem_append_left _ (List.mem_append_left _ (List.mem_append_left _ (List.mem_append_left _ (List.mem_append_left _ (List.mem_append_left _ (List.mem_append_left _ (List.mem_append_right _ h)))))))))
theorem iX5 : ∀ w ∈ u_ws RX5 TX5 3, w ∈ G := fun w h => List.mem_append_right _ (List.mem_append_left _ (List.mem_append_left _ (List.mem_append_left _ (List.mem_append_left _ (List.mem_append_left _ (List.mem_append_left _ (List.mem_append_left _ (List.mem_append_right _ h))))))))
theorem iX6 : ∀ w ∈ u_ws RX6 TX6 9, w ∈ G := fun w h => List.mem_append_right _ (List.mem_append_left _ (List.mem_append_left _ (List.mem_append_left _ (List.mem_append_left _ (List.mem_append_left _ (List.mem_append_left _ (List.mem_append_right _ h)))))))
theorem iX7 : ∀ w ∈ u_ws RX7 TX7 1, w ∈ G := fun w h => List.mem_append_right _ (List.mem_append_left _ (List.mem_append_left _ (List.mem_append_left _ (List.mem_append_left _ (List.mem_append_left _ (List.mem_append_right _ h))))))
theorem iX8 : ∀ w ∈ u_ws RX8 TX8 12, w ∈ G := fun w h => List.mem_append_right _ (List.mem_append_left _ (List.mem_append_left _ (List.mem_append_left _ (List.mem_append_left _ (List.mem_append_right _ h)))))
theorem iX9 : ∀ w ∈ u_ws RX9 TX9 15, w ∈ G := fun w h => List.mem_append_right _ (List.mem_append_left _ (List.mem_append_left _ (List.mem_append_left _ (List.mem_append_right _ h))))
theorem iX10 : ∀ w ∈ u_ws RX10 TX10 4, w ∈ G := fun w h => List.mem_append_right _ (List.mem_append_left _ (List.mem_append_left _ (List.mem_append_right _ h)))
theorem iX11 : ∀ w ∈ u_ws RX11 TX11 16, w ∈ G := fun w h => List.mem_append_right _ (List.mem_append_left _ (List.mem_append_right _ h))
theorem iX12 : ∀ w ∈ u_ws RX12 TX12 65, w ∈ G := fun w h => List.mem_append_right _ (List.mem_append_right _ h)
set_option maxRecDepth 20000 in
theorem gI0 : GoodIn lw_tbl gW0 := goodIn_r _ [318, 320, 310, 0, 674, 11] (by decide +kernel) (by decide +kernel)
set_option maxRecDepth 20000 in
theorem gJ0 : GoodIn lw_tbl wsX00 := goodIn_r _ [95, 97, 99, 101, 103, 105, 107, 109, 111, 113, 115, 117, 119, 121] (by decide +kernel) (by decide +kernel)
set_option maxRecDepth 20000 in
theorem gJ1 : GoodIn lw_tbl wsX10 := goodIn_r _ [419, 421, 423, 425, 427, 429] (by decide +kernel) (by decide +kernel)
set_option maxRecDepth 20000 in
theorem gJ2 : GoodIn lw_tbl wsX20 := goodIn_r _ [450, 452, 454, 456, 458, 460, 462, 464, 466, 468, 470, 472] (by decide +kernel) (by decide +kernel)
set_option maxRecDepth 20000 in
theorem gJ3 : GoodIn lw_tbl wsX30 := goodIn_r _ [223, 225, 227, 229, 231, 233, 235, 237] (by decide +kernel) (by decide +kernel)
set_option maxRecDepth 20000 in
theorem gJ4 : GoodIn lw_tbl wsX40 := goodIn_r _ [394, 396, 398, 400, 402, 404] (by decide +kernel) (by decide +kernel)
set_option maxRecDepth 20000 in
theorem gJ5 : GoodIn lw_tbl wsX50 := goodIn_r _ [202, 204, 206] (by decide +kernel) (by decide +kernel)
set_option maxRecDepth 20000 in
theorem gJ6 : GoodIn lw_tbl wsX60 := goodIn_r _ [363, 365, 367, 369, 371, 373, 375, 377, 379] (by decide +kernel) (by decide +kernel)
set_option maxRecDepth 20000 in
theorem gJ7 : GoodIn lw_tbl wsX70 := goodIn_r _ [132] (by decide +kernel) (by decide +kernel)
set_option maxRecDepth 20000 in
theorem gJ8 : GoodIn lw_tbl wsX80 := goodIn_r _ [322, 324, 326, 328, 330, 332, 334, 336, 338, 340, 342, 344] (by decide +kernel) (by decide +kernel)
set_option maxRecDepth 20000 in
theorem gJ9 : GoodIn lw_tbl wsX90 := goodIn_r _ [162, 164, 166, 168, 170, 172, 174, 176, 178, 180, 182, 184, 186, 188, 190] (by decide +kernel) (by decide +kernel)
set_option maxRecDepth 20000 in
theorem gJ10 : GoodIn lw_tbl wsX100 := goodIn_r _ [486, 488, 490, 492] (by decide +kernel) (by decide +kernel)
set_option maxRecDepth 20000 in
theorem gJ11 : GoodIn lw_tbl wsX110 := goodIn_r _ [511, 513, 515, 517, 519, 521, 523, 525, 527, 529, 531, 533, 535, 537, 539, 541] (by decide +kernel) (by decide +kernel)
set_option maxRecDepth 20000 in
theorem gJ12 : GoodIn lw_tbl wsX120 := goodIn_r _ [1723, 1725, 1727, 1729, 1731, 1733, 1735, 1737, 1739, 1741, 1743, 1745, 1747, 1749, 1751, 1753, 1755, 1757, 1759, 1761, 1763, 1765, 1767, 1769, 1771, 1773, 1775, 1777, 1779, 1781, 1783, 1785, 1787, 1789, 1791, 1793, 1795, 1797, 1799, 1801, 1803, 1805, 1807, 1809, 1811, 1813, 1815, 1817, 1819, 1821, 1823, 1825, 1827, 1829, 1831, 1833, 1835, 1837, 1839, 1841, 1843, 1845, 1847, 1849, 1851] (by decide +kernel) (by decide +kernel)
theorem gG : GoodIn lw_tbl G := goodIn_app gI0 (goodIn_app (goodIn_app (goodIn_app (goodIn_app (goodIn_app (goodIn_app (goodIn_app (goodIn_app (goodIn_app (goodIn_app (goodIn_app (goodIn_app gJ0 gJ1) gJ2) gJ3) gJ4) gJ5) gJ6) gJ7) gJ8) gJ9) gJ10) gJ11) gJ12)
def xNestL : List (String × Nat × String × String × String × String) := [(RX11, 154, "TenRules$Told", "varCount", "I", "TenRules")]
theorem qn0 : (RX11, 154, "TenRules$Told", "varCount", "I", "TenRules") ∈ xNestL := List.mem_of_getElem? (i := 0) rfl
def xStrL : List (String × Nat × String) := [(RX12, 186, "var")]
theorem qs0 : (RX12, 186, "var") ∈ xStrL := List.mem_of_getElem? (i := 0) rfl
