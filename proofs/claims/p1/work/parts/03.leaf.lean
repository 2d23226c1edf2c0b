theorem la_1 (p0 : Int32) (p1 : Int32) (c_1 : p0 < 0) : p0 < 0 ∨ ¬ p0 < p1 := by
  (try simp only [gb_okD, gb_okG, gb_okW, gb_days, gb_in, gb_lt, gb_le, gb_eq, gb_l0, gb_l1, gb_l2, gb_l3, gb_l4, gb_l5, gb_l10, gb_l19, gb_l20, gb_l40, gb_l60, gb_l1000, gb_l1500, gb_lm1, gb_l65536, true_and, and_true, false_and, and_false, true_or, or_true, false_or, or_false, not_true_eq_false, not_false_eq_true, ne_eq] at *) <;> omega
theorem la_2 (p0 : Int32) (p1 : Int32) (c_1 : ¬ p0 < 0) (c_2 : p0 < p1) : ¬ p0 < 0 ∧ p0 < p1 := by
  (try simp only [gb_okD, gb_okG, gb_okW, gb_days, gb_in, gb_lt, gb_le, gb_eq, gb_l0, gb_l1, gb_l2, gb_l3, gb_l4, gb_l5, gb_l10, gb_l19, gb_l20, gb_l40, gb_l60, gb_l1000, gb_l1500, gb_lm1, gb_l65536, true_and, and_true, false_and, and_false, true_or, or_true, false_or, or_false, not_true_eq_false, not_false_eq_true, ne_eq] at *) <;> omega
theorem la_3 (p0 : Int32) (p1 : Int32) (c_1 : ¬ p0 < 0) (c_2 : ¬ p0 < p1) : p0 < 0 ∨ ¬ p0 < p1 := by
  (try simp only [gb_okD, gb_okG, gb_okW, gb_days, gb_in, gb_lt, gb_le, gb_eq, gb_l0, gb_l1, gb_l2, gb_l3, gb_l4, gb_l5, gb_l10, gb_l19, gb_l20, gb_l40, gb_l60, gb_l1000, gb_l1500, gb_lm1, gb_l65536, true_and, and_true, false_and, and_false, true_or, or_true, false_or, or_false, not_true_eq_false, not_false_eq_true, ne_eq] at *) <;> omega
set_option maxHeartbeats 4000000 in
set_option maxRecDepth 100000 in
theorem c_X5_requireIndex (l : Launch) (hl9 : l.stackTraces = false) (kS : Nat → Nat) (tE : Nat) (dC : Nat → ClassId) (dI : Nat → Nat → Nat) (sz : Nat) (p0 : Int32) (p1 : Int32) : vx_Met l yX5_requireIndex wsX5_requireIndex ({ frames := 6, cells := 1, slots := 6, locals := 82 }) (va_Pc [.int p0, .int p1] (gb_Pw kS tE (gb_ro sz) (dC, dI) [] [] sz)) (va_Qv (fun _ : Unit => ¬ p0 < 0 ∧ p0 < p1) (fun _ _ => True) (gb_ro sz)) (vx_X (fun _ : Unit => True) (fun E _ _ => (E = "java/lang/IndexOutOfBoundsException" ∧ (p0 < 0 ∨ ¬ p0 < p1))) (gb_ro sz)) 1 6 (gb_ro sz) := by
  refine vx_ofW (cc := cX5_requireIndex) (maxL := 2) (ret := none) (by decide) rfl ?_
  intro p e s m args below meth c s₁ B hml hno hv
  obtain ⟨rfl, hsz, hZT, hZ, hP, hK, hD0⟩ := hv
  have hx := B.exec
  have hb := B.bytes
  have hr := B.returns
  have hts := atoms_spec (ws := wsX5_requireIndex) B.pre
  have hown : s.vm.findClass RX5 = some m.cls := findClass_of_methodNamed B.named
  have hlocks := B.notSynchronized
  subst hsz
  have hD := hD0
  generalize hAe : gb_ro s.heap.size = A at hZ ⊢
  have hA : ∀ q : Nat, s.heap.size ≤ q → A q := fun q h => by rw [← hAe]; exact h
  have hS : va_S A s.heap s.heap [] := va_S.rf
  have hP : va_P (dC, dI) vwCl [] s.heap := hP
  have hl := lv_entry ([.int p0, .int p1]) (n := 2) (Nat.le_of_ble_eq_true rfl)
  rw [lg_entry_eq]
  generalize (lg_sl ([.int p0, .int p1]) ++ List.replicate (2 - (lg_sl ([.int p0, .int p1])).length) Slot.unset).toArray = ls at hl ⊢
  have hl : lv_has ls 2 [(0, .int p0), (1, .int p1)] := hl
  refine lv_iload_n hx hb dX5_requireIndex_0 rfl (lv_at hl 0 rfl) ?_
  refine lv_if_lt (tgt := 9) hx hb dX5_requireIndex_1 (by decide) (fun c_1 => ?_) (fun c_1 => ?_)
  · exact vx_throwS hx hb hl9 (own := RX5) (cls := "java/lang/IndexOutOfBoundsException") (text := "there is no such number") (names := ["java/lang/RuntimeException", "java/lang/Exception"]) hown (by decide +kernel) (by decide +kernel) (hts (.classLink RX5 194 "java/lang/IndexOutOfBoundsException") (by decide +kernel)) (hts (.initialized "java/lang/IndexOutOfBoundsException") (by decide +kernel)) hZT.2.2.2.2.2.2.1 (vx_hat (L := vx_atS RX5 198 "java/lang/IndexOutOfBoundsException" ["java/lang/RuntimeException", "java/lang/Exception"]) (B := [.castable "java/lang/IndexOutOfBoundsException" "java/lang/IndexOutOfBoundsException", .declares (gb_yx "java/lang/RuntimeException"), .declares (gb_yx "java/lang/Exception"), .declares (gb_yx "java/lang/Throwable")]) (fun w hw => hts w ((by decide +kernel : ∀ w ∈ (vx_atS RX5 198 "java/lang/IndexOutOfBoundsException" ["java/lang/RuntimeException", "java/lang/Exception"]).filter goodWord, w ∈ wsX5_requireIndex) w hw)) (by decide +kernel) (vx_c (va_Nw.use rfl hZT.1.1) (vx_c (va_Nw.use rfl hZT.2.1.1) (vx_c (va_Nw.use rfl hZT.2.1.2.1) (vx_c (va_Nw.use rfl hZT.2.1.2.2) vx_n))))) (by decide +kernel) hZ.1 hZ.2.1 hS (hl.1.trans hml.symm) dX5_requireIndex_9 dX5_requireIndex_12 dX5_requireIndex_13 dX5_requireIndex_15 dX5_requireIndex_18 (fun x h9 => (hno x h9).elim) (Nat.le_of_ble_eq_true rfl) (Nat.le_of_ble_eq_true rfl) (Nat.le_of_ble_eq_true rfl) (Nat.le_of_ble_eq_true rfl) hlocks (fun t ha hz hk => ⟨(), trivial, ⟨rfl, (la_1 p0 p1 c_1)⟩, gb_F hS hz hk⟩) hS.2.2 (Nat.le_of_ble_eq_true rfl) (Nat.le_of_ble_eq_true rfl)
  · refine lv_iload_n hx hb dX5_requireIndex_4 rfl (lv_at hl 0 rfl) ?_
    refine lv_iload_n hx hb dX5_requireIndex_5 rfl (lv_at hl 1 rfl) ?_
    refine lv_icmp_lt (tgt := 19) hx hb dX5_requireIndex_6 (by decide) (fun c_2 => ?_) (fun c_2 => ?_)
    · refine vx_ret ?_
      refine W.widen (k := 1) (n := 6) (Nat.le_of_ble_eq_true rfl) (Nat.le_of_ble_eq_true rfl) ?_
      exact W.vret hx hb hr (fun t ht hW => ⟨⟨(), rfl, (la_2 p0 p1 c_1 c_2), trivial⟩, hS.F ht⟩) hS.2.2 dX5_requireIndex_19
    · exact vx_throwS hx hb hl9 (own := RX5) (cls := "java/lang/IndexOutOfBoundsException") (text := "there is no such number") (names := ["java/lang/RuntimeException", "java/lang/Exception"]) hown (by decide +kernel) (by decide +kernel) (hts (.classLink RX5 194 "java/lang/IndexOutOfBoundsException") (by decide +kernel)) (hts (.initialized "java/lang/IndexOutOfBoundsException") (by decide +kernel)) hZT.2.2.2.2.2.2.1 (vx_hat (L := vx_atS RX5 198 "java/lang/IndexOutOfBoundsException" ["java/lang/RuntimeException", "java/lang/Exception"]) (B := [.castable "java/lang/IndexOutOfBoundsException" "java/lang/IndexOutOfBoundsException", .declares (gb_yx "java/lang/RuntimeException"), .declares (gb_yx "java/lang/Exception"), .declares (gb_yx "java/lang/Throwable")]) (fun w hw => hts w ((by decide +kernel : ∀ w ∈ (vx_atS RX5 198 "java/lang/IndexOutOfBoundsException" ["java/lang/RuntimeException", "java/lang/Exception"]).filter goodWord, w ∈ wsX5_requireIndex) w hw)) (by decide +kernel) (vx_c (va_Nw.use rfl hZT.1.1) (vx_c (va_Nw.use rfl hZT.2.1.1) (vx_c (va_Nw.use rfl hZT.2.1.2.1) (vx_c (va_Nw.use rfl hZT.2.1.2.2) vx_n))))) (by decide +kernel) hZ.1 hZ.2.1 hS (hl.1.trans hml.symm) dX5_requireIndex_9 dX5_requireIndex_12 dX5_requireIndex_13 dX5_requireIndex_15 dX5_requireIndex_18 (fun x h9 => (hno x h9).elim) (Nat.le_of_ble_eq_true rfl) (Nat.le_of_ble_eq_true rfl) (Nat.le_of_ble_eq_true rfl) (Nat.le_of_ble_eq_true rfl) hlocks (fun t ha hz hk => ⟨(), trivial, ⟨rfl, (la_3 p0 p1 c_1 c_2)⟩, gb_F hS hz hk⟩) hS.2.2 (Nat.le_of_ble_eq_true rfl) (Nat.le_of_ble_eq_true rfl)

theorem la_4 (p0 : Int32) (p1 : Int32) (p2 : Int32) (c_1 : p0 < p1) : p0 < p1 ∨ ¬ p0 ≤ p2 := by
  (try simp only [gb_okD, gb_okG, gb_okW, gb_days, gb_in, gb_lt, gb_le, gb_eq, gb_l0, gb_l1, gb_l2, gb_l3, gb_l4, gb_l5, gb_l10, gb_l19, gb_l20, gb_l40, gb_l60, gb_l1000, gb_l1500, gb_lm1, gb_l65536, true_and, and_true, false_and, and_false, true_or, or_true, false_or, or_false, not_true_eq_false, not_false_eq_true, ne_eq] at *) <;> omega
theorem la_5 (p0 : Int32) (p1 : Int32) (p2 : Int32) (c_1 : ¬ p0 < p1) (c_2 : p0 ≤ p2) : ¬ p0 < p1 ∧ p0 ≤ p2 := by
  (try simp only [gb_okD, gb_okG, gb_okW, gb_days, gb_in, gb_lt, gb_le, gb_eq, gb_l0, gb_l1, gb_l2, gb_l3, gb_l4, gb_l5, gb_l10, gb_l19, gb_l20, gb_l40, gb_l60, gb_l1000, gb_l1500, gb_lm1, gb_l65536, true_and, and_true, false_and, and_false, true_or, or_true, false_or, or_false, not_true_eq_false, not_false_eq_true, ne_eq] at *) <;> omega
theorem la_6 (p0 : Int32) (p1 : Int32) (p2 : Int32) (c_1 : ¬ p0 < p1) (c_2 : ¬ p0 ≤ p2) : p0 < p1 ∨ ¬ p0 ≤ p2 := by
  (try simp only [gb_okD, gb_okG, gb_okW, gb_days, gb_in, gb_lt, gb_le, gb_eq, gb_l0, gb_l1, gb_l2, gb_l3, gb_l4, gb_l5, gb_l10, gb_l19, gb_l20, gb_l40, gb_l60, gb_l1000, gb_l1500, gb_lm1, gb_l65536, true_and, and_true, false_and, and_false, true_or, or_true, false_or, or_false, not_true_eq_false, not_false_eq_true, ne_eq] at *) <;> omega
set_option maxHeartbeats 4000000 in
set_option maxRecDepth 100000 in
theorem c_X5_requireRange (l : Launch) (hl9 : l.stackTraces = false) (kS : Nat → Nat) (tE : Nat) (dC : Nat → ClassId) (dI : Nat → Nat → Nat) (sz : Nat) (p0 : Int32) (p1 : Int32) (p2 : Int32) : vx_Met l yX5_requireRange wsX5_requireRange ({ frames := 6, cells := 1, slots := 6, locals := 82 }) (va_Pc [.int p0, .int p1, .int p2] (gb_Pw kS tE (gb_ro sz) (dC, dI) [] [] sz)) (va_Qv (fun _ : Unit => ¬ p0 < p1 ∧ p0 ≤ p2) (fun _ _ => True) (gb_ro sz)) (vx_X (fun _ : Unit => True) (fun E _ _ => (E = "java/lang/IllegalArgumentException" ∧ (p0 < p1 ∨ ¬ p0 ≤ p2))) (gb_ro sz)) 1 6 (gb_ro sz) := by
  refine vx_ofW (cc := cX5_requireRange) (maxL := 3) (ret := none) (by decide) rfl ?_
  intro p e s m args below meth c s₁ B hml hno hv
  obtain ⟨rfl, hsz, hZT, hZ, hP, hK, hD0⟩ := hv
  have hx := B.exec
  have hb := B.bytes
  have hr := B.returns
  have hts := atoms_spec (ws := wsX5_requireRange) B.pre
  have hown : s.vm.findClass RX5 = some m.cls := findClass_of_methodNamed B.named
  have hlocks := B.notSynchronized
  subst hsz
  have hD := hD0
  generalize hAe : gb_ro s.heap.size = A at hZ ⊢
  have hA : ∀ q : Nat, s.heap.size ≤ q → A q := fun q h => by rw [← hAe]; exact h
  have hS : va_S A s.heap s.heap [] := va_S.rf
  have hP : va_P (dC, dI) vwCl [] s.heap := hP
  have hl := lv_entry ([.int p0, .int p1, .int p2]) (n := 3) (Nat.le_of_ble_eq_true rfl)
  rw [lg_entry_eq]
  generalize (lg_sl ([.int p0, .int p1, .int p2]) ++ List.replicate (3 - (lg_sl ([.int p0, .int p1, .int p2])).length) Slot.unset).toArray = ls at hl ⊢
  have hl : lv_has ls 3 [(0, .int p0), (1, .int p1), (2, .int p2)] := hl
  refine lv_iload_n hx hb dX5_requireRange_0 rfl (lv_at hl 0 rfl) ?_
  refine lv_iload_n hx hb dX5_requireRange_1 rfl (lv_at hl 1 rfl) ?_
  refine lv_icmp_lt (tgt := 10) hx hb dX5_requireRange_2 (by decide) (fun c_1 => ?_) (fun c_1 => ?_)
  · exact vx_throwS hx hb hl9 (own := RX5) (cls := "java/lang/IllegalArgumentException") (text := "an argument is out of its range") (names := ["java/lang/RuntimeException", "java/lang/Exception"]) hown (by decide +kernel) (by decide +kernel) (hts (.classLink RX5 108 "java/lang/IllegalArgumentException") (by decide +kernel)) (hts (.initialized "java/lang/IllegalArgumentException") (by decide +kernel)) hZT.2.2.2.2.2.2.2.1 (vx_hat (L := vx_atS RX5 112 "java/lang/IllegalArgumentException" ["java/lang/RuntimeException", "java/lang/Exception"]) (B := [.castable "java/lang/IllegalArgumentException" "java/lang/IllegalArgumentException", .declares (gb_yx "java/lang/RuntimeException"), .declares (gb_yx "java/lang/Exception"), .declares (gb_yx "java/lang/Throwable")]) (fun w hw => hts w ((by decide +kernel : ∀ w ∈ (vx_atS RX5 112 "java/lang/IllegalArgumentException" ["java/lang/RuntimeException", "java/lang/Exception"]).filter goodWord, w ∈ wsX5_requireRange) w hw)) (by decide +kernel) (vx_c (va_Nw.use rfl hZT.1.2) (vx_c (va_Nw.use rfl hZT.2.1.1) (vx_c (va_Nw.use rfl hZT.2.1.2.1) (vx_c (va_Nw.use rfl hZT.2.1.2.2) vx_n))))) (by decide +kernel) hZ.1 hZ.2.1 hS (hl.1.trans hml.symm) dX5_requireRange_10 dX5_requireRange_13 dX5_requireRange_14 dX5_requireRange_16 dX5_requireRange_19 (fun x h9 => (hno x h9).elim) (Nat.le_of_ble_eq_true rfl) (Nat.le_of_ble_eq_true rfl) (Nat.le_of_ble_eq_true rfl) (Nat.le_of_ble_eq_true rfl) hlocks (fun t ha hz hk => ⟨(), trivial, ⟨rfl, (la_4 p0 p1 p2 c_1)⟩, gb_F hS hz hk⟩) hS.2.2 (Nat.le_of_ble_eq_true rfl) (Nat.le_of_ble_eq_true rfl)
  · refine lv_iload_n hx hb dX5_requireRange_5 rfl (lv_at hl 0 rfl) ?_
    refine lv_iload_n hx hb dX5_requireRange_6 rfl (lv_at hl 2 rfl) ?_
    refine lv_icmp_le (tgt := 20) hx hb dX5_requireRange_7 (by decide) (fun c_2 => ?_) (fun c_2 => ?_)
    · refine vx_ret ?_
      refine W.widen (k := 1) (n := 6) (Nat.le_of_ble_eq_true rfl) (Nat.le_of_ble_eq_true rfl) ?_
      exact W.vret hx hb hr (fun t ht hW => ⟨⟨(), rfl, (la_5 p0 p1 p2 c_1 c_2), trivial⟩, hS.F ht⟩) hS.2.2 dX5_requireRange_20
    · exact vx_throwS hx hb hl9 (own := RX5) (cls := "java/lang/IllegalArgumentException") (text := "an argument is out of its range") (names := ["java/lang/RuntimeException", "java/lang/Exception"]) hown (by decide +kernel) (by decide +kernel) (hts (.classLink RX5 108 "java/lang/IllegalArgumentException") (by decide +kernel)) (hts (.initialized "java/lang/IllegalArgumentException") (by decide +kernel)) hZT.2.2.2.2.2.2.2.1 (vx_hat (L := vx_atS RX5 112 "java/lang/IllegalArgumentException" ["java/lang/RuntimeException", "java/lang/Exception"]) (B := [.castable "java/lang/IllegalArgumentException" "java/lang/IllegalArgumentException", .declares (gb_yx "java/lang/RuntimeException"), .declares (gb_yx "java/lang/Exception"), .declares (gb_yx "java/lang/Throwable")]) (fun w hw => hts w ((by decide +kernel : ∀ w ∈ (vx_atS RX5 112 "java/lang/IllegalArgumentException" ["java/lang/RuntimeException", "java/lang/Exception"]).filter goodWord, w ∈ wsX5_requireRange) w hw)) (by decide +kernel) (vx_c (va_Nw.use rfl hZT.1.2) (vx_c (va_Nw.use rfl hZT.2.1.1) (vx_c (va_Nw.use rfl hZT.2.1.2.1) (vx_c (va_Nw.use rfl hZT.2.1.2.2) vx_n))))) (by decide +kernel) hZ.1 hZ.2.1 hS (hl.1.trans hml.symm) dX5_requireRange_10 dX5_requireRange_13 dX5_requireRange_14 dX5_requireRange_16 dX5_requireRange_19 (fun x h9 => (hno x h9).elim) (Nat.le_of_ble_eq_true rfl) (Nat.le_of_ble_eq_true rfl) (Nat.le_of_ble_eq_true rfl) (Nat.le_of_ble_eq_true rfl) hlocks (fun t ha hz hk => ⟨(), trivial, ⟨rfl, (la_6 p0 p1 p2 c_1 c_2)⟩, gb_F hS hz hk⟩) hS.2.2 (Nat.le_of_ble_eq_true rfl) (Nat.le_of_ble_eq_true rfl)

theorem la_7 (p0 : Int32) (p1 : Int32) (hq0 : p0 < (0 : Int32) ∨ ¬ p0 ≤ (1000 : Int32)) : ¬ gb_days p0 p1 := by
  (try simp only [gb_okD, gb_okG, gb_okW, gb_days, gb_in, gb_lt, gb_le, gb_eq, gb_l0, gb_l1, gb_l2, gb_l3, gb_l4, gb_l5, gb_l10, gb_l19, gb_l20, gb_l40, gb_l60, gb_l1000, gb_l1500, gb_lm1, gb_l65536, true_and, and_true, false_and, and_false, true_or, or_true, false_or, or_false, not_true_eq_false, not_false_eq_true, ne_eq] at *) <;> omega
theorem la_8 (p0 : Int32) (p1 : Int32) (w_2 : ¬ p0 < (0 : Int32) ∧ p0 ≤ (1000 : Int32)) (c_3 : p1 = (-1)) : gb_days p0 p1 := by
  (try simp only [gb_okD, gb_okG, gb_okW, gb_days, gb_in, gb_lt, gb_le, gb_eq, gb_l0, gb_l1, gb_l2, gb_l3, gb_l4, gb_l5, gb_l10, gb_l19, gb_l20, gb_l40, gb_l60, gb_l1000, gb_l1500, gb_lm1, gb_l65536, true_and, and_true, false_and, and_false, true_or, or_true, false_or, or_false, not_true_eq_false, not_false_eq_true, ne_eq] at *) <;> omega
theorem la_9 (p0 : Int32) (p1 : Int32) (w_2 : ¬ p0 < (0 : Int32) ∧ p0 ≤ (1000 : Int32)) (c_3 : ¬ p1 = (-1)) (hq0 : p1 < p0 ∨ ¬ p1 ≤ (1000 : Int32)) : ¬ gb_days p0 p1 := by
  (try simp only [gb_okD, gb_okG, gb_okW, gb_days, gb_in, gb_lt, gb_le, gb_eq, gb_l0, gb_l1, gb_l2, gb_l3, gb_l4, gb_l5, gb_l10, gb_l19, gb_l20, gb_l40, gb_l60, gb_l1000, gb_l1500, gb_lm1, gb_l65536, true_and, and_true, false_and, and_false, true_or, or_true, false_or, or_false, not_true_eq_false, not_false_eq_true, ne_eq] at *) <;> omega
theorem la_10 (p0 : Int32) (p1 : Int32) (w_2 : ¬ p0 < (0 : Int32) ∧ p0 ≤ (1000 : Int32)) (c_3 : ¬ p1 = (-1)) (w_5 : ¬ p1 < p0 ∧ p1 ≤ (1000 : Int32)) : gb_days p0 p1 := by
  (try simp only [gb_okD, gb_okG, gb_okW, gb_days, gb_in, gb_lt, gb_le, gb_eq, gb_l0, gb_l1, gb_l2, gb_l3, gb_l4, gb_l5, gb_l10, gb_l19, gb_l20, gb_l40, gb_l60, gb_l1000, gb_l1500, gb_lm1, gb_l65536, true_and, and_true, false_and, and_false, true_or, or_true, false_or, or_false, not_true_eq_false, not_false_eq_true, ne_eq] at *) <;> omega
set_option maxHeartbeats 4000000 in
set_option maxRecDepth 100000 in
theorem c_X5_requireDays (l : Launch) (hl9 : l.stackTraces = false) (kS : Nat → Nat) (tE : Nat) (dC : Nat → ClassId) (dI : Nat → Nat → Nat) (sz : Nat) (p0 : Int32) (p1 : Int32) : vx_Met l yX5_requireDays wsX5_requireDays ({ frames := 7, cells := 2, slots := 12, locals := 104 }) (va_Pc [.int p0, .int p1] (gb_Pw kS tE (gb_ro sz) (dC, dI) [] [] sz)) (va_Qv (fun _ : Unit => gb_days p0 p1) (fun _ _ => True) (gb_ro sz)) (vx_X (fun _ : Unit => True) (fun E _ _ => (E = "java/lang/IllegalArgumentException" ∧ (¬ gb_days p0 p1))) (gb_ro sz)) 2 12 (gb_ro sz) := by
  refine vx_ofW (cc := cX5_requireDays) (maxL := 2) (ret := none) (by decide) rfl ?_
  intro p e s m args below meth c s₁ B hml hno hv
  obtain ⟨rfl, hsz, hZT, hZ, hP, hK, hD0⟩ := hv
  have hx := B.exec
  have hb := B.bytes
  have hr := B.returns
  have hts := atoms_spec (ws := wsX5_requireDays) B.pre
  have hown : s.vm.findClass RX5 = some m.cls := findClass_of_methodNamed B.named
  have hlocks := B.notSynchronized
  subst hsz
  have hD := hD0
  generalize hAe : gb_ro s.heap.size = A at hZ ⊢
  have hA : ∀ q : Nat, s.heap.size ≤ q → A q := fun q h => by rw [← hAe]; exact h
  have hS : va_S A s.heap s.heap [] := va_S.rf
  have hP : va_P (dC, dI) vwCl [] s.heap := hP
  have hl := lv_entry ([.int p0, .int p1]) (n := 2) (Nat.le_of_ble_eq_true rfl)
  rw [lg_entry_eq]
  generalize (lg_sl ([.int p0, .int p1]) ++ List.replicate (2 - (lg_sl ([.int p0, .int p1])).length) Slot.unset).toArray = ls at hl ⊢
  have hl : lv_has ls 2 [(0, .int p0), (1, .int p1)] := hl
  refine lv_iload_n hx hb dX5_requireDays_0 rfl (lv_at hl 0 rfl) ?_
  refine lv_iconst (v := 0) hx hb dX5_requireDays_1 (by decide) ?_
  refine lv_sipush (v := 1000) hx hb dX5_requireDays_2 (by decide) ?_
  have hFc := gb_free hA hS
  refine vx_callv (vx_runS (As := [.int p0, .int 0, .int 1000]) (rest := []) ⟨hx, hb, hml, hown, hts⟩ (c_X5_requireRange l hl9 kS tE dC dI s.heap.size p0 (0 : Int32) (1000 : Int32)) (va_cwS 3 hts gX5_requireDays_X5_requireRange rfl rfl rfl (by decide +kernel) ⟨Nat.le_of_ble_eq_true rfl, Nat.le_of_ble_eq_true rfl⟩) (gb_preS hZT hZ hS hFc hP hD hK) rfl rfl hl.1 rfl (lv_room (Nat.le_of_ble_eq_true rfl)) dX5_requireDays_5 ⟨Nat.le_of_ble_eq_true rfl, Nat.le_of_ble_eq_true rfl⟩) hS (fun q _ h => hFc q h) hFc (fun q _ h => hFc q h) (fun E9 ce q9 u t H locs ht hvm hw hB hz1 hk1 hS hce hcv hcl => ?_) (fun u t H locs ht hvm hw hB hz1 hk1 hS => ?_)
  · obtain ⟨rfl, hq0⟩ := hB
    exact vx_out (fun x h9 => (hno x h9).elim) hlocks hce hcv hcl (fun t ht ha => ⟨(), trivial, ⟨rfl, (la_7 p0 p1 hq0)⟩, hS.F ht⟩) hS.2.2 (Nat.le_of_ble_eq_true rfl) (Nat.le_of_ble_eq_true rfl)
  · have w_2 := hw
    have hP := gb_keep hP hk1
    refine lv_iload_n hx hb dX5_requireDays_8 rfl (lv_at hl 1 rfl) ?_
    refine lv_iconst (v := (-1)) hx hb dX5_requireDays_9 (by decide) ?_
    refine lv_icmp_eq (tgt := 21) hx hb dX5_requireDays_10 (by decide) (fun c_3 => ?_) (fun c_3 => ?_)
    · refine vx_ret ?_
      refine W.widen (k := 2) (n := 12) (Nat.le_of_ble_eq_true rfl) (Nat.le_of_ble_eq_true rfl) ?_
      exact W.vret hx hb hr (fun t ht hW => ⟨⟨(), rfl, (la_8 p0 p1 w_2 c_3), trivial⟩, hS.F ht⟩) hS.2.2 dX5_requireDays_21
    · refine lv_iload_n hx hb dX5_requireDays_13 rfl (lv_at hl 1 rfl) ?_
      refine lv_iload_n hx hb dX5_requireDays_14 rfl (lv_at hl 0 rfl) ?_
      refine lv_sipush (v := 1000) hx hb dX5_requireDays_15 (by decide) ?_
      have hFc := gb_free hA hS
      refine vx_callv (vx_runS (As := [.int p1, .int p0, .int 1000]) (rest := []) ⟨hx, hb, hml, hown, hts⟩ (c_X5_requireRange l hl9 kS tE dC dI H.size p1 p0 (1000 : Int32)) (va_cwS 3 hts gX5_requireDays_X5_requireRange rfl rfl rfl (by decide +kernel) ⟨Nat.le_of_ble_eq_true rfl, Nat.le_of_ble_eq_true rfl⟩) (gb_preS hZT hZ hS hFc hP hD hK) rfl rfl hl.1 rfl (lv_room (Nat.le_of_ble_eq_true rfl)) dX5_requireDays_18 ⟨Nat.le_of_ble_eq_true rfl, Nat.le_of_ble_eq_true rfl⟩) hS (fun q _ h => hFc q h) hFc (fun q _ h => hFc q h) (fun E9 ce q9 u t H locs ht hvm hw hB hz1 hk1 hS hce hcv hcl => ?_) (fun u t H locs ht hvm hw hB hz1 hk1 hS => ?_)
      · obtain ⟨rfl, hq0⟩ := hB
        exact vx_out (fun x h9 => (hno x h9).elim) hlocks hce hcv hcl (fun t ht ha => ⟨(), trivial, ⟨rfl, (la_9 p0 p1 w_2 c_3 hq0)⟩, hS.F ht⟩) hS.2.2 (Nat.le_of_ble_eq_true rfl) (Nat.le_of_ble_eq_true rfl)
      · have w_5 := hw
        have hP := gb_keep hP hk1
        refine vx_ret ?_
        refine W.widen (k := 2) (n := 12) (Nat.le_of_ble_eq_true rfl) (Nat.le_of_ble_eq_true rfl) ?_
        exact W.vret hx hb hr (fun t ht hW => ⟨⟨(), rfl, (la_10 p0 p1 w_2 c_3 w_5), trivial⟩, hS.F ht⟩) hS.2.2 dX5_requireDays_21

theorem la_11 (n : Int32) : n = n := by
  (try simp only [gb_okD, gb_okG, gb_okW, gb_days, gb_in, gb_lt, gb_le, gb_eq, gb_l0, gb_l1, gb_l2, gb_l3, gb_l4, gb_l5, gb_l10, gb_l19, gb_l20, gb_l40, gb_l60, gb_l1000, gb_l1500, gb_lm1, gb_l65536, true_and, and_true, false_and, and_false, true_or, or_true, false_or, or_false, not_true_eq_false, not_false_eq_true, ne_eq] at *) <;> omega
set_option maxHeartbeats 4000000 in
set_option maxRecDepth 100000 in
theorem c_Jx4a65c_size_8abf5 (l : Launch) (hl9 : l.stackTraces = false) (kS : Nat → Nat) (tE : Nat) (dC : Nat → ClassId) (dI : Nat → Nat → Nat) (sz : Nat) (a : Nat) (mo : Int32) (el : Nat) (n : Int32) : Met l yJx4a65c_size_8abf5 wsJx4a65c_size_8abf5 ({ frames := 0, cells := 0, slots := 0, locals := 0 }) (va_Pc [.ref a] (gb_Pw kS tE (gb_ro sz) (dC, dI) [] [(a, .inr (0, [.int mo, .ref el, .int n]))] sz)) (va_Qi (fun (r : Int32) (_ : Unit) => r = n) (fun _ _ => True) (gb_ro sz)) 0 0 (gb_ro sz) := by
  refine Met.ofW (cc := cJx4a65c_size_8abf5) (maxL := 1) (ret := (some .int)) (by decide) rfl ?_
  intro p e s m args below meth c s₁ B hml hv
  obtain ⟨rfl, hsz, hZT, hZ, hP, hK, hD0⟩ := hv
  have hx := B.exec
  have hb := B.bytes
  have hr := B.returns
  have hts := atoms_spec (ws := wsJx4a65c_size_8abf5) B.pre
  have hown : s.vm.findClass RJx4a65c = some m.cls := findClass_of_methodNamed B.named
  have hlocks := B.notSynchronized
  subst hsz
  have hi0 : ∀ w ∈ u_ws RJx4a65c TJx4a65c 3, w ∈ wsJx4a65c_size_8abf5 := by decide +kernel
  have hD := hD0
  generalize hAe : gb_ro s.heap.size = A at hZ ⊢
  have hA : ∀ q : Nat, s.heap.size ≤ q → A q := fun q h => by rw [← hAe]; exact h
  have hS : va_S A s.heap s.heap [] := va_S.rf
  have hP : va_P (dC, dI) vwCl [(a, .inr (0, [.int mo, .ref el, .int n]))] s.heap := hP
  have hl := lv_entry ([.ref a]) (n := 1) (Nat.le_of_ble_eq_true rfl)
  rw [lg_entry_eq]
  generalize (lg_sl ([.ref a]) ++ List.replicate (1 - (lg_sl ([.ref a])).length) Slot.unset).toArray = ls at hl ⊢
  have hl : lv_has ls 1 [(0, .ref a)] := hl
  refine lv_aload_n hx hb dJx4a65c_size_8abf5_0 rfl (lv_at hl 0 rfl) ?_
  refine va_get (D := (dC, dI)) (ci := 0) (v := .int n) (C := RJx4a65c) (T := TJx4a65c) (N := 3) hx hb hts hi0 hown hK hP 0 rfl rfl 2 (by decide) (hts (.fieldLink RJx4a65c 48 "java/util/ArrayList" "size" "I") (by decide +kernel)) (fun _ h9 => h9) rfl dJx4a65c_size_8abf5_1 ?_
  refine W.widen (k := 0) (n := 0) (Nat.le_of_ble_eq_true rfl) (Nat.le_of_ble_eq_true rfl) ?_
  exact W.iret (v := n) hx hb hr (fun t ht hW => ⟨⟨n, (), rfl, (la_11 n), trivial⟩, hS.F ht⟩) hS.2.2 dJx4a65c_size_8abf5_4

theorem la_12 (p0 : Int32) (p1 : Int32) (h0 : ¬ p0 < 0) (h1 : p0 < p1) (c_1 : p0 < 0) : False := by
  (try simp only [gb_okD, gb_okG, gb_okW, gb_days, gb_in, gb_lt, gb_le, gb_eq, gb_l0, gb_l1, gb_l2, gb_l3, gb_l4, gb_l5, gb_l10, gb_l19, gb_l20, gb_l40, gb_l60, gb_l1000, gb_l1500, gb_lm1, gb_l65536, true_and, and_true, false_and, and_false, true_or, or_true, false_or, or_false, not_true_eq_false, not_false_eq_true, ne_eq] at *) <;> omega
theorem la_13 (p0 : Int32) (p1 : Int32) (h0 : ¬ p0 < 0) (h1 : p0 < p1) (c_1 : ¬ p0 < 0) (c_2 : p0 < p1) : p0 = p0 := by
  (try simp only [gb_okD, gb_okG, gb_okW, gb_days, gb_in, gb_lt, gb_le, gb_eq, gb_l0, gb_l1, gb_l2, gb_l3, gb_l4, gb_l5, gb_l10, gb_l19, gb_l20, gb_l40, gb_l60, gb_l1000, gb_l1500, gb_lm1, gb_l65536, true_and, and_true, false_and, and_false, true_or, or_true, false_or, or_false, not_true_eq_false, not_false_eq_true, ne_eq] at *) <;> omega
theorem la_14 (p0 : Int32) (p1 : Int32) (h0 : ¬ p0 < 0) (h1 : p0 < p1) (c_1 : ¬ p0 < 0) (c_2 : ¬ p0 < p1) : False := by
  (try simp only [gb_okD, gb_okG, gb_okW, gb_days, gb_in, gb_lt, gb_le, gb_eq, gb_l0, gb_l1, gb_l2, gb_l3, gb_l4, gb_l5, gb_l10, gb_l19, gb_l20, gb_l40, gb_l60, gb_l1000, gb_l1500, gb_lm1, gb_l65536, true_and, and_true, false_and, and_false, true_or, or_true, false_or, or_false, not_true_eq_false, not_false_eq_true, ne_eq] at *) <;> omega
set_option maxHeartbeats 4000000 in
set_option maxRecDepth 100000 in
theorem c_J3_checkIndex_8e157 (l : Launch) (hl9 : l.stackTraces = false) (kS : Nat → Nat) (tE : Nat) (dC : Nat → ClassId) (dI : Nat → Nat → Nat) (sz : Nat) (p0 : Int32) (p1 : Int32) (h0 : ¬ p0 < 0) (h1 : p0 < p1) : Met l yJ3_checkIndex_8e157 wsJ3_checkIndex_8e157 ({ frames := 0, cells := 0, slots := 0, locals := 0 }) (va_Pc [.int p0, .int p1, .null] (gb_Pw kS tE (gb_ro sz) (dC, dI) [] [] sz)) (va_Qi (fun (r : Int32) (_ : Unit) => r = p0) (fun _ _ => True) (gb_ro sz)) 0 0 (gb_ro sz) := by
  refine Met.ofW (cc := cJ3_checkIndex_8e157) (maxL := 3) (ret := (some .int)) (by decide) rfl ?_
  intro p e s m args below meth c s₁ B hml hv
  obtain ⟨rfl, hsz, hZT, hZ, hP, hK, hD0⟩ := hv
  have hx := B.exec
  have hb := B.bytes
  have hr := B.returns
  have hts := atoms_spec (ws := wsJ3_checkIndex_8e157) B.pre
  have hown : s.vm.findClass RJ3 = some m.cls := findClass_of_methodNamed B.named
  have hlocks := B.notSynchronized
  subst hsz
  have hD := hD0
  generalize hAe : gb_ro s.heap.size = A at hZ ⊢
  have hA : ∀ q : Nat, s.heap.size ≤ q → A q := fun q h => by rw [← hAe]; exact h
  have hS : va_S A s.heap s.heap [] := va_S.rf
  have hP : va_P (dC, dI) vwCl [] s.heap := hP
  have hl := lv_entry ([.int p0, .int p1, .null]) (n := 3) (Nat.le_of_ble_eq_true rfl)
  rw [lg_entry_eq]
  generalize (lg_sl ([.int p0, .int p1, .null]) ++ List.replicate (3 - (lg_sl ([.int p0, .int p1, .null])).length) Slot.unset).toArray = ls at hl ⊢
  have hl : lv_has ls 3 [(0, .int p0), (1, .int p1), (2, .null)] := hl
  refine lv_iload_n hx hb dJ3_checkIndex_8e157_0 rfl (lv_at hl 0 rfl) ?_
  refine lv_if_lt (tgt := 9) hx hb dJ3_checkIndex_8e157_1 (by decide) (fun c_1 => ?_) (fun c_1 => ?_)
  · exact (la_12 p0 p1 h0 h1 c_1).elim
  · refine lv_iload_n hx hb dJ3_checkIndex_8e157_4 rfl (lv_at hl 0 rfl) ?_
    refine lv_iload_n hx hb dJ3_checkIndex_8e157_5 rfl (lv_at hl 1 rfl) ?_
    refine lv_icmp_lt (tgt := 16) hx hb dJ3_checkIndex_8e157_6 (by decide) (fun c_2 => ?_) (fun c_2 => ?_)
    · refine lv_iload_n hx hb dJ3_checkIndex_8e157_16 rfl (lv_at hl 0 rfl) ?_
      refine W.widen (k := 0) (n := 0) (Nat.le_of_ble_eq_true rfl) (Nat.le_of_ble_eq_true rfl) ?_
      exact W.iret (v := p0) hx hb hr (fun t ht hW => ⟨⟨p0, (), rfl, (la_13 p0 p1 h0 h1 c_1 c_2), trivial⟩, hS.F ht⟩) hS.2.2 dJ3_checkIndex_8e157_17
    · exact (la_14 p0 p1 h0 h1 c_1 c_2).elim

theorem la_15 (p0 : Int32) (p1 : Int32) (h0 : ¬ p0 < 0) (h1 : p0 < p1) : ¬ p0 < 0 := by
  (try simp only [gb_okD, gb_okG, gb_okW, gb_days, gb_in, gb_lt, gb_le, gb_eq, gb_l0, gb_l1, gb_l2, gb_l3, gb_l4, gb_l5, gb_l10, gb_l19, gb_l20, gb_l40, gb_l60, gb_l1000, gb_l1500, gb_lm1, gb_l65536, true_and, and_true, false_and, and_false, true_or, or_true, false_or, or_false, not_true_eq_false, not_false_eq_true, ne_eq] at *) <;> omega
theorem la_16 (p0 : Int32) (p1 : Int32) (h0 : ¬ p0 < 0) (h1 : p0 < p1) : p0 < p1 := by
  (try simp only [gb_okD, gb_okG, gb_okW, gb_days, gb_in, gb_lt, gb_le, gb_eq, gb_l0, gb_l1, gb_l2, gb_l3, gb_l4, gb_l5, gb_l10, gb_l19, gb_l20, gb_l40, gb_l60, gb_l1000, gb_l1500, gb_lm1, gb_l65536, true_and, and_true, false_and, and_false, true_or, or_true, false_or, or_false, not_true_eq_false, not_false_eq_true, ne_eq] at *) <;> omega
theorem la_17 (p0 : Int32) (p1 : Int32) (r_1 : Int32) (h0 : ¬ p0 < 0) (h1 : p0 < p1) (w_2 : r_1 = p0) : r_1 = p0 := by
  (try simp only [gb_okD, gb_okG, gb_okW, gb_days, gb_in, gb_lt, gb_le, gb_eq, gb_l0, gb_l1, gb_l2, gb_l3, gb_l4, gb_l5, gb_l10, gb_l19, gb_l20, gb_l40, gb_l60, gb_l1000, gb_l1500, gb_lm1, gb_l65536, true_and, and_true, false_and, and_false, true_or, or_true, false_or, or_false, not_true_eq_false, not_false_eq_true, ne_eq] at *) <;> omega
set_option maxHeartbeats 4000000 in
set_option maxRecDepth 100000 in
theorem c_J15_checkIndex_7cf53 (l : Launch) (hl9 : l.stackTraces = false) (kS : Nat → Nat) (tE : Nat) (dC : Nat → ClassId) (dI : Nat → Nat → Nat) (sz : Nat) (p0 : Int32) (p1 : Int32) (h0 : ¬ p0 < 0) (h1 : p0 < p1) : Met l yJ15_checkIndex_7cf53 wsJ15_checkIndex_7cf53 ({ frames := 1, cells := 0, slots := 0, locals := 22 }) (va_Pc [.int p0, .int p1] (gb_Pw kS tE (gb_ro sz) (dC, dI) [] [] sz)) (va_Qi (fun (r : Int32) (_ : Unit) => r = p0) (fun _ _ => True) (gb_ro sz)) 0 0 (gb_ro sz) := by
  refine Met.ofW (cc := cJ15_checkIndex_7cf53) (maxL := 2) (ret := (some .int)) (by decide) rfl ?_
  intro p e s m args below meth c s₁ B hml hv
  obtain ⟨rfl, hsz, hZT, hZ, hP, hK, hD0⟩ := hv
  have hx := B.exec
  have hb := B.bytes
  have hr := B.returns
  have hts := atoms_spec (ws := wsJ15_checkIndex_7cf53) B.pre
  have hown : s.vm.findClass RJ15 = some m.cls := findClass_of_methodNamed B.named
  have hlocks := B.notSynchronized
  subst hsz
  have hD := hD0
  generalize hAe : gb_ro s.heap.size = A at hZ ⊢
  have hA : ∀ q : Nat, s.heap.size ≤ q → A q := fun q h => by rw [← hAe]; exact h
  have hS : va_S A s.heap s.heap [] := va_S.rf
  have hP : va_P (dC, dI) vwCl [] s.heap := hP
  have hl := lv_entry ([.int p0, .int p1]) (n := 2) (Nat.le_of_ble_eq_true rfl)
  rw [lg_entry_eq]
  generalize (lg_sl ([.int p0, .int p1]) ++ List.replicate (2 - (lg_sl ([.int p0, .int p1])).length) Slot.unset).toArray = ls at hl ⊢
  have hl : lv_has ls 2 [(0, .int p0), (1, .int p1)] := hl
  refine lv_iload_n hx hb dJ15_checkIndex_7cf53_0 rfl (lv_at hl 0 rfl) ?_
  refine lv_iload_n hx hb dJ15_checkIndex_7cf53_1 rfl (lv_at hl 1 rfl) ?_
  refine lv_null hx hb dJ15_checkIndex_7cf53_2 ?_
  have hFc := gb_free hA hS
  refine va_calli (va_runS (As := [.int p0, .int p1, .null]) (rest := []) ⟨hx, hb, hml, hown, hts⟩ (c_J3_checkIndex_8e157 l hl9 kS tE dC dI s.heap.size p0 p1 (la_15 p0 p1 h0 h1) (la_16 p0 p1 h0 h1)) (va_cwS 3 hts gJ15_checkIndex_7cf53_J3_checkIndex_8e157 rfl rfl rfl (by decide +kernel) ⟨Nat.le_of_ble_eq_true rfl, Nat.le_of_ble_eq_true rfl⟩) (gb_preS hZT hZ hS hFc hP hD hK) rfl rfl hl.1 rfl (lv_room (Nat.le_of_ble_eq_true rfl)) dJ15_checkIndex_7cf53_3 ⟨Nat.le_of_ble_eq_true rfl, Nat.le_of_ble_eq_true rfl⟩) hS (fun q _ h => hFc q h) hFc (fun r_1 u t H locs ht hvm hw hB hz1 hk1 hS => ?_)
  have hP := gb_keep hP hk1
  have w_2 := hw
  refine W.widen (k := 0) (n := 0) (Nat.le_of_ble_eq_true rfl) (Nat.le_of_ble_eq_true rfl) ?_
  exact W.iret (v := r_1) hx hb hr (fun t ht hW => ⟨⟨r_1, (), rfl, (la_17 p0 p1 r_1 h0 h1 w_2), trivial⟩, hS.F ht⟩) hS.2.2 dJ15_checkIndex_7cf53_6

set_option maxHeartbeats 4000000 in
set_option maxRecDepth 100000 in
theorem c_Jx4a65c_elementData_915e3 (l : Launch) (hl9 : l.stackTraces = false) (kS : Nat → Nat) (tE : Nat) (dC : Nat → ClassId) (dI : Nat → Nat → Nat) (sz : Nat) (a : Nat) (mo : Int32) (el : Nat) (n : Int32) (k : ClassId) (f : Nat → Option Nat) (p0 : Int32) (dd : Nat) (n_in : vp_in p0 10) (n_f : f p0.toNatClampNeg = some dd) : Met l yJx4a65c_elementData_915e3 wsJx4a65c_elementData_915e3 ({ frames := 0, cells := 0, slots := 0, locals := 0 }) (va_Pc [.ref a, .int p0] (gb_Pw kS tE (gb_ro sz) (dC, dI) [(k, .object "java/lang/Object")] [(a, .inr (0, [.int mo, .ref el, .int n])), (el, .inl (k, 10, .inr (.inr (.inr (.inr f)))))] sz)) (va_Qr (fun _ : Unit => True) (fun _ ra _ => ra = dd) (gb_ro sz)) 0 0 (gb_ro sz) := by
  refine Met.ofW (cc := cJx4a65c_elementData_915e3) (maxL := 2) (ret := (some (.object "java/lang/Object"))) (by decide) rfl ?_
  intro p e s m args below meth c s₁ B hml hv
  obtain ⟨rfl, hsz, hZT, hZ, hP, hK, hD0⟩ := hv
  have hx := B.exec
  have hb := B.bytes
  have hr := B.returns
  have hts := atoms_spec (ws := wsJx4a65c_elementData_915e3) B.pre
  have hown : s.vm.findClass RJx4a65c = some m.cls := findClass_of_methodNamed B.named
  have hlocks := B.notSynchronized
  subst hsz
  have hi0 : ∀ w ∈ u_ws RJx4a65c TJx4a65c 3, w ∈ wsJx4a65c_elementData_915e3 := by decide +kernel
  have hD := hD0
  generalize hAe : gb_ro s.heap.size = A at hZ ⊢
  have hA : ∀ q : Nat, s.heap.size ≤ q → A q := fun q h => by rw [← hAe]; exact h
  have hS : va_S A s.heap s.heap [] := va_S.rf
  have hP : va_P (dC, dI) vwCl [(a, .inr (0, [.int mo, .ref el, .int n])), (el, .inl (k, 10, .inr (.inr (.inr (.inr f)))))] s.heap := hP
  have hl := lv_entry ([.ref a, .int p0]) (n := 2) (Nat.le_of_ble_eq_true rfl)
  rw [lg_entry_eq]
  generalize (lg_sl ([.ref a, .int p0]) ++ List.replicate (2 - (lg_sl ([.ref a, .int p0])).length) Slot.unset).toArray = ls at hl ⊢
  have hl : lv_has ls 2 [(0, .ref a), (1, .int p0)] := hl
  refine lv_aload_n hx hb dJx4a65c_elementData_915e3_0 rfl (lv_at hl 0 rfl) ?_
  refine va_get (D := (dC, dI)) (ci := 0) (v := .ref el) (C := RJx4a65c) (T := TJx4a65c) (N := 3) hx hb hts hi0 hown hK hP 0 rfl rfl 1 (by decide) (hts (.fieldLink RJx4a65c 9 "java/util/ArrayList" "elementData" "[Ljava/lang/Object;") (by decide +kernel)) (fun _ h9 => h9) rfl dJx4a65c_elementData_915e3_1 ?_
  refine lv_iload_n hx hb dJx4a65c_elementData_915e3_4 rfl (lv_at hl 1 rfl) ?_
  refine va_aldq hx hb hK hP 1 0 rfl rfl n_in dJx4a65c_elementData_915e3_5 ?_
  rw [n_f]
  refine W.widen (k := 0) (n := 0) (Nat.le_of_ble_eq_true rfl) (Nat.le_of_ble_eq_true rfl) ?_
  exact W.aret (v := .ref dd) hx hb hr (Or.inl ⟨_, rfl⟩) (Or.inr ⟨_, rfl⟩) (fun t ht hW => ⟨⟨(), dd, rfl, trivial, rfl⟩, hS.F ht⟩) hS.2.2 dJx4a65c_elementData_915e3_6

theorem la_18 (n : Int32) (p0 : Int32) (h0 : ¬ p0 < 0) (h1 : p0 < n) : ¬ p0 < 0 := by
  (try simp only [gb_okD, gb_okG, gb_okW, gb_days, gb_in, gb_lt, gb_le, gb_eq, gb_l0, gb_l1, gb_l2, gb_l3, gb_l4, gb_l5, gb_l10, gb_l19, gb_l20, gb_l40, gb_l60, gb_l1000, gb_l1500, gb_lm1, gb_l65536, true_and, and_true, false_and, and_false, true_or, or_true, false_or, or_false, not_true_eq_false, not_false_eq_true, ne_eq] at *) <;> omega
theorem la_19 (n : Int32) (p0 : Int32) (h0 : ¬ p0 < 0) (h1 : p0 < n) : p0 < n := by
  (try simp only [gb_okD, gb_okG, gb_okW, gb_days, gb_in, gb_lt, gb_le, gb_eq, gb_l0, gb_l1, gb_l2, gb_l3, gb_l4, gb_l5, gb_l10, gb_l19, gb_l20, gb_l40, gb_l60, gb_l1000, gb_l1500, gb_lm1, gb_l65536, true_and, and_true, false_and, and_false, true_or, or_true, false_or, or_false, not_true_eq_false, not_false_eq_true, ne_eq] at *) <;> omega
set_option maxHeartbeats 4000000 in
set_option maxRecDepth 100000 in
theorem c_Jx4a65c_get_915e3 (l : Launch) (hl9 : l.stackTraces = false) (kS : Nat → Nat) (tE : Nat) (dC : Nat → ClassId) (dI : Nat → Nat → Nat) (sz : Nat) (a : Nat) (mo : Int32) (el : Nat) (n : Int32) (k : ClassId) (f : Nat → Option Nat) (p0 : Int32) (dd : Nat) (h0 : ¬ p0 < 0) (h1 : p0 < n) (n_in : vp_in p0 10) (n_f : f p0.toNatClampNeg = some dd) : Met l yJx4a65c_get_915e3 wsJx4a65c_get_915e3 ({ frames := 2, cells := 0, slots := 0, locals := 43 }) (va_Pc [.ref a, .int p0] (gb_Pw kS tE (gb_ro sz) (dC, dI) [(k, .object "java/lang/Object")] [(a, .inr (0, [.int mo, .ref el, .int n])), (el, .inl (k, 10, .inr (.inr (.inr (.inr f)))))] sz)) (va_Qr (fun _ : Unit => True) (fun _ ra _ => ra = dd) (gb_ro sz)) 0 0 (gb_ro sz) := by
  refine Met.ofW (cc := cJx4a65c_get_915e3) (maxL := 2) (ret := (some (.object "java/lang/Object"))) (by decide) rfl ?_
  intro p e s m args below meth c s₁ B hml hv
  obtain ⟨rfl, hsz, hZT, hZ, hP, hK, hD0⟩ := hv
  have hx := B.exec
  have hb := B.bytes
  have hr := B.returns
  have hts := atoms_spec (ws := wsJx4a65c_get_915e3) B.pre
  have hown : s.vm.findClass RJx4a65c = some m.cls := findClass_of_methodNamed B.named
  have hlocks := B.notSynchronized
  subst hsz
  have hi0 : ∀ w ∈ u_ws RJx4a65c TJx4a65c 3, w ∈ wsJx4a65c_get_915e3 := by decide +kernel
  have hD := hD0
  generalize hAe : gb_ro s.heap.size = A at hZ ⊢
  have hA : ∀ q : Nat, s.heap.size ≤ q → A q := fun q h => by rw [← hAe]; exact h
  have hS : va_S A s.heap s.heap [] := va_S.rf
  have hP : va_P (dC, dI) vwCl [(a, .inr (0, [.int mo, .ref el, .int n])), (el, .inl (k, 10, .inr (.inr (.inr (.inr f)))))] s.heap := hP
  have hl := lv_entry ([.ref a, .int p0]) (n := 2) (Nat.le_of_ble_eq_true rfl)
  rw [lg_entry_eq]
  generalize (lg_sl ([.ref a, .int p0]) ++ List.replicate (2 - (lg_sl ([.ref a, .int p0])).length) Slot.unset).toArray = ls at hl ⊢
  have hl : lv_has ls 2 [(0, .ref a), (1, .int p0)] := hl
  refine lv_iload_n hx hb dJx4a65c_get_915e3_0 rfl (lv_at hl 1 rfl) ?_
  refine lv_aload_n hx hb dJx4a65c_get_915e3_1 rfl (lv_at hl 0 rfl) ?_
  refine va_get (D := (dC, dI)) (ci := 0) (v := .int n) (C := RJx4a65c) (T := TJx4a65c) (N := 3) hx hb hts hi0 hown hK hP 0 rfl rfl 2 (by decide) (hts (.fieldLink RJx4a65c 48 "java/util/ArrayList" "size" "I") (by decide +kernel)) (fun _ h9 => h9) rfl dJx4a65c_get_915e3_2 ?_
  have hPc := hP.sub (ws' := []) [] rfl
  have hDc := hD.sub (ws' := []) [] (by decide) rfl
  have hKc := hK.sub (tys' := []) [] rfl
  have hFc := gb_free hA hS
  refine va_calli (va_runS (As := [.int p0, .int n]) (rest := []) ⟨hx, hb, hml, hown, hts⟩ (c_J15_checkIndex_7cf53 l hl9 kS tE dC dI s.heap.size p0 n (la_18 n p0 h0 h1) (la_19 n p0 h0 h1)) (va_cwS 2 hts gJx4a65c_get_915e3_J15_checkIndex_7cf53 rfl rfl rfl (by decide +kernel) ⟨Nat.le_of_ble_eq_true rfl, Nat.le_of_ble_eq_true rfl⟩) (gb_preS hZT hZ hS hFc hPc hDc hKc) rfl rfl hl.1 rfl (lv_room (Nat.le_of_ble_eq_true rfl)) dJx4a65c_get_915e3_5 ⟨Nat.le_of_ble_eq_true rfl, Nat.le_of_ble_eq_true rfl⟩) hS (fun q _ h => hFc q h) hFc (fun r_1 u t H locs ht hvm hw hB hz1 hk1 hS => ?_)
  have hP := gb_keep hP hk1
  have w_2 := hw
  refine lv_pop hx hb dJx4a65c_get_915e3_8 rfl ?_
  refine lv_aload_n hx hb dJx4a65c_get_915e3_9 rfl (lv_at hl 0 rfl) ?_
  refine lv_iload_n hx hb dJx4a65c_get_915e3_10 rfl (lv_at hl 1 rfl) ?_
  have hFc := gb_free hA hS
  refine va_callr (va_runV (As := [.int p0]) (rest := []) ⟨hx, hb, hml, hown, hts⟩ (c_Jx4a65c_elementData_915e3 l hl9 kS tE dC dI H.size a mo el n k f p0 dd n_in n_f) (cwV 1 hts gJx4a65c_get_915e3_Jx4a65c_elementData_915e3 rfl rfl rfl (by decide +kernel) ⟨Nat.le_of_ble_eq_true rfl, Nat.le_of_ble_eq_true rfl⟩) (gb_preV hZT hZ hS hFc hP hD hK (va_recv hK hP (ci := 0) (q0 := 0) rfl rfl)) rfl rfl hl.1 rfl (lv_room (Nat.le_of_ble_eq_true rfl)) dJx4a65c_get_915e3_11 ⟨Nat.le_of_ble_eq_true rfl, Nat.le_of_ble_eq_true rfl⟩) hS (fun q _ h => hFc q h) hFc (fun u ra t H locs ht hvm hw hB hz1 hk1 hS => ?_)
  have hB : ra = dd := hB
  rw [hB]
  have hP := gb_keep hP hk1
  refine W.widen (k := 0) (n := 0) (Nat.le_of_ble_eq_true rfl) (Nat.le_of_ble_eq_true rfl) ?_
  exact W.aret (v := .ref dd) hx hb hr (Or.inl ⟨_, rfl⟩) (Or.inr ⟨_, rfl⟩) (fun t ht hW => ⟨⟨(), dd, rfl, trivial, rfl⟩, hS.F ht⟩) hS.2.2 dJx4a65c_get_915e3_14

set_option maxHeartbeats 4000000 in
set_option maxRecDepth 100000 in
theorem c_Jxa1e45_init_da8c8 (l : Launch) (hl9 : l.stackTraces = false) (kS : Nat → Nat) (tE : Nat) (dC : Nat → ClassId) (dI : Nat → Nat → Nat) (sz : Nat) (a : Nat) : Met l yJxa1e45_init_da8c8 wsJxa1e45_init_da8c8 ({ frames := 1, cells := 0, slots := 0, locals := 12 }) (va_Pc [.ref a] (gb_Pw kS tE (va_A [(a, .inr (0, [.int 0, .null, .int 0]))] sz) (dC, dI) [] [(a, .inr (0, [.int 0, .null, .int 0]))] sz)) (va_Qv (fun _ : Unit => True) (fun _ t => va_P (dC, dI) vwCl [(a, .inr (0, [.int 0, .null, .int 0]))] t.heap ∧ va_K (dC, dI) vwCl [] t ∧ va_D (va_A [(a, .inr (0, [.int 0, .null, .int 0]))] sz) [(a, .inr (0, [.int 0, .null, .int 0]))]) (va_A [(a, .inr (0, [.int 0, .null, .int 0]))] sz)) 0 0 (va_A [(a, .inr (0, [.int 0, .null, .int 0]))] sz) := by
  refine Met.ofW (cc := cJxa1e45_init_da8c8) (maxL := 1) (ret := none) (by decide) rfl ?_
  intro p e s m args below meth c s₁ B hml hv
  obtain ⟨rfl, hsz, hZT, hZ, hP, hK, hD0⟩ := hv
  have hx := B.exec
  have hb := B.bytes
  have hr := B.returns
  have hts := atoms_spec (ws := wsJxa1e45_init_da8c8) B.pre
  have hown : s.vm.findClass RJxa1e45 = some m.cls := findClass_of_methodNamed B.named
  have hlocks := B.notSynchronized
  have hin : meth.name = "<init>" := (name_of_methodNamed B.named B.method).1
  subst hsz
  have hD := hD0.self (sz := s.heap.size)
  generalize hAe : va_A [(a, .inr (0, [.int 0, .null, .int 0]))] s.heap.size = A at hZ hD ⊢
  have hA : ∀ q : Nat, s.heap.size ≤ q → A q := fun q h => by rw [← hAe]; exact Or.inr h
  have hS : va_S A s.heap s.heap [] := va_S.rf
  have hP : va_P (dC, dI) vwCl [(a, .inr (0, [.int 0, .null, .int 0]))] s.heap := hP
  have hl := lv_entry ([.ref a]) (n := 1) (Nat.le_of_ble_eq_true rfl)
  rw [lg_entry_eq]
  generalize (lg_sl ([.ref a]) ++ List.replicate (1 - (lg_sl ([.ref a])).length) Slot.unset).toArray = ls at hl ⊢
  have hl : lv_has ls 1 [(0, .ref a)] := hl
  refine lv_aload_n hx hb dJxa1e45_init_da8c8_0 rfl (lv_at hl 0 rfl) ?_
  refine W.objInit hx hb hown (hts (.methodLink RJxa1e45 1 objectInit) (by decide +kernel)) (hts (.instanceMethod objectInit) (by decide +kernel)) (hts (.code objectInit ⟨#[0xb1]⟩ 1 none) (by decide +kernel)) rfl (by rw [hml]; exact hl.1) rfl dJxa1e45_init_da8c8_1 (Nat.le_of_ble_eq_true rfl) (Nat.le_of_ble_eq_true rfl) ?_
  refine W.eq (g2 := F0 m 4 ls []) rfl ?_
  refine W.widen (k := 0) (n := 0) (Nat.le_of_ble_eq_true rfl) (Nat.le_of_ble_eq_true rfl) ?_
  have hP9 := hP.sub (ws' := [(a, .inr (0, [.int 0, .null, .int 0]))]) [0] rfl
  have hD9 := hD.sub (ws' := [(a, .inr (0, [.int 0, .null, .int 0]))]) [0] (by decide) rfl
  have hK9 := hK.sub (tys' := []) [] rfl
  exact W.vret hx hb hr (fun t ht hW => ⟨⟨(), rfl, trivial, ⟨by rw [ht]; exact hP9, va_K.moved hW.alike hK9, hD9⟩⟩, hS.F ht⟩) hS.2.2 dJxa1e45_init_da8c8_4

set_option maxHeartbeats 4000000 in
set_option maxRecDepth 100000 in
theorem c_Jxc12de_init_da8c8 (l : Launch) (hl9 : l.stackTraces = false) (kS : Nat → Nat) (tE : Nat) (dC : Nat → ClassId) (dI : Nat → Nat → Nat) (sz : Nat) (a : Nat) : Met l yJxc12de_init_da8c8 wsJxc12de_init_da8c8 ({ frames := 2, cells := 0, slots := 0, locals := 32 }) (va_Pc [.ref a] (gb_Pw kS tE (va_A [(a, .inr (0, [.int 0, .null, .int 0]))] sz) (dC, dI) [] [(a, .inr (0, [.int 0, .null, .int 0]))] sz)) (va_Qv (fun _ : Unit => True) (fun _ t => va_P (dC, dI) vwCl [(a, .inr (0, [.int 0, .null, .int 0]))] t.heap ∧ va_K (dC, dI) vwCl [] t ∧ va_D (va_A [(a, .inr (0, [.int 0, .null, .int 0]))] sz) [(a, .inr (0, [.int 0, .null, .int 0]))]) (va_A [(a, .inr (0, [.int 0, .null, .int 0]))] sz)) 0 0 (va_A [(a, .inr (0, [.int 0, .null, .int 0]))] sz) := by
  refine Met.ofW (cc := cJxc12de_init_da8c8) (maxL := 1) (ret := none) (by decide) rfl ?_
  intro p e s m args below meth c s₁ B hml hv
  obtain ⟨rfl, hsz, hZT, hZ, hP, hK, hD0⟩ := hv
  have hx := B.exec
  have hb := B.bytes
  have hr := B.returns
  have hts := atoms_spec (ws := wsJxc12de_init_da8c8) B.pre
  have hown : s.vm.findClass RJxc12de = some m.cls := findClass_of_methodNamed B.named
  have hlocks := B.notSynchronized
  have hin : meth.name = "<init>" := (name_of_methodNamed B.named B.method).1
  subst hsz
  have hi0 : ∀ w ∈ u_ws RJx4a65c TJx4a65c 3, w ∈ wsJxc12de_init_da8c8 := by decide +kernel
  have hD := hD0.self (sz := s.heap.size)
  generalize hAe : va_A [(a, .inr (0, [.int 0, .null, .int 0]))] s.heap.size = A at hZ hD ⊢
  have hA : ∀ q : Nat, s.heap.size ≤ q → A q := fun q h => by rw [← hAe]; exact Or.inr h
  have hS : va_S A s.heap s.heap [] := va_S.rf
  have hP : va_P (dC, dI) vwCl [(a, .inr (0, [.int 0, .null, .int 0]))] s.heap := hP
  have hl := lv_entry ([.ref a]) (n := 1) (Nat.le_of_ble_eq_true rfl)
  rw [lg_entry_eq]
  generalize (lg_sl ([.ref a]) ++ List.replicate (1 - (lg_sl ([.ref a])).length) Slot.unset).toArray = ls at hl ⊢
  have hl : lv_has ls 1 [(0, .ref a)] := hl
  refine lv_aload_n hx hb dJxc12de_init_da8c8_0 rfl (lv_at hl 0 rfl) ?_
  have hFc := va_free (wc := [(a, .inr (0, [.int 0, .null, .int 0]))]) hD hS hA [0] rfl
  refine va_callv (va_runI (As := []) (rest := []) ⟨hx, hb, hml, hown, hts⟩ (c_Jxa1e45_init_da8c8 l hl9 kS tE dC dI s.heap.size a) (cwI 0 hts gJxc12de_init_da8c8_Jxa1e45_init_da8c8 rfl rfl rfl (hts (.initialized RJxa1e45) (by decide +kernel)) (hts (.methodLink RJxc12de 1 yJxa1e45_init_da8c8) (by decide +kernel)) (hts (.instanceMethod yJxa1e45_init_da8c8) (by decide +kernel)) rfl (by decide +kernel) ⟨Nat.le_of_ble_eq_true rfl, Nat.le_of_ble_eq_true rfl⟩) (gb_preS hZT hZ hS hFc hP hD hK) rfl rfl hl.1 rfl (lv_room (Nat.le_of_ble_eq_true rfl)) dJxc12de_init_da8c8_1 ⟨Nat.le_of_ble_eq_true rfl, Nat.le_of_ble_eq_true rfl⟩) hS (fun q _ h => hFc q h) hFc (fun u t H locs ht hvm hw hB hz1 hk1 hS => ?_)
  obtain ⟨hP1, hK1, hD1⟩ := hB
  rw [ht] at hP1
  have hK1 := va_K.moved hvm.symm hK1
  obtain ⟨hP, hD⟩ := va_join (wr := []) (w1 := [(a, .inr (0, [.int 0, .null, .int 0]))]) hP hD [0] [] rfl rfl (by decide) (by decide) hk1 hFc hP1 hD1
  have hP : va_P (dC, dI) vwCl [(a, .inr (0, [.int 0, .null, .int 0]))] H := hP
  have hD : va_D A [(a, .inr (0, [.int 0, .null, .int 0]))] := hD
  refine lv_aload_n hx hb dJxc12de_init_da8c8_4 rfl (lv_at hl 0 rfl) ?_
  refine lv_iconst (v := 0) hx hb dJxc12de_init_da8c8_5 (by decide) ?_
  refine va_put (D := (dC, dI)) (ci := 0) (v := .int 0) (ty := .int) (C := RJx4a65c) (T := TJx4a65c) (N := 3) hx hb hts hi0 tyJx4a65c tyJx4a65c_ok nmJx4a65c hown hK hP hD hS 0 rfl rfl 0 (by decide) (hts (.fieldLink RJxc12de 7 "java/util/AbstractList" "modCount" "I") (by decide +kernel)) (fun _ h9 => h9) rfl (by decide +kernel) rfl rfl (Nat.le_of_ble_eq_true rfl) dJxc12de_init_da8c8_6 (fun H locs hP hD hS => ?_)
  have hP : va_P (dC, dI) vwCl [(a, .inr (0, [.int 0, .null, .int 0]))] H := hP
  have hD : va_D A [(a, .inr (0, [.int 0, .null, .int 0]))] := hD
  refine W.widen (k := 0) (n := 0) (Nat.le_of_ble_eq_true rfl) (Nat.le_of_ble_eq_true rfl) ?_
  have hP9 := hP.sub (ws' := [(a, .inr (0, [.int 0, .null, .int 0]))]) [0] rfl
  have hD9 := hD.sub (ws' := [(a, .inr (0, [.int 0, .null, .int 0]))]) [0] (by decide) rfl
  have hK9 := hK.sub (tys' := []) [] rfl
  exact W.vret hx hb hr (fun t ht hW => ⟨⟨(), rfl, trivial, ⟨by rw [ht]; exact hP9, va_K.moved hW.alike hK9, hD9⟩⟩, hS.F ht⟩) hS.2.2 dJxc12de_init_da8c8_9

set_option maxHeartbeats 4000000 in
set_option maxRecDepth 100000 in
theorem c_Jx4a65c_init_da8c8 (l : Launch) (hl9 : l.stackTraces = false) (kS : Nat → Nat) (tE : Nat) (dC : Nat → ClassId) (dI : Nat → Nat → Nat) (sz : Nat) (a : Nat) : Met l yJx4a65c_init_da8c8 wsJx4a65c_init_da8c8 ({ frames := 3, cells := 0, slots := 0, locals := 52 }) (va_Pc [.ref a] (gb_Pw kS tE (va_A [(a, .inr (0, [.int 0, .null, .int 0]))] sz) (dC, dI) [] [(a, .inr (0, [.int 0, .null, .int 0]))] sz)) (va_Qv (fun _ : Unit => True) (fun _ t => va_P (dC, dI) vwCl [(a, .inr (0, [.int 0, .ref tE, .int 0]))] t.heap ∧ va_K (dC, dI) vwCl [] t ∧ va_D (va_A [(a, .inr (0, [.int 0, .null, .int 0]))] sz) [(a, .inr (0, [.int 0, .ref tE, .int 0]))]) (va_A [(a, .inr (0, [.int 0, .null, .int 0]))] sz)) 0 0 (va_A [(a, .inr (0, [.int 0, .null, .int 0]))] sz) := by
  refine Met.ofW (cc := cJx4a65c_init_da8c8) (maxL := 1) (ret := none) (by decide) rfl ?_
  intro p e s m args below meth c s₁ B hml hv
  obtain ⟨rfl, hsz, hZT, hZ, hP, hK, hD0⟩ := hv
  have hx := B.exec
  have hb := B.bytes
  have hr := B.returns
  have hts := atoms_spec (ws := wsJx4a65c_init_da8c8) B.pre
  have hown : s.vm.findClass RJx4a65c = some m.cls := findClass_of_methodNamed B.named
  have hlocks := B.notSynchronized
  have hin : meth.name = "<init>" := (name_of_methodNamed B.named B.method).1
  subst hsz
  have hi0 : ∀ w ∈ u_ws RJx4a65c TJx4a65c 3, w ∈ wsJx4a65c_init_da8c8 := by decide +kernel
  have hD := hD0.self (sz := s.heap.size)
  generalize hAe : va_A [(a, .inr (0, [.int 0, .null, .int 0]))] s.heap.size = A at hZ hD ⊢
  have hA : ∀ q : Nat, s.heap.size ≤ q → A q := fun q h => by rw [← hAe]; exact Or.inr h
  have hS : va_S A s.heap s.heap [] := va_S.rf
  have hP : va_P (dC, dI) vwCl [(a, .inr (0, [.int 0, .null, .int 0]))] s.heap := hP
  have hl := lv_entry ([.ref a]) (n := 1) (Nat.le_of_ble_eq_true rfl)
  rw [lg_entry_eq]
  generalize (lg_sl ([.ref a]) ++ List.replicate (1 - (lg_sl ([.ref a])).length) Slot.unset).toArray = ls at hl ⊢
  have hl : lv_has ls 1 [(0, .ref a)] := hl
  refine lv_aload_n hx hb dJx4a65c_init_da8c8_0 rfl (lv_at hl 0 rfl) ?_
  have hFc := va_free (wc := [(a, .inr (0, [.int 0, .null, .int 0]))]) hD hS hA [0] rfl
  refine va_callv (va_runI (As := []) (rest := []) ⟨hx, hb, hml, hown, hts⟩ (c_Jxc12de_init_da8c8 l hl9 kS tE dC dI s.heap.size a) (cwI 0 hts gJx4a65c_init_da8c8_Jxc12de_init_da8c8 rfl rfl rfl (hts (.initialized RJxc12de) (by decide +kernel)) (hts (.methodLink RJx4a65c 1 yJxc12de_init_da8c8) (by decide +kernel)) (hts (.instanceMethod yJxc12de_init_da8c8) (by decide +kernel)) rfl (by decide +kernel) ⟨Nat.le_of_ble_eq_true rfl, Nat.le_of_ble_eq_true rfl⟩) (gb_preS hZT hZ hS hFc hP hD hK) rfl rfl hl.1 rfl (lv_room (Nat.le_of_ble_eq_true rfl)) dJx4a65c_init_da8c8_1 ⟨Nat.le_of_ble_eq_true rfl, Nat.le_of_ble_eq_true rfl⟩) hS (fun q _ h => hFc q h) hFc (fun u t H locs ht hvm hw hB hz1 hk1 hS => ?_)
  obtain ⟨hP1, hK1, hD1⟩ := hB
  rw [ht] at hP1
  have hK1 := va_K.moved hvm.symm hK1
  obtain ⟨hP, hD⟩ := va_join (wr := []) (w1 := [(a, .inr (0, [.int 0, .null, .int 0]))]) hP hD [0] [] rfl rfl (by decide) (by decide) hk1 hFc hP1 hD1
  have hP : va_P (dC, dI) vwCl [(a, .inr (0, [.int 0, .null, .int 0]))] H := hP
  have hD : va_D A [(a, .inr (0, [.int 0, .null, .int 0]))] := hD
  refine lv_aload_n hx hb dJx4a65c_init_da8c8_4 rfl (lv_at hl 0 rfl) ?_
  refine va_gets (C := "java/util/ArrayList") (n := "DEFAULTCAPACITY_EMPTY_ELEMENTDATA") (d := "[Ljava/lang/Object;") (v := .ref tE) hx hb hZ.2.2.1 hS hown (hts (.fieldLink RJx4a65c 39 "java/util/ArrayList" "DEFAULTCAPACITY_EMPTY_ELEMENTDATA" "[Ljava/lang/Object;") (by decide +kernel)) (fun _ h9 => h9) dJx4a65c_init_da8c8_5 ?_
  refine va_put (D := (dC, dI)) (ci := 0) (v := .ref tE) (ty := .array (.object "java/lang/Object")) (C := RJx4a65c) (T := TJx4a65c) (N := 3) hx hb hts hi0 tyJx4a65c tyJx4a65c_ok nmJx4a65c hown hK hP hD hS 0 rfl rfl 1 (by decide) (hts (.fieldLink RJx4a65c 9 "java/util/ArrayList" "elementData" "[Ljava/lang/Object;") (by decide +kernel)) (fun _ h9 => h9) rfl (by decide +kernel) rfl rfl (Nat.le_of_ble_eq_true rfl) dJx4a65c_init_da8c8_8 (fun H locs hP hD hS => ?_)
  have hP : va_P (dC, dI) vwCl [(a, .inr (0, [.int 0, .ref tE, .int 0]))] H := hP
  have hD : va_D A [(a, .inr (0, [.int 0, .ref tE, .int 0]))] := hD
  refine W.widen (k := 0) (n := 0) (Nat.le_of_ble_eq_true rfl) (Nat.le_of_ble_eq_true rfl) ?_
  have hP9 := hP.sub (ws' := [(a, .inr (0, [.int 0, .ref tE, .int 0]))]) [0] rfl
  have hD9 := hD.sub (ws' := [(a, .inr (0, [.int 0, .ref tE, .int 0]))]) [0] (by decide) rfl
  have hK9 := hK.sub (tys' := []) [] rfl
  exact W.vret hx hb hr (fun t ht hW => ⟨⟨(), rfl, trivial, ⟨by rw [ht]; exact hP9, va_K.moved hW.alike hK9, hD9⟩⟩, hS.F ht⟩) hS.2.2 dJx4a65c_init_da8c8_11

set_option maxHeartbeats 4000000 in
set_option maxRecDepth 100000 in
theorem c_Jx4a65c_grow_92f84 (l : Launch) (hl9 : l.stackTraces = false) (kS : Nat → Nat) (tE : Nat) (dC : Nat → ClassId) (dI : Nat → Nat → Nat) (sz : Nat) (a : Nat) (mo : Int32) : Met l yJx4a65c_grow_92f84 wsJx4a65c_grow_92f84 ({ frames := 1, cells := 1, slots := 10, locals := 14 }) (va_Pc [.ref a, .int 1] (gb_Pw kS tE (va_A [(a, .inr (0, [.int mo, .ref tE, .int 0]))] sz) (dC, dI) [] [(a, .inr (0, [.int mo, .ref tE, .int 0]))] sz)) (va_Qr (fun _ : Unit => True) (fun _ ra t => ∃ (k : ClassId), va_P (dC, dI) vwCl [(a, .inr (0, [.int mo, .ref ra, .int 0])), (ra, .inl (k, 10, .inr (.inr (.inr (.inr (fun _ => none))))))] t.heap ∧ va_K (dC, dI) vwCl [(k, .object "java/lang/Object")] t ∧ va_D (va_A [(a, .inr (0, [.int mo, .ref tE, .int 0]))] sz) [(a, .inr (0, [.int mo, .ref ra, .int 0])), (ra, .inl (k, 10, .inr (.inr (.inr (.inr (fun _ => none))))))]) (va_A [(a, .inr (0, [.int mo, .ref tE, .int 0]))] sz)) 1 10 (va_A [(a, .inr (0, [.int mo, .ref tE, .int 0]))] sz) := by
  refine Met.ofW (cc := cJx4a65c_grow_92f84) (maxL := 4) (ret := (some (.array (.object "java/lang/Object")))) (by decide) rfl ?_
  intro p e s m args below meth c s₁ B hml hv
  obtain ⟨rfl, hsz, hZT, hZ, hP, hK, hD0⟩ := hv
  have hx := B.exec
  have hb := B.bytes
  have hr := B.returns
  have hts := atoms_spec (ws := wsJx4a65c_grow_92f84) B.pre
  have hown : s.vm.findClass RJx4a65c = some m.cls := findClass_of_methodNamed B.named
  have hlocks := B.notSynchronized
  subst hsz
  have hi0 : ∀ w ∈ u_ws RJx4a65c TJx4a65c 3, w ∈ wsJx4a65c_grow_92f84 := by decide +kernel
  have hD := hD0.self (sz := s.heap.size)
  generalize hAe : va_A [(a, .inr (0, [.int mo, .ref tE, .int 0]))] s.heap.size = A at hZ hD ⊢
  have hA : ∀ q : Nat, s.heap.size ≤ q → A q := fun q h => by rw [← hAe]; exact Or.inr h
  have hS : va_S A s.heap s.heap [] := va_S.rf
  have hP : va_P (dC, dI) vwCl [(a, .inr (0, [.int mo, .ref tE, .int 0]))] s.heap := hP
  have hl := lv_entry ([.ref a, .int 1]) (n := 4) (Nat.le_of_ble_eq_true rfl)
  rw [lg_entry_eq]
  generalize (lg_sl ([.ref a, .int 1]) ++ List.replicate (4 - (lg_sl ([.ref a, .int 1])).length) Slot.unset).toArray = ls at hl ⊢
  have hl : lv_has ls 4 [(0, .ref a), (1, .int 1)] := hl
  refine lv_aload_n hx hb dJx4a65c_grow_92f84_0 rfl (lv_at hl 0 rfl) ?_
  refine va_get (D := (dC, dI)) (ci := 0) (v := .ref tE) (C := RJx4a65c) (T := TJx4a65c) (N := 3) hx hb hts hi0 hown hK hP 0 rfl rfl 1 (by decide) (hts (.fieldLink RJx4a65c 9 "java/util/ArrayList" "elementData" "[Ljava/lang/Object;") (by decide +kernel)) (fun _ h9 => h9) rfl dJx4a65c_grow_92f84_1 ?_
  refine va_tlen (v := 0) hx hb hZ.2.2.2 hS rfl dJx4a65c_grow_92f84_4 ?_
  refine lv_istore_n (lv' := [(2, .int 0), (0, .ref a), (1, .int 1)]) hx hb dJx4a65c_grow_92f84_5 rfl hl (by decide) rfl (fun ls hl => ?_)
  refine lv_iload_n hx hb dJx4a65c_grow_92f84_6 rfl (lv_at hl 0 rfl) ?_
  refine lv_if_gt (tgt := 20) hx hb dJx4a65c_grow_92f84_7 (by decide) (fun c9 => absurd c9 (by decide)) (fun _ => ?_)
  refine lv_aload_n hx hb dJx4a65c_grow_92f84_10 rfl (lv_at hl 1 rfl) ?_
  refine va_get (D := (dC, dI)) (ci := 0) (v := .ref tE) (C := RJx4a65c) (T := TJx4a65c) (N := 3) hx hb hts hi0 hown hK hP 0 rfl rfl 1 (by decide) (hts (.fieldLink RJx4a65c 9 "java/util/ArrayList" "elementData" "[Ljava/lang/Object;") (by decide +kernel)) (fun _ h9 => h9) rfl dJx4a65c_grow_92f84_11 ?_
  refine va_gets (C := "java/util/ArrayList") (n := "DEFAULTCAPACITY_EMPTY_ELEMENTDATA") (d := "[Ljava/lang/Object;") (v := .ref tE) hx hb hZ.2.2.1 hS hown (hts (.fieldLink RJx4a65c 39 "java/util/ArrayList" "DEFAULTCAPACITY_EMPTY_ELEMENTDATA" "[Ljava/lang/Object;") (by decide +kernel)) (fun _ h9 => h9) dJx4a65c_grow_92f84_14 ?_
  refine W.eq (g2 := F0 m 17 ls (va_rf (some tE) :: va_rf (some tE) :: [])) rfl ?_
  refine lv_acmp_eq (tgt := 45) hx hb dJx4a65c_grow_92f84_17 (by decide) (fun _ => ?_) (fun c9 => absurd rfl c9)
  refine lv_aload_n hx hb dJx4a65c_grow_92f84_45 rfl (lv_at hl 1 rfl) ?_
  refine lv_bipush (v := 10) hx hb dJx4a65c_grow_92f84_46 (by decide) ?_
  refine lv_iload_n hx hb dJx4a65c_grow_92f84_48 rfl (lv_at hl 2 rfl) ?_
  refine va_mmax hx hb (hml.trans hl.1.symm) hown (hts (.methodLink RJx4a65c 79 Lib.Math.max.name) (by decide +kernel)) (hts (.static Lib.Math.max.name) (by decide +kernel)) (hts (.initialized "java/lang/Math") (by decide +kernel)) (hts (.code Lib.Math.max.name Lib.Math.max.code 2 (some .int)) (by decide +kernel)) (Nat.le_of_ble_eq_true rfl) (Nat.le_of_ble_eq_true rfl) (Nat.le_of_ble_eq_true rfl) (Nat.le_of_ble_eq_true rfl) dJx4a65c_grow_92f84_49 ?_
  refine lv_topi (fun y9 e9 => ?_)
  obtain rfl : y9 = 10 := e9.trans (by decide)
  refine va_newq (C := "java/lang/Object") (N' := 10) hx hb hown (hts (.classLink RJx4a65c 7 "java/lang/Object") (by decide +kernel)) hZT.2.2.2.2.1 hK hP hD hS hA (by decide) (by decide) (Nat.le_of_ble_eq_true rfl) (Nat.le_of_ble_eq_true rfl) (Nat.le_of_ble_eq_true rfl) dJx4a65c_grow_92f84_52 (fun q_2 k_3 H hK hP hD hS => ?_)
  have hK : va_K (dC, dI) vwCl [(k_3, .object "java/lang/Object")] s := hK
  have hP : va_P (dC, dI) vwCl [(a, .inr (0, [.int mo, .ref tE, .int 0])), (q_2, .inl (k_3, 10, .inr (.inr (.inr (.inr (fun _ => none))))))] H := hP
  have hD : va_D A [(a, .inr (0, [.int mo, .ref tE, .int 0])), (q_2, .inl (k_3, 10, .inr (.inr (.inr (.inr (fun _ => none))))))] := hD
  refine lv_dup_x1 hx hb dJx4a65c_grow_92f84_55 rfl rfl ?_
  refine va_put (D := (dC, dI)) (ci := 0) (v := .ref q_2) (ty := .array (.object "java/lang/Object")) (C := RJx4a65c) (T := TJx4a65c) (N := 3) hx hb hts hi0 tyJx4a65c tyJx4a65c_ok nmJx4a65c hown hK hP hD hS 0 rfl rfl 1 (by decide) (hts (.fieldLink RJx4a65c 9 "java/util/ArrayList" "elementData" "[Ljava/lang/Object;") (by decide +kernel)) (fun _ h9 => h9) rfl (by decide +kernel) rfl rfl (Nat.le_of_ble_eq_true rfl) dJx4a65c_grow_92f84_56 (fun H locs hP hD hS => ?_)
  have hP : va_P (dC, dI) vwCl [(a, .inr (0, [.int mo, .ref q_2, .int 0])), (q_2, .inl (k_3, 10, .inr (.inr (.inr (.inr (fun _ => none))))))] H := hP
  have hD : va_D A [(a, .inr (0, [.int mo, .ref q_2, .int 0])), (q_2, .inl (k_3, 10, .inr (.inr (.inr (.inr (fun _ => none))))))] := hD
  refine W.widen (k := 1) (n := 10) (Nat.le_of_ble_eq_true rfl) (Nat.le_of_ble_eq_true rfl) ?_
  have hP9 := hP.sub (ws' := [(a, .inr (0, [.int mo, .ref q_2, .int 0])), (q_2, .inl (k_3, 10, .inr (.inr (.inr (.inr (fun _ => none))))))]) [0, 1] rfl
  have hD9 := hD.sub (ws' := [(a, .inr (0, [.int mo, .ref q_2, .int 0])), (q_2, .inl (k_3, 10, .inr (.inr (.inr (.inr (fun _ => none))))))]) [0, 1] (by decide) rfl
  have hK9 := hK.sub (tys' := [(k_3, .object "java/lang/Object")]) [0] rfl
  exact W.aret (v := .ref q_2) hx hb hr (Or.inr ⟨_, rfl⟩) (Or.inr ⟨_, rfl⟩) (fun t ht hW => ⟨⟨(), q_2, rfl, trivial, ⟨k_3, by rw [ht]; exact hP9, va_K.moved hW.alike hK9, hD9⟩⟩, hS.F ht⟩) hS.2.2 dJx4a65c_grow_92f84_59

set_option maxHeartbeats 4000000 in
set_option maxRecDepth 100000 in
theorem c_Jx4a65c_grow_d5877 (l : Launch) (hl9 : l.stackTraces = false) (kS : Nat → Nat) (tE : Nat) (dC : Nat → ClassId) (dI : Nat → Nat → Nat) (sz : Nat) (a : Nat) (mo : Int32) : Met l yJx4a65c_grow_d5877 wsJx4a65c_grow_d5877 ({ frames := 2, cells := 1, slots := 10, locals := 37 }) (va_Pc [.ref a] (gb_Pw kS tE (va_A [(a, .inr (0, [.int mo, .ref tE, .int 0]))] sz) (dC, dI) [] [(a, .inr (0, [.int mo, .ref tE, .int 0]))] sz)) (va_Qr (fun _ : Unit => True) (fun _ ra t => ∃ (k : ClassId), va_P (dC, dI) vwCl [(a, .inr (0, [.int mo, .ref ra, .int 0])), (ra, .inl (k, 10, .inr (.inr (.inr (.inr (fun _ => none))))))] t.heap ∧ va_K (dC, dI) vwCl [(k, .object "java/lang/Object")] t ∧ va_D (va_A [(a, .inr (0, [.int mo, .ref tE, .int 0]))] sz) [(a, .inr (0, [.int mo, .ref ra, .int 0])), (ra, .inl (k, 10, .inr (.inr (.inr (.inr (fun _ => none))))))]) (va_A [(a, .inr (0, [.int mo, .ref tE, .int 0]))] sz)) 1 10 (va_A [(a, .inr (0, [.int mo, .ref tE, .int 0]))] sz) := by
  refine Met.ofW (cc := cJx4a65c_grow_d5877) (maxL := 1) (ret := (some (.array (.object "java/lang/Object")))) (by decide) rfl ?_
  intro p e s m args below meth c s₁ B hml hv
  obtain ⟨rfl, hsz, hZT, hZ, hP, hK, hD0⟩ := hv
  have hx := B.exec
  have hb := B.bytes
  have hr := B.returns
  have hts := atoms_spec (ws := wsJx4a65c_grow_d5877) B.pre
  have hown : s.vm.findClass RJx4a65c = some m.cls := findClass_of_methodNamed B.named
  have hlocks := B.notSynchronized
  subst hsz
  have hi0 : ∀ w ∈ u_ws RJx4a65c TJx4a65c 3, w ∈ wsJx4a65c_grow_d5877 := by decide +kernel
  have hD := hD0.self (sz := s.heap.size)
  generalize hAe : va_A [(a, .inr (0, [.int mo, .ref tE, .int 0]))] s.heap.size = A at hZ hD ⊢
  have hA : ∀ q : Nat, s.heap.size ≤ q → A q := fun q h => by rw [← hAe]; exact Or.inr h
  have hS : va_S A s.heap s.heap [] := va_S.rf
  have hP : va_P (dC, dI) vwCl [(a, .inr (0, [.int mo, .ref tE, .int 0]))] s.heap := hP
  have hl := lv_entry ([.ref a]) (n := 1) (Nat.le_of_ble_eq_true rfl)
  rw [lg_entry_eq]
  generalize (lg_sl ([.ref a]) ++ List.replicate (1 - (lg_sl ([.ref a])).length) Slot.unset).toArray = ls at hl ⊢
  have hl : lv_has ls 1 [(0, .ref a)] := hl
  refine lv_aload_n hx hb dJx4a65c_grow_d5877_0 rfl (lv_at hl 0 rfl) ?_
  refine lv_aload_n hx hb dJx4a65c_grow_d5877_1 rfl (lv_at hl 0 rfl) ?_
  refine va_get (D := (dC, dI)) (ci := 0) (v := .int 0) (C := RJx4a65c) (T := TJx4a65c) (N := 3) hx hb hts hi0 hown hK hP 0 rfl rfl 2 (by decide) (hts (.fieldLink RJx4a65c 48 "java/util/ArrayList" "size" "I") (by decide +kernel)) (fun _ h9 => h9) rfl dJx4a65c_grow_d5877_2 ?_
  refine lv_iconst (v := 1) hx hb dJx4a65c_grow_d5877_5 (by decide) ?_
  refine lv_iadd hx hb dJx4a65c_grow_d5877_6 ?_
  refine lv_topi (fun y9 e9 => ?_)
  obtain rfl : y9 = 1 := e9.trans (by decide)
  have hFc := va_free (wc := [(a, .inr (0, [.int mo, .ref tE, .int 0]))]) hD hS hA [0] rfl
  refine va_callr (va_runV (As := [.int 1]) (rest := []) ⟨hx, hb, hml, hown, hts⟩ (c_Jx4a65c_grow_92f84 l hl9 kS tE dC dI s.heap.size a mo) (cwV 1 hts gJx4a65c_grow_d5877_Jx4a65c_grow_92f84 rfl rfl rfl (by decide +kernel) ⟨Nat.le_of_ble_eq_true rfl, Nat.le_of_ble_eq_true rfl⟩) (gb_preV hZT hZ hS hFc hP hD hK (va_recv hK hP (ci := 0) (q0 := 0) rfl rfl)) rfl rfl hl.1 rfl (lv_room (Nat.le_of_ble_eq_true rfl)) dJx4a65c_grow_d5877_7 ⟨Nat.le_of_ble_eq_true rfl, Nat.le_of_ble_eq_true rfl⟩) hS (fun q _ h => hFc q h) hFc (fun u ra t H locs ht hvm hw hB hz1 hk1 hS => ?_)
  obtain ⟨q_2, rfl⟩ : ∃ z, z = ra := ⟨_, rfl⟩
  obtain ⟨k_3, hP1, hK1, hD1⟩ := hB
  rw [ht] at hP1
  have hK1 := va_K.moved hvm.symm hK1
  obtain ⟨hP, hD⟩ := va_join (wr := []) (w1 := [(a, .inr (0, [.int mo, .ref q_2, .int 0])), (q_2, .inl (k_3, 10, .inr (.inr (.inr (.inr (fun _ => none))))))]) hP hD [0] [] rfl rfl (by decide) (by decide) hk1 hFc hP1 hD1
  have hP : va_P (dC, dI) vwCl [(a, .inr (0, [.int mo, .ref q_2, .int 0])), (q_2, .inl (k_3, 10, .inr (.inr (.inr (.inr (fun _ => none))))))] H := hP
  have hD : va_D A [(a, .inr (0, [.int mo, .ref q_2, .int 0])), (q_2, .inl (k_3, 10, .inr (.inr (.inr (.inr (fun _ => none))))))] := hD
  have hK := hK.app (hK1.sub (tys' := [(k_3, .object "java/lang/Object")]) [0] rfl)
  have hK : va_K (dC, dI) vwCl [(k_3, .object "java/lang/Object")] s := hK
  refine W.widen (k := 1) (n := 10) (Nat.le_of_ble_eq_true rfl) (Nat.le_of_ble_eq_true rfl) ?_
  have hP9 := hP.sub (ws' := [(a, .inr (0, [.int mo, .ref q_2, .int 0])), (q_2, .inl (k_3, 10, .inr (.inr (.inr (.inr (fun _ => none))))))]) [0, 1] rfl
  have hD9 := hD.sub (ws' := [(a, .inr (0, [.int mo, .ref q_2, .int 0])), (q_2, .inl (k_3, 10, .inr (.inr (.inr (.inr (fun _ => none))))))]) [0, 1] (by decide) rfl
  have hK9 := hK.sub (tys' := [(k_3, .object "java/lang/Object")]) [0] rfl
  exact W.aret (v := .ref q_2) hx hb hr (Or.inr ⟨_, rfl⟩) (Or.inr ⟨_, rfl⟩) (fun t ht hW => ⟨⟨(), q_2, rfl, trivial, ⟨k_3, by rw [ht]; exact hP9, va_K.moved hW.alike hK9, hD9⟩⟩, hS.F ht⟩) hS.2.2 dJx4a65c_grow_d5877_10

set_option maxHeartbeats 4000000 in
set_option maxRecDepth 100000 in
theorem c_add1 (l : Launch) (hl9 : l.stackTraces = false) (kS : Nat → Nat) (tE : Nat) (dC : Nat → ClassId) (dI : Nat → Nat → Nat) (sz : Nat) (a : Nat) (mo : Int32) (v : Nat) (ci : Nat) (vs : List Value) (rc : vw_C) (hrc : vwCl[ci]? = some rc) (hca : ∀ U : State, gb_ZT kS U → va_Nw (.castable rc.1 "java/lang/Object") U) : Met l yJx4a65c_add_72be8 wsJx4a65c_add_72be8 ({ frames := 3, cells := 1, slots := 10, locals := 57 }) (va_Pc [.ref a, .ref v, .ref tE, .int 0] (gb_Pw kS tE (va_A [(a, .inr (0, [.int mo, .ref tE, .int 0])), (v, .inr (ci, vs))] sz) (dC, dI) [] [(a, .inr (0, [.int mo, .ref tE, .int 0])), (v, .inr (ci, vs))] sz)) (va_Qv (fun _ : Unit => True) (fun _ t => ∃ (ea : Nat) (k : ClassId), va_P (dC, dI) vwCl [(a, .inr (0, [.int mo, .ref ea, .int 1])), (ea, .inl (k, 10, .inr (.inr (.inr (.inr (va_up (fun _ => none) (0 : Int32).toNatClampNeg (some v))))))), (v, .inr (ci, vs))] t.heap ∧ va_K (dC, dI) vwCl [(k, .object "java/lang/Object")] t ∧ va_D (va_A [(a, .inr (0, [.int mo, .ref tE, .int 0])), (v, .inr (ci, vs))] sz) [(a, .inr (0, [.int mo, .ref ea, .int 1])), (ea, .inl (k, 10, .inr (.inr (.inr (.inr (va_up (fun _ => none) (0 : Int32).toNatClampNeg (some v))))))), (v, .inr (ci, vs))]) (va_A [(a, .inr (0, [.int mo, .ref tE, .int 0])), (v, .inr (ci, vs))] sz)) 1 10 (va_A [(a, .inr (0, [.int mo, .ref tE, .int 0])), (v, .inr (ci, vs))] sz) := by
  refine Met.ofW (cc := cJx4a65c_add_72be8) (maxL := 4) (ret := none) (by decide) rfl ?_
  intro p e s m args below meth c s₁ B hml hv
  obtain ⟨rfl, hsz, hZT, hZ, hP, hK, hD0⟩ := hv
  have hx := B.exec
  have hb := B.bytes
  have hr := B.returns
  have hts := atoms_spec (ws := wsJx4a65c_add_72be8) B.pre
  have hown : s.vm.findClass RJx4a65c = some m.cls := findClass_of_methodNamed B.named
  have hlocks := B.notSynchronized
  subst hsz
  have hi0 : ∀ w ∈ u_ws RJx4a65c TJx4a65c 3, w ∈ wsJx4a65c_add_72be8 := by decide +kernel
  have hD := hD0.self (sz := s.heap.size)
  generalize hAe : va_A [(a, .inr (0, [.int mo, .ref tE, .int 0])), (v, .inr (ci, vs))] s.heap.size = A at hZ hD ⊢
  have hA : ∀ q : Nat, s.heap.size ≤ q → A q := fun q h => by rw [← hAe]; exact Or.inr h
  have hS : va_S A s.heap s.heap [] := va_S.rf
  have hP : va_P (dC, dI) vwCl [(a, .inr (0, [.int mo, .ref tE, .int 0])), (v, .inr (ci, vs))] s.heap := hP
  have hl := lv_entry ([.ref a, .ref v, .ref tE, .int 0]) (n := 4) (Nat.le_of_ble_eq_true rfl)
  rw [lg_entry_eq]
  generalize (lg_sl ([.ref a, .ref v, .ref tE, .int 0]) ++ List.replicate (4 - (lg_sl ([.ref a, .ref v, .ref tE, .int 0])).length) Slot.unset).toArray = ls at hl ⊢
  have hl : lv_has ls 4 [(0, .ref a), (1, .ref v), (2, .ref tE), (3, .int 0)] := hl
  refine lv_iload_n hx hb dJx4a65c_add_72be8_0 rfl (lv_at hl 3 rfl) ?_
  refine lv_aload_n hx hb dJx4a65c_add_72be8_1 rfl (lv_at hl 2 rfl) ?_
  refine va_tlen (v := 0) hx hb hZ.2.2.2 hS rfl dJx4a65c_add_72be8_2 ?_
  refine lv_icmp_ne (tgt := 11) hx hb dJx4a65c_add_72be8_3 (by decide) (fun c9 => absurd c9 (by decide)) (fun _ => ?_)
  refine lv_aload_n hx hb dJx4a65c_add_72be8_6 rfl (lv_at hl 0 rfl) ?_
  have hPc := hP.sub (ws' := [(a, .inr (0, [.int mo, .ref tE, .int 0]))]) [0] rfl
  have hDc := hD.sub (ws' := [(a, .inr (0, [.int mo, .ref tE, .int 0]))]) [0] (by decide) rfl
  have hFc := va_free (wc := [(a, .inr (0, [.int mo, .ref tE, .int 0]))]) hD hS hA [0] rfl
  refine va_callr (va_runV (As := []) (rest := []) ⟨hx, hb, hml, hown, hts⟩ (c_Jx4a65c_grow_d5877 l hl9 kS tE dC dI s.heap.size a mo) (cwV 0 hts gJx4a65c_add_72be8_Jx4a65c_grow_d5877 rfl rfl rfl (by decide +kernel) ⟨Nat.le_of_ble_eq_true rfl, Nat.le_of_ble_eq_true rfl⟩) (gb_preV hZT hZ hS hFc hPc hDc hK (va_recv hK hP (ci := 0) (q0 := 0) rfl rfl)) rfl rfl hl.1 rfl (lv_room (Nat.le_of_ble_eq_true rfl)) dJx4a65c_add_72be8_7 ⟨Nat.le_of_ble_eq_true rfl, Nat.le_of_ble_eq_true rfl⟩) hS (fun q _ h => hFc q h) hFc (fun u ra t H locs ht hvm hw hB hz1 hk1 hS => ?_)
  obtain ⟨q_3, rfl⟩ : ∃ z, z = ra := ⟨_, rfl⟩
  obtain ⟨k_4, hP1, hK1, hD1⟩ := hB
  rw [ht] at hP1
  have hK1 := va_K.moved hvm.symm hK1
  obtain ⟨hP, hD⟩ := va_join (wr := [(v, .inr (ci, vs))]) (w1 := [(a, .inr (0, [.int mo, .ref q_3, .int 0])), (q_3, .inl (k_4, 10, .inr (.inr (.inr (.inr (fun _ => none))))))]) hP hD [0] [1] rfl rfl (by decide) (by decide) hk1 hFc hP1 hD1
  have hP : va_P (dC, dI) vwCl [(v, .inr (ci, vs)), (a, .inr (0, [.int mo, .ref q_3, .int 0])), (q_3, .inl (k_4, 10, .inr (.inr (.inr (.inr (fun _ => none))))))] H := hP
  have hD : va_D A [(v, .inr (ci, vs)), (a, .inr (0, [.int mo, .ref q_3, .int 0])), (q_3, .inl (k_4, 10, .inr (.inr (.inr (.inr (fun _ => none))))))] := hD
  have hK := hK.app (hK1.sub (tys' := [(k_4, .object "java/lang/Object")]) [0] rfl)
  have hK : va_K (dC, dI) vwCl [(k_4, .object "java/lang/Object")] s := hK
  refine lv_astore_n (lv' := [(2, .ref q_3), (0, .ref a), (1, .ref v), (3, .int 0)]) hx hb dJx4a65c_add_72be8_10 rfl hl (by decide) rfl (fun ls hl => ?_)
  refine lv_aload_n hx hb dJx4a65c_add_72be8_11 rfl (lv_at hl 0 rfl) ?_
  refine lv_iload_n hx hb dJx4a65c_add_72be8_12 rfl (lv_at hl 3 rfl) ?_
  refine lv_aload_n hx hb dJx4a65c_add_72be8_13 rfl (lv_at hl 2 rfl) ?_
  refine va_astqO hx hb hK hP hD hS 2 0 0 ci (r := rc) rfl rfl (hca s hZT) rfl hrc (by unfold vp_in; decide) dJx4a65c_add_72be8_14 (fun H locs hP hD hS => ?_)
  have hP : va_P (dC, dI) vwCl [(v, .inr (ci, vs)), (a, .inr (0, [.int mo, .ref q_3, .int 0])), (q_3, .inl (k_4, 10, .inr (.inr (.inr (.inr (va_up (fun _ => none) (0 : Int32).toNatClampNeg (some v)))))))] H := hP
  have hD : va_D A [(v, .inr (ci, vs)), (a, .inr (0, [.int mo, .ref q_3, .int 0])), (q_3, .inl (k_4, 10, .inr (.inr (.inr (.inr (va_up (fun _ => none) (0 : Int32).toNatClampNeg (some v)))))))] := hD
  refine lv_aload_n hx hb dJx4a65c_add_72be8_15 rfl (lv_at hl 1 rfl) ?_
  refine lv_iload_n hx hb dJx4a65c_add_72be8_16 rfl (lv_at hl 3 rfl) ?_
  refine lv_iconst (v := 1) hx hb dJx4a65c_add_72be8_17 (by decide) ?_
  refine lv_iadd hx hb dJx4a65c_add_72be8_18 ?_
  refine lv_topi (fun y9 e9 => ?_)
  obtain rfl : y9 = 1 := e9.trans (by decide)
  refine va_put (D := (dC, dI)) (ci := 0) (v := .int 1) (ty := .int) (C := RJx4a65c) (T := TJx4a65c) (N := 3) hx hb hts hi0 tyJx4a65c tyJx4a65c_ok nmJx4a65c hown hK hP hD hS 1 rfl rfl 2 (by decide) (hts (.fieldLink RJx4a65c 48 "java/util/ArrayList" "size" "I") (by decide +kernel)) (fun _ h9 => h9) rfl (by decide +kernel) rfl rfl (Nat.le_of_ble_eq_true rfl) dJx4a65c_add_72be8_19 (fun H locs hP hD hS => ?_)
  have hP : va_P (dC, dI) vwCl [(v, .inr (ci, vs)), (a, .inr (0, [.int mo, .ref q_3, .int 1])), (q_3, .inl (k_4, 10, .inr (.inr (.inr (.inr (va_up (fun _ => none) (0 : Int32).toNatClampNeg (some v)))))))] H := hP
  have hD : va_D A [(v, .inr (ci, vs)), (a, .inr (0, [.int mo, .ref q_3, .int 1])), (q_3, .inl (k_4, 10, .inr (.inr (.inr (.inr (va_up (fun _ => none) (0 : Int32).toNatClampNeg (some v)))))))] := hD
  refine W.widen (k := 1) (n := 10) (Nat.le_of_ble_eq_true rfl) (Nat.le_of_ble_eq_true rfl) ?_
  have hP9 := hP.sub (ws' := [(a, .inr (0, [.int mo, .ref q_3, .int 1])), (q_3, .inl (k_4, 10, .inr (.inr (.inr (.inr (va_up (fun _ => none) (0 : Int32).toNatClampNeg (some v))))))), (v, .inr (ci, vs))]) [1, 2, 0] rfl
  have hD9 := hD.sub (ws' := [(a, .inr (0, [.int mo, .ref q_3, .int 1])), (q_3, .inl (k_4, 10, .inr (.inr (.inr (.inr (va_up (fun _ => none) (0 : Int32).toNatClampNeg (some v))))))), (v, .inr (ci, vs))]) [1, 2, 0] (by decide) rfl
  have hK9 := hK.sub (tys' := [(k_4, .object "java/lang/Object")]) [0] rfl
  exact W.vret hx hb hr (fun t ht hW => ⟨⟨(), rfl, trivial, ⟨q_3, k_4, by rw [ht]; exact hP9, va_K.moved hW.alike hK9, hD9⟩⟩, hS.F ht⟩) hS.2.2 dJx4a65c_add_72be8_22

set_option maxHeartbeats 4000000 in
set_option maxRecDepth 100000 in
theorem c_addf (l : Launch) (hl9 : l.stackTraces = false) (kS : Nat → Nat) (tE : Nat) (dC : Nat → ClassId) (dI : Nat → Nat → Nat) (sz : Nat) (a : Nat) (mo : Int32) (v : Nat) (ci : Nat) (vs : List Value) (rc : vw_C) (hrc : vwCl[ci]? = some rc) (hca : ∀ U : State, gb_ZT kS U → va_Nw (.castable rc.1 "java/lang/Object") U) : Met l yJx4a65c_add_9ea2d wsJx4a65c_add_9ea2d ({ frames := 4, cells := 1, slots := 10, locals := 80 }) (va_Pc [.ref a, .ref v] (gb_Pw kS tE (va_A [(a, .inr (0, [.int mo, .ref tE, .int 0])), (v, .inr (ci, vs))] sz) (dC, dI) [] [(a, .inr (0, [.int mo, .ref tE, .int 0])), (v, .inr (ci, vs))] sz)) (va_Qi (fun (_ : Int32) (_ : Unit) => True) (fun _ t => ∃ (m1 : Int32) (ea : Nat) (k : ClassId), va_P (dC, dI) vwCl [(a, .inr (0, [.int m1, .ref ea, .int 1])), (ea, .inl (k, 10, .inr (.inr (.inr (.inr (va_up (fun _ => none) (0 : Int32).toNatClampNeg (some v))))))), (v, .inr (ci, vs))] t.heap ∧ va_K (dC, dI) vwCl [(k, .object "java/lang/Object")] t ∧ va_D (va_A [(a, .inr (0, [.int mo, .ref tE, .int 0])), (v, .inr (ci, vs))] sz) [(a, .inr (0, [.int m1, .ref ea, .int 1])), (ea, .inl (k, 10, .inr (.inr (.inr (.inr (va_up (fun _ => none) (0 : Int32).toNatClampNeg (some v))))))), (v, .inr (ci, vs))]) (va_A [(a, .inr (0, [.int mo, .ref tE, .int 0])), (v, .inr (ci, vs))] sz)) 1 10 (va_A [(a, .inr (0, [.int mo, .ref tE, .int 0])), (v, .inr (ci, vs))] sz) := by
  refine Met.ofW (cc := cJx4a65c_add_9ea2d) (maxL := 2) (ret := (some .boolean)) (by decide) rfl ?_
  intro p e s m args below meth c s₁ B hml hv
  obtain ⟨rfl, hsz, hZT, hZ, hP, hK, hD0⟩ := hv
  have hx := B.exec
  have hb := B.bytes
  have hr := B.returns
  have hts := atoms_spec (ws := wsJx4a65c_add_9ea2d) B.pre
  have hown : s.vm.findClass RJx4a65c = some m.cls := findClass_of_methodNamed B.named
  have hlocks := B.notSynchronized
  subst hsz
  have hi0 : ∀ w ∈ u_ws RJx4a65c TJx4a65c 3, w ∈ wsJx4a65c_add_9ea2d := by decide +kernel
  have hD := hD0.self (sz := s.heap.size)
  generalize hAe : va_A [(a, .inr (0, [.int mo, .ref tE, .int 0])), (v, .inr (ci, vs))] s.heap.size = A at hZ hD ⊢
  have hA : ∀ q : Nat, s.heap.size ≤ q → A q := fun q h => by rw [← hAe]; exact Or.inr h
  have hS : va_S A s.heap s.heap [] := va_S.rf
  have hP : va_P (dC, dI) vwCl [(a, .inr (0, [.int mo, .ref tE, .int 0])), (v, .inr (ci, vs))] s.heap := hP
  have hl := lv_entry ([.ref a, .ref v]) (n := 2) (Nat.le_of_ble_eq_true rfl)
  rw [lg_entry_eq]
  generalize (lg_sl ([.ref a, .ref v]) ++ List.replicate (2 - (lg_sl ([.ref a, .ref v])).length) Slot.unset).toArray = ls at hl ⊢
  have hl : lv_has ls 2 [(0, .ref a), (1, .ref v)] := hl
  refine lv_aload_n hx hb dJx4a65c_add_9ea2d_0 rfl (lv_at hl 0 rfl) ?_
  refine lv_dup hx hb dJx4a65c_add_9ea2d_1 rfl ?_
  refine va_get (D := (dC, dI)) (ci := 0) (v := .int mo) (C := RJx4a65c) (T := TJx4a65c) (N := 3) hx hb hts hi0 hown hK hP 0 rfl rfl 0 (by decide) (hts (.fieldLink RJx4a65c 63 "java/util/ArrayList" "modCount" "I") (by decide +kernel)) (fun x9 h9 => u_same (hts (.sameField "java/util/ArrayList" "java/util/AbstractList" "modCount" "I") (by decide +kernel)) x9 h9) rfl dJx4a65c_add_9ea2d_2 ?_
  refine lv_iconst (v := 1) hx hb dJx4a65c_add_9ea2d_5 (by decide) ?_
  refine lv_iadd hx hb dJx4a65c_add_9ea2d_6 ?_
  refine lv_topi (fun y_1 ey_1 => ?_)
  refine va_put (D := (dC, dI)) (ci := 0) (v := .int y_1) (ty := .int) (C := RJx4a65c) (T := TJx4a65c) (N := 3) hx hb hts hi0 tyJx4a65c tyJx4a65c_ok nmJx4a65c hown hK hP hD hS 0 rfl rfl 0 (by decide) (hts (.fieldLink RJx4a65c 63 "java/util/ArrayList" "modCount" "I") (by decide +kernel)) (fun x9 h9 => u_same (hts (.sameField "java/util/ArrayList" "java/util/AbstractList" "modCount" "I") (by decide +kernel)) x9 h9) rfl (by decide +kernel) rfl rfl (Nat.le_of_ble_eq_true rfl) dJx4a65c_add_9ea2d_7 (fun H locs hP hD hS => ?_)
  have hP : va_P (dC, dI) vwCl [(a, .inr (0, [.int y_1, .ref tE, .int 0])), (v, .inr (ci, vs))] H := hP
  have hD : va_D A [(a, .inr (0, [.int y_1, .ref tE, .int 0])), (v, .inr (ci, vs))] := hD
  refine lv_aload_n hx hb dJx4a65c_add_9ea2d_10 rfl (lv_at hl 0 rfl) ?_
  refine lv_aload_n hx hb dJx4a65c_add_9ea2d_11 rfl (lv_at hl 1 rfl) ?_
  refine lv_aload_n hx hb dJx4a65c_add_9ea2d_12 rfl (lv_at hl 0 rfl) ?_
  refine va_get (D := (dC, dI)) (ci := 0) (v := .ref tE) (C := RJx4a65c) (T := TJx4a65c) (N := 3) hx hb hts hi0 hown hK hP 0 rfl rfl 1 (by decide) (hts (.fieldLink RJx4a65c 9 "java/util/ArrayList" "elementData" "[Ljava/lang/Object;") (by decide +kernel)) (fun _ h9 => h9) rfl dJx4a65c_add_9ea2d_13 ?_
  refine lv_aload_n hx hb dJx4a65c_add_9ea2d_16 rfl (lv_at hl 0 rfl) ?_
  refine va_get (D := (dC, dI)) (ci := 0) (v := .int 0) (C := RJx4a65c) (T := TJx4a65c) (N := 3) hx hb hts hi0 hown hK hP 0 rfl rfl 2 (by decide) (hts (.fieldLink RJx4a65c 48 "java/util/ArrayList" "size" "I") (by decide +kernel)) (fun _ h9 => h9) rfl dJx4a65c_add_9ea2d_17 ?_
  have hFc := va_free (wc := [(a, .inr (0, [.int y_1, .ref tE, .int 0])), (v, .inr (ci, vs))]) hD hS hA [0, 1] rfl
  refine va_callv (va_runV (As := [.ref v, .ref tE, .int 0]) (rest := []) ⟨hx, hb, hml, hown, hts⟩ (c_add1 l hl9 kS tE dC dI H.size a y_1 v ci vs rc hrc hca) (cwV 3 hts gJx4a65c_add_9ea2d_Jx4a65c_add_72be8 rfl rfl rfl (by decide +kernel) ⟨Nat.le_of_ble_eq_true rfl, Nat.le_of_ble_eq_true rfl⟩) (gb_preV hZT hZ hS hFc hP hD hK (va_recv hK hP (ci := 0) (q0 := 0) rfl rfl)) rfl rfl hl.1 rfl (lv_room (Nat.le_of_ble_eq_true rfl)) dJx4a65c_add_9ea2d_20 ⟨Nat.le_of_ble_eq_true rfl, Nat.le_of_ble_eq_true rfl⟩) hS (fun q _ h => hFc q h) hFc (fun u t H locs ht hvm hw hB hz1 hk1 hS => ?_)
  obtain ⟨ea_3, k_4, hP1, hK1, hD1⟩ := hB
  rw [ht] at hP1
  have hK1 := va_K.moved hvm.symm hK1
  obtain ⟨hP, hD⟩ := va_join (wr := []) (w1 := [(a, .inr (0, [.int y_1, .ref ea_3, .int 1])), (ea_3, .inl (k_4, 10, .inr (.inr (.inr (.inr (va_up (fun _ => none) (0 : Int32).toNatClampNeg (some v))))))), (v, .inr (ci, vs))]) hP hD [0, 1] [] rfl rfl (by decide) (by decide) hk1 hFc hP1 hD1
  have hP : va_P (dC, dI) vwCl [(a, .inr (0, [.int y_1, .ref ea_3, .int 1])), (ea_3, .inl (k_4, 10, .inr (.inr (.inr (.inr (va_up (fun _ => none) (0 : Int32).toNatClampNeg (some v))))))), (v, .inr (ci, vs))] H := hP
  have hD : va_D A [(a, .inr (0, [.int y_1, .ref ea_3, .int 1])), (ea_3, .inl (k_4, 10, .inr (.inr (.inr (.inr (va_up (fun _ => none) (0 : Int32).toNatClampNeg (some v))))))), (v, .inr (ci, vs))] := hD
  have hK := hK.app (hK1.sub (tys' := [(k_4, .object "java/lang/Object")]) [0] rfl)
  have hK : va_K (dC, dI) vwCl [(k_4, .object "java/lang/Object")] s := hK
  refine lv_iconst (v := 1) hx hb dJx4a65c_add_9ea2d_23 (by decide) ?_
  refine W.widen (k := 1) (n := 10) (Nat.le_of_ble_eq_true rfl) (Nat.le_of_ble_eq_true rfl) ?_
  have hP9 := hP.sub (ws' := [(a, .inr (0, [.int y_1, .ref ea_3, .int 1])), (ea_3, .inl (k_4, 10, .inr (.inr (.inr (.inr (va_up (fun _ => none) (0 : Int32).toNatClampNeg (some v))))))), (v, .inr (ci, vs))]) [0, 1, 2] rfl
  have hD9 := hD.sub (ws' := [(a, .inr (0, [.int y_1, .ref ea_3, .int 1])), (ea_3, .inl (k_4, 10, .inr (.inr (.inr (.inr (va_up (fun _ => none) (0 : Int32).toNatClampNeg (some v))))))), (v, .inr (ci, vs))]) [0, 1, 2] (by decide) rfl
  have hK9 := hK.sub (tys' := [(k_4, .object "java/lang/Object")]) [0] rfl
  exact W.zret (v := 1) hx hb hr rfl (fun t ht hW => ⟨⟨1, (), rfl, trivial, ⟨y_1, ea_3, k_4, by rw [ht]; exact hP9, va_K.moved hW.alike hK9, hD9⟩⟩, hS.F ht⟩) hS.2.2 dJx4a65c_add_9ea2d_24

theorem la_20 (n : Int32) (hne : ¬ n = 10) (c_1 : n = 10) : False := by
  (try simp only [gb_okD, gb_okG, gb_okW, gb_days, gb_in, gb_lt, gb_le, gb_eq, gb_l0, gb_l1, gb_l2, gb_l3, gb_l4, gb_l5, gb_l10, gb_l19, gb_l20, gb_l40, gb_l60, gb_l1000, gb_l1500, gb_lm1, gb_l65536, true_and, and_true, false_and, and_false, true_or, or_true, false_or, or_false, not_true_eq_false, not_false_eq_true, ne_eq] at *) <;> omega
set_option maxHeartbeats 4000000 in
set_option maxRecDepth 100000 in
theorem c_add2 (l : Launch) (hl9 : l.stackTraces = false) (kS : Nat → Nat) (tE : Nat) (dC : Nat → ClassId) (dI : Nat → Nat → Nat) (sz : Nat) (a : Nat) (mo : Int32) (ea : Nat) (n : Int32) (n1 : Int32) (k : ClassId) (f : Nat → Option Nat) (v : Nat) (ci : Nat) (vs : List Value) (rc : vw_C) (hrc : vwCl[ci]? = some rc) (hca : ∀ U : State, gb_ZT kS U → va_Nw (.castable rc.1 "java/lang/Object") U) (hin : vp_in n 10) (hne : ¬ n = 10) (hn1 : n + 1 = n1) : Met l yJx4a65c_add_72be8 wsJx4a65c_add_72be8 ({ frames := 0, cells := 0, slots := 0, locals := 0 }) (va_Pc [.ref a, .ref v, .ref ea, .int n] (gb_Pw kS tE (va_A [(a, .inr (0, [.int mo, .ref ea, .int n])), (ea, .inl (k, 10, .inr (.inr (.inr (.inr f))))), (v, .inr (ci, vs))] sz) (dC, dI) [(k, .object "java/lang/Object")] [(a, .inr (0, [.int mo, .ref ea, .int n])), (ea, .inl (k, 10, .inr (.inr (.inr (.inr f))))), (v, .inr (ci, vs))] sz)) (va_Qv (fun _ : Unit => True) (fun _ t => va_P (dC, dI) vwCl [(a, .inr (0, [.int mo, .ref ea, .int n1])), (ea, .inl (k, 10, .inr (.inr (.inr (.inr (va_up f n.toNatClampNeg (some v))))))), (v, .inr (ci, vs))] t.heap ∧ va_K (dC, dI) vwCl [(k, .object "java/lang/Object")] t ∧ va_D (va_A [(a, .inr (0, [.int mo, .ref ea, .int n])), (ea, .inl (k, 10, .inr (.inr (.inr (.inr f))))), (v, .inr (ci, vs))] sz) [(a, .inr (0, [.int mo, .ref ea, .int n1])), (ea, .inl (k, 10, .inr (.inr (.inr (.inr (va_up f n.toNatClampNeg (some v))))))), (v, .inr (ci, vs))]) (va_A [(a, .inr (0, [.int mo, .ref ea, .int n])), (ea, .inl (k, 10, .inr (.inr (.inr (.inr f))))), (v, .inr (ci, vs))] sz)) 0 0 (va_A [(a, .inr (0, [.int mo, .ref ea, .int n])), (ea, .inl (k, 10, .inr (.inr (.inr (.inr f))))), (v, .inr (ci, vs))] sz) := by
  refine Met.ofW (cc := cJx4a65c_add_72be8) (maxL := 4) (ret := none) (by decide) rfl ?_
  intro p e s m args below meth c s₁ B hml hv
  obtain ⟨rfl, hsz, hZT, hZ, hP, hK, hD0⟩ := hv
  have hx := B.exec
  have hb := B.bytes
  have hr := B.returns
  have hts := atoms_spec (ws := wsJx4a65c_add_72be8) B.pre
  have hown : s.vm.findClass RJx4a65c = some m.cls := findClass_of_methodNamed B.named
  have hlocks := B.notSynchronized
  subst hsz
  have hi0 : ∀ w ∈ u_ws RJx4a65c TJx4a65c 3, w ∈ wsJx4a65c_add_72be8 := by decide +kernel
  have hD := hD0.self (sz := s.heap.size)
  generalize hAe : va_A [(a, .inr (0, [.int mo, .ref ea, .int n])), (ea, .inl (k, 10, .inr (.inr (.inr (.inr f))))), (v, .inr (ci, vs))] s.heap.size = A at hZ hD ⊢
  have hA : ∀ q : Nat, s.heap.size ≤ q → A q := fun q h => by rw [← hAe]; exact Or.inr h
  have hS : va_S A s.heap s.heap [] := va_S.rf
  have hP : va_P (dC, dI) vwCl [(a, .inr (0, [.int mo, .ref ea, .int n])), (ea, .inl (k, 10, .inr (.inr (.inr (.inr f))))), (v, .inr (ci, vs))] s.heap := hP
  have hl := lv_entry ([.ref a, .ref v, .ref ea, .int n]) (n := 4) (Nat.le_of_ble_eq_true rfl)
  rw [lg_entry_eq]
  generalize (lg_sl ([.ref a, .ref v, .ref ea, .int n]) ++ List.replicate (4 - (lg_sl ([.ref a, .ref v, .ref ea, .int n])).length) Slot.unset).toArray = ls at hl ⊢
  have hl : lv_has ls 4 [(0, .ref a), (1, .ref v), (2, .ref ea), (3, .int n)] := hl
  refine lv_iload_n hx hb dJx4a65c_add_72be8_0 rfl (lv_at hl 3 rfl) ?_
  refine lv_aload_n hx hb dJx4a65c_add_72be8_1 rfl (lv_at hl 2 rfl) ?_
  refine va_alen (v := 10) hx hb hK hP 1 0 rfl rfl rfl dJx4a65c_add_72be8_2 ?_
  refine lv_icmp_ne (tgt := 11) hx hb dJx4a65c_add_72be8_3 (by decide) (fun c_1 => ?_) (fun c_1 => ?_)
  · refine lv_aload_n hx hb dJx4a65c_add_72be8_11 rfl (lv_at hl 2 rfl) ?_
    refine lv_iload_n hx hb dJx4a65c_add_72be8_12 rfl (lv_at hl 3 rfl) ?_
    refine lv_aload_n hx hb dJx4a65c_add_72be8_13 rfl (lv_at hl 1 rfl) ?_
    refine va_astqO hx hb hK hP hD hS 1 0 2 ci (r := rc) rfl rfl (hca s hZT) rfl hrc hin dJx4a65c_add_72be8_14 (fun H locs hP hD hS => ?_)
    have hP : va_P (dC, dI) vwCl [(a, .inr (0, [.int mo, .ref ea, .int n])), (ea, .inl (k, 10, .inr (.inr (.inr (.inr (va_up f n.toNatClampNeg (some v))))))), (v, .inr (ci, vs))] H := hP
    have hD : va_D A [(a, .inr (0, [.int mo, .ref ea, .int n])), (ea, .inl (k, 10, .inr (.inr (.inr (.inr (va_up f n.toNatClampNeg (some v))))))), (v, .inr (ci, vs))] := hD
    refine lv_aload_n hx hb dJx4a65c_add_72be8_15 rfl (lv_at hl 0 rfl) ?_
    refine lv_iload_n hx hb dJx4a65c_add_72be8_16 rfl (lv_at hl 3 rfl) ?_
    refine lv_iconst (v := 1) hx hb dJx4a65c_add_72be8_17 (by decide) ?_
    refine lv_iadd hx hb dJx4a65c_add_72be8_18 ?_
    refine lv_topi (fun y9 e9 => ?_)
    obtain rfl : n1 = y9 := (e9.trans hn1).symm
    refine va_put (D := (dC, dI)) (ci := 0) (v := .int n1) (ty := .int) (C := RJx4a65c) (T := TJx4a65c) (N := 3) hx hb hts hi0 tyJx4a65c tyJx4a65c_ok nmJx4a65c hown hK hP hD hS 0 rfl rfl 2 (by decide) (hts (.fieldLink RJx4a65c 48 "java/util/ArrayList" "size" "I") (by decide +kernel)) (fun _ h9 => h9) rfl (by decide +kernel) rfl rfl (Nat.le_of_ble_eq_true rfl) dJx4a65c_add_72be8_19 (fun H locs hP hD hS => ?_)
    have hP : va_P (dC, dI) vwCl [(a, .inr (0, [.int mo, .ref ea, .int n1])), (ea, .inl (k, 10, .inr (.inr (.inr (.inr (va_up f n.toNatClampNeg (some v))))))), (v, .inr (ci, vs))] H := hP
    have hD : va_D A [(a, .inr (0, [.int mo, .ref ea, .int n1])), (ea, .inl (k, 10, .inr (.inr (.inr (.inr (va_up f n.toNatClampNeg (some v))))))), (v, .inr (ci, vs))] := hD
    refine W.widen (k := 0) (n := 0) (Nat.le_of_ble_eq_true rfl) (Nat.le_of_ble_eq_true rfl) ?_
    have hP9 := hP.sub (ws' := [(a, .inr (0, [.int mo, .ref ea, .int n1])), (ea, .inl (k, 10, .inr (.inr (.inr (.inr (va_up f n.toNatClampNeg (some v))))))), (v, .inr (ci, vs))]) [0, 1, 2] rfl
    have hD9 := hD.sub (ws' := [(a, .inr (0, [.int mo, .ref ea, .int n1])), (ea, .inl (k, 10, .inr (.inr (.inr (.inr (va_up f n.toNatClampNeg (some v))))))), (v, .inr (ci, vs))]) [0, 1, 2] (by decide) rfl
    have hK9 := hK.sub (tys' := [(k, .object "java/lang/Object")]) [0] rfl
    exact W.vret hx hb hr (fun t ht hW => ⟨⟨(), rfl, trivial, ⟨by rw [ht]; exact hP9, va_K.moved hW.alike hK9, hD9⟩⟩, hS.F ht⟩) hS.2.2 dJx4a65c_add_72be8_22
  · exact (la_20 n hne c_1).elim

set_option maxHeartbeats 4000000 in
set_option maxRecDepth 100000 in
theorem c_addr (l : Launch) (hl9 : l.stackTraces = false) (kS : Nat → Nat) (tE : Nat) (dC : Nat → ClassId) (dI : Nat → Nat → Nat) (sz : Nat) (a : Nat) (mo : Int32) (ea : Nat) (n : Int32) (n1 : Int32) (k : ClassId) (f : Nat → Option Nat) (v : Nat) (ci : Nat) (vs : List Value) (rc : vw_C) (hrc : vwCl[ci]? = some rc) (hca : ∀ U : State, gb_ZT kS U → va_Nw (.castable rc.1 "java/lang/Object") U) (hin : vp_in n 10) (hne : ¬ n = 10) (hn1 : n + 1 = n1) : Met l yJx4a65c_add_9ea2d wsJx4a65c_add_9ea2d ({ frames := 1, cells := 0, slots := 0, locals := 23 }) (va_Pc [.ref a, .ref v] (gb_Pw kS tE (va_A [(a, .inr (0, [.int mo, .ref ea, .int n])), (ea, .inl (k, 10, .inr (.inr (.inr (.inr f))))), (v, .inr (ci, vs))] sz) (dC, dI) [(k, .object "java/lang/Object")] [(a, .inr (0, [.int mo, .ref ea, .int n])), (ea, .inl (k, 10, .inr (.inr (.inr (.inr f))))), (v, .inr (ci, vs))] sz)) (va_Qi (fun (_ : Int32) (_ : Unit) => True) (fun _ t => ∃ (m1 : Int32), va_P (dC, dI) vwCl [(a, .inr (0, [.int m1, .ref ea, .int n1])), (ea, .inl (k, 10, .inr (.inr (.inr (.inr (va_up f n.toNatClampNeg (some v))))))), (v, .inr (ci, vs))] t.heap ∧ va_K (dC, dI) vwCl [(k, .object "java/lang/Object")] t ∧ va_D (va_A [(a, .inr (0, [.int mo, .ref ea, .int n])), (ea, .inl (k, 10, .inr (.inr (.inr (.inr f))))), (v, .inr (ci, vs))] sz) [(a, .inr (0, [.int m1, .ref ea, .int n1])), (ea, .inl (k, 10, .inr (.inr (.inr (.inr (va_up f n.toNatClampNeg (some v))))))), (v, .inr (ci, vs))]) (va_A [(a, .inr (0, [.int mo, .ref ea, .int n])), (ea, .inl (k, 10, .inr (.inr (.inr (.inr f))))), (v, .inr (ci, vs))] sz)) 0 0 (va_A [(a, .inr (0, [.int mo, .ref ea, .int n])), (ea, .inl (k, 10, .inr (.inr (.inr (.inr f))))), (v, .inr (ci, vs))] sz) := by
  refine Met.ofW (cc := cJx4a65c_add_9ea2d) (maxL := 2) (ret := (some .boolean)) (by decide) rfl ?_
  intro p e s m args below meth c s₁ B hml hv
  obtain ⟨rfl, hsz, hZT, hZ, hP, hK, hD0⟩ := hv
  have hx := B.exec
  have hb := B.bytes
  have hr := B.returns
  have hts := atoms_spec (ws := wsJx4a65c_add_9ea2d) B.pre
  have hown : s.vm.findClass RJx4a65c = some m.cls := findClass_of_methodNamed B.named
  have hlocks := B.notSynchronized
  subst hsz
  have hi0 : ∀ w ∈ u_ws RJx4a65c TJx4a65c 3, w ∈ wsJx4a65c_add_9ea2d := by decide +kernel
  have hD := hD0.self (sz := s.heap.size)
  generalize hAe : va_A [(a, .inr (0, [.int mo, .ref ea, .int n])), (ea, .inl (k, 10, .inr (.inr (.inr (.inr f))))), (v, .inr (ci, vs))] s.heap.size = A at hZ hD ⊢
  have hA : ∀ q : Nat, s.heap.size ≤ q → A q := fun q h => by rw [← hAe]; exact Or.inr h
  have hS : va_S A s.heap s.heap [] := va_S.rf
  have hP : va_P (dC, dI) vwCl [(a, .inr (0, [.int mo, .ref ea, .int n])), (ea, .inl (k, 10, .inr (.inr (.inr (.inr f))))), (v, .inr (ci, vs))] s.heap := hP
  have hl := lv_entry ([.ref a, .ref v]) (n := 2) (Nat.le_of_ble_eq_true rfl)
  rw [lg_entry_eq]
  generalize (lg_sl ([.ref a, .ref v]) ++ List.replicate (2 - (lg_sl ([.ref a, .ref v])).length) Slot.unset).toArray = ls at hl ⊢
  have hl : lv_has ls 2 [(0, .ref a), (1, .ref v)] := hl
  refine lv_aload_n hx hb dJx4a65c_add_9ea2d_0 rfl (lv_at hl 0 rfl) ?_
  refine lv_dup hx hb dJx4a65c_add_9ea2d_1 rfl ?_
  refine va_get (D := (dC, dI)) (ci := 0) (v := .int mo) (C := RJx4a65c) (T := TJx4a65c) (N := 3) hx hb hts hi0 hown hK hP 0 rfl rfl 0 (by decide) (hts (.fieldLink RJx4a65c 63 "java/util/ArrayList" "modCount" "I") (by decide +kernel)) (fun x9 h9 => u_same (hts (.sameField "java/util/ArrayList" "java/util/AbstractList" "modCount" "I") (by decide +kernel)) x9 h9) rfl dJx4a65c_add_9ea2d_2 ?_
  refine lv_iconst (v := 1) hx hb dJx4a65c_add_9ea2d_5 (by decide) ?_
  refine lv_iadd hx hb dJx4a65c_add_9ea2d_6 ?_
  refine lv_topi (fun y_1 ey_1 => ?_)
  refine va_put (D := (dC, dI)) (ci := 0) (v := .int y_1) (ty := .int) (C := RJx4a65c) (T := TJx4a65c) (N := 3) hx hb hts hi0 tyJx4a65c tyJx4a65c_ok nmJx4a65c hown hK hP hD hS 0 rfl rfl 0 (by decide) (hts (.fieldLink RJx4a65c 63 "java/util/ArrayList" "modCount" "I") (by decide +kernel)) (fun x9 h9 => u_same (hts (.sameField "java/util/ArrayList" "java/util/AbstractList" "modCount" "I") (by decide +kernel)) x9 h9) rfl (by decide +kernel) rfl rfl (Nat.le_of_ble_eq_true rfl) dJx4a65c_add_9ea2d_7 (fun H locs hP hD hS => ?_)
  have hP : va_P (dC, dI) vwCl [(a, .inr (0, [.int y_1, .ref ea, .int n])), (ea, .inl (k, 10, .inr (.inr (.inr (.inr f))))), (v, .inr (ci, vs))] H := hP
  have hD : va_D A [(a, .inr (0, [.int y_1, .ref ea, .int n])), (ea, .inl (k, 10, .inr (.inr (.inr (.inr f))))), (v, .inr (ci, vs))] := hD
  refine lv_aload_n hx hb dJx4a65c_add_9ea2d_10 rfl (lv_at hl 0 rfl) ?_
  refine lv_aload_n hx hb dJx4a65c_add_9ea2d_11 rfl (lv_at hl 1 rfl) ?_
  refine lv_aload_n hx hb dJx4a65c_add_9ea2d_12 rfl (lv_at hl 0 rfl) ?_
  refine va_get (D := (dC, dI)) (ci := 0) (v := .ref ea) (C := RJx4a65c) (T := TJx4a65c) (N := 3) hx hb hts hi0 hown hK hP 0 rfl rfl 1 (by decide) (hts (.fieldLink RJx4a65c 9 "java/util/ArrayList" "elementData" "[Ljava/lang/Object;") (by decide +kernel)) (fun _ h9 => h9) rfl dJx4a65c_add_9ea2d_13 ?_
  refine lv_aload_n hx hb dJx4a65c_add_9ea2d_16 rfl (lv_at hl 0 rfl) ?_
  refine va_get (D := (dC, dI)) (ci := 0) (v := .int n) (C := RJx4a65c) (T := TJx4a65c) (N := 3) hx hb hts hi0 hown hK hP 0 rfl rfl 2 (by decide) (hts (.fieldLink RJx4a65c 48 "java/util/ArrayList" "size" "I") (by decide +kernel)) (fun _ h9 => h9) rfl dJx4a65c_add_9ea2d_17 ?_
  have hFc := va_free (wc := [(a, .inr (0, [.int y_1, .ref ea, .int n])), (ea, .inl (k, 10, .inr (.inr (.inr (.inr f))))), (v, .inr (ci, vs))]) hD hS hA [0, 1, 2] rfl
  refine va_callv (va_runV (As := [.ref v, .ref ea, .int n]) (rest := []) ⟨hx, hb, hml, hown, hts⟩ (c_add2 l hl9 kS tE dC dI H.size a y_1 ea n n1 k f v ci vs rc hrc hca hin hne hn1) (cwV 3 hts gJx4a65c_add_9ea2d_Jx4a65c_add_72be8 rfl rfl rfl (by decide +kernel) ⟨Nat.le_of_ble_eq_true rfl, Nat.le_of_ble_eq_true rfl⟩) (gb_preV hZT hZ hS hFc hP hD hK (va_recv hK hP (ci := 0) (q0 := 0) rfl rfl)) rfl rfl hl.1 rfl (lv_room (Nat.le_of_ble_eq_true rfl)) dJx4a65c_add_9ea2d_20 ⟨Nat.le_of_ble_eq_true rfl, Nat.le_of_ble_eq_true rfl⟩) hS (fun q _ h => hFc q h) hFc (fun u t H locs ht hvm hw hB hz1 hk1 hS => ?_)
  obtain ⟨hP1, hK1, hD1⟩ := hB
  rw [ht] at hP1
  have hK1 := va_K.moved hvm.symm hK1
  obtain ⟨hP, hD⟩ := va_join (wr := []) (w1 := [(a, .inr (0, [.int y_1, .ref ea, .int n1])), (ea, .inl (k, 10, .inr (.inr (.inr (.inr (va_up f n.toNatClampNeg (some v))))))), (v, .inr (ci, vs))]) hP hD [0, 1, 2] [] rfl rfl (by decide) (by decide) hk1 hFc hP1 hD1
  have hP : va_P (dC, dI) vwCl [(a, .inr (0, [.int y_1, .ref ea, .int n1])), (ea, .inl (k, 10, .inr (.inr (.inr (.inr (va_up f n.toNatClampNeg (some v))))))), (v, .inr (ci, vs))] H := hP
  have hD : va_D A [(a, .inr (0, [.int y_1, .ref ea, .int n1])), (ea, .inl (k, 10, .inr (.inr (.inr (.inr (va_up f n.toNatClampNeg (some v))))))), (v, .inr (ci, vs))] := hD
  refine lv_iconst (v := 1) hx hb dJx4a65c_add_9ea2d_23 (by decide) ?_
  refine W.widen (k := 0) (n := 0) (Nat.le_of_ble_eq_true rfl) (Nat.le_of_ble_eq_true rfl) ?_
  have hP9 := hP.sub (ws' := [(a, .inr (0, [.int y_1, .ref ea, .int n1])), (ea, .inl (k, 10, .inr (.inr (.inr (.inr (va_up f n.toNatClampNeg (some v))))))), (v, .inr (ci, vs))]) [0, 1, 2] rfl
  have hD9 := hD.sub (ws' := [(a, .inr (0, [.int y_1, .ref ea, .int n1])), (ea, .inl (k, 10, .inr (.inr (.inr (.inr (va_up f n.toNatClampNeg (some v))))))), (v, .inr (ci, vs))]) [0, 1, 2] (by decide) rfl
  have hK9 := hK.sub (tys' := [(k, .object "java/lang/Object")]) [0] rfl
  exact W.zret (v := 1) hx hb hr rfl (fun t ht hW => ⟨⟨1, (), rfl, trivial, ⟨y_1, by rw [ht]; exact hP9, va_K.moved hW.alike hK9, hD9⟩⟩, hS.F ht⟩) hS.2.2 dJx4a65c_add_9ea2d_24

set_option maxHeartbeats 4000000 in
set_option maxRecDepth 100000 in
theorem c_X0_init (l : Launch) (hl9 : l.stackTraces = false) (kS : Nat → Nat) (tE : Nat) (dC : Nat → ClassId) (dI : Nat → Nat → Nat) (sz : Nat) (a : Nat) : Met l yX0_init wsX0_init ({ frames := 1, cells := 0, slots := 0, locals := 12 }) (va_Pc [.ref a] (gb_Pw kS tE (va_A [(a, .inr (1, [.int 0, .int 0]))] sz) (dC, dI) [] [(a, .inr (1, [.int 0, .int 0]))] sz)) (va_Qv (fun _ : Unit => True) (fun _ t => va_P (dC, dI) vwCl [(a, .inr (1, [.int 0, .int (-1)]))] t.heap ∧ va_K (dC, dI) vwCl [] t ∧ va_D (va_A [(a, .inr (1, [.int 0, .int 0]))] sz) [(a, .inr (1, [.int 0, .int (-1)]))]) (va_A [(a, .inr (1, [.int 0, .int 0]))] sz)) 0 0 (va_A [(a, .inr (1, [.int 0, .int 0]))] sz) := by
  refine Met.ofW (cc := cX0_init) (maxL := 1) (ret := none) (by decide) rfl ?_
  intro p e s m args below meth c s₁ B hml hv
  obtain ⟨rfl, hsz, hZT, hZ, hP, hK, hD0⟩ := hv
  have hx := B.exec
  have hb := B.bytes
  have hr := B.returns
  have hts := atoms_spec (ws := wsX0_init) B.pre
  have hown : s.vm.findClass RX0 = some m.cls := findClass_of_methodNamed B.named
  have hlocks := B.notSynchronized
  have hin : meth.name = "<init>" := (name_of_methodNamed B.named B.method).1
  subst hsz
  have hi1 : ∀ w ∈ u_ws RX0 TX0 2, w ∈ wsX0_init := by decide +kernel
  have hD := hD0.self (sz := s.heap.size)
  generalize hAe : va_A [(a, .inr (1, [.int 0, .int 0]))] s.heap.size = A at hZ hD ⊢
  have hA : ∀ q : Nat, s.heap.size ≤ q → A q := fun q h => by rw [← hAe]; exact Or.inr h
  have hS : va_S A s.heap s.heap [] := va_S.rf
  have hP : va_P (dC, dI) vwCl [(a, .inr (1, [.int 0, .int 0]))] s.heap := hP
  have hl := lv_entry ([.ref a]) (n := 1) (Nat.le_of_ble_eq_true rfl)
  rw [lg_entry_eq]
  generalize (lg_sl ([.ref a]) ++ List.replicate (1 - (lg_sl ([.ref a])).length) Slot.unset).toArray = ls at hl ⊢
  have hl : lv_has ls 1 [(0, .ref a)] := hl
  refine lv_aload_n hx hb dX0_init_0 rfl (lv_at hl 0 rfl) ?_
  refine W.objInit hx hb hown (hts (.methodLink RX0 3 objectInit) (by decide +kernel)) (hts (.instanceMethod objectInit) (by decide +kernel)) (hts (.code objectInit ⟨#[0xb1]⟩ 1 none) (by decide +kernel)) rfl (by rw [hml]; exact hl.1) rfl dX0_init_1 (Nat.le_of_ble_eq_true rfl) (Nat.le_of_ble_eq_true rfl) ?_
  refine W.eq (g2 := F0 m 4 ls []) rfl ?_
  refine lv_aload_n hx hb dX0_init_4 rfl (lv_at hl 0 rfl) ?_
  refine lv_iconst (v := 0) hx hb dX0_init_5 (by decide) ?_
  refine va_put (D := (dC, dI)) (ci := 1) (v := .int 0) (ty := .int) (C := RX0) (T := TX0) (N := 2) hx hb hts hi1 tyX0 tyX0_ok nmX0 hown hK hP hD hS 0 rfl rfl 0 (by decide) (hts (.fieldLink RX0 9 "GlacierBook$Days" "from" "I") (by decide +kernel)) (fun _ h9 => h9) rfl (by decide +kernel) rfl rfl (Nat.le_of_ble_eq_true rfl) dX0_init_6 (fun H locs hP hD hS => ?_)
  have hP : va_P (dC, dI) vwCl [(a, .inr (1, [.int 0, .int 0]))] H := hP
  have hD : va_D A [(a, .inr (1, [.int 0, .int 0]))] := hD
  refine lv_aload_n hx hb dX0_init_9 rfl (lv_at hl 0 rfl) ?_
  refine lv_iconst (v := (-1)) hx hb dX0_init_10 (by decide) ?_
  refine va_put (D := (dC, dI)) (ci := 1) (v := .int (-1)) (ty := .int) (C := RX0) (T := TX0) (N := 2) hx hb hts hi1 tyX0 tyX0_ok nmX0 hown hK hP hD hS 0 rfl rfl 1 (by decide) (hts (.fieldLink RX0 15 "GlacierBook$Days" "to" "I") (by decide +kernel)) (fun _ h9 => h9) rfl (by decide +kernel) rfl rfl (Nat.le_of_ble_eq_true rfl) dX0_init_11 (fun H locs hP hD hS => ?_)
  have hP : va_P (dC, dI) vwCl [(a, .inr (1, [.int 0, .int (-1)]))] H := hP
  have hD : va_D A [(a, .inr (1, [.int 0, .int (-1)]))] := hD
  refine W.widen (k := 0) (n := 0) (Nat.le_of_ble_eq_true rfl) (Nat.le_of_ble_eq_true rfl) ?_
  have hP9 := hP.sub (ws' := [(a, .inr (1, [.int 0, .int (-1)]))]) [0] rfl
  have hD9 := hD.sub (ws' := [(a, .inr (1, [.int 0, .int (-1)]))]) [0] (by decide) rfl
  have hK9 := hK.sub (tys' := []) [] rfl
  exact W.vret hx hb hr (fun t ht hW => ⟨⟨(), rfl, trivial, ⟨by rw [ht]; exact hP9, va_K.moved hW.alike hK9, hD9⟩⟩, hS.F ht⟩) hS.2.2 dX0_init_14

set_option maxHeartbeats 4000000 in
set_option maxRecDepth 100000 in
theorem c_X0_become (l : Launch) (hl9 : l.stackTraces = false) (kS : Nat → Nat) (tE : Nat) (dC : Nat → ClassId) (dI : Nat → Nat → Nat) (sz : Nat) (a : Nat) (f0 : Int32) (t0 : Int32) (p0 : Int32) (p1 : Int32) : Met l yX0_become wsX0_become ({ frames := 0, cells := 0, slots := 0, locals := 0 }) (va_Pc [.ref a, .int p0, .int p1] (gb_Pw kS tE (va_A [(a, .inr (1, [.int f0, .int t0]))] sz) (dC, dI) [] [(a, .inr (1, [.int f0, .int t0]))] sz)) (va_Qv (fun _ : Unit => True) (fun _ t => va_P (dC, dI) vwCl [(a, .inr (1, [.int p0, .int p1]))] t.heap ∧ va_K (dC, dI) vwCl [] t ∧ va_D (va_A [(a, .inr (1, [.int f0, .int t0]))] sz) [(a, .inr (1, [.int p0, .int p1]))]) (va_A [(a, .inr (1, [.int f0, .int t0]))] sz)) 0 0 (va_A [(a, .inr (1, [.int f0, .int t0]))] sz) := by
  refine Met.ofW (cc := cX0_become) (maxL := 3) (ret := none) (by decide) rfl ?_
  intro p e s m args below meth c s₁ B hml hv
  obtain ⟨rfl, hsz, hZT, hZ, hP, hK, hD0⟩ := hv
  have hx := B.exec
  have hb := B.bytes
  have hr := B.returns
  have hts := atoms_spec (ws := wsX0_become) B.pre
  have hown : s.vm.findClass RX0 = some m.cls := findClass_of_methodNamed B.named
  have hlocks := B.notSynchronized
  subst hsz
  have hi1 : ∀ w ∈ u_ws RX0 TX0 2, w ∈ wsX0_become := by decide +kernel
  have hD := hD0.self (sz := s.heap.size)
  generalize hAe : va_A [(a, .inr (1, [.int f0, .int t0]))] s.heap.size = A at hZ hD ⊢
  have hA : ∀ q : Nat, s.heap.size ≤ q → A q := fun q h => by rw [← hAe]; exact Or.inr h
  have hS : va_S A s.heap s.heap [] := va_S.rf
  have hP : va_P (dC, dI) vwCl [(a, .inr (1, [.int f0, .int t0]))] s.heap := hP
  have hl := lv_entry ([.ref a, .int p0, .int p1]) (n := 3) (Nat.le_of_ble_eq_true rfl)
  rw [lg_entry_eq]
  generalize (lg_sl ([.ref a, .int p0, .int p1]) ++ List.replicate (3 - (lg_sl ([.ref a, .int p0, .int p1])).length) Slot.unset).toArray = ls at hl ⊢
  have hl : lv_has ls 3 [(0, .ref a), (1, .int p0), (2, .int p1)] := hl
  refine lv_aload_n hx hb dX0_become_0 rfl (lv_at hl 0 rfl) ?_
  refine lv_iload_n hx hb dX0_become_1 rfl (lv_at hl 1 rfl) ?_
  refine va_put (D := (dC, dI)) (ci := 1) (v := .int p0) (ty := .int) (C := RX0) (T := TX0) (N := 2) hx hb hts hi1 tyX0 tyX0_ok nmX0 hown hK hP hD hS 0 rfl rfl 0 (by decide) (hts (.fieldLink RX0 9 "GlacierBook$Days" "from" "I") (by decide +kernel)) (fun _ h9 => h9) rfl (by decide +kernel) rfl rfl (Nat.le_of_ble_eq_true rfl) dX0_become_2 (fun H locs hP hD hS => ?_)
  have hP : va_P (dC, dI) vwCl [(a, .inr (1, [.int p0, .int t0]))] H := hP
  have hD : va_D A [(a, .inr (1, [.int p0, .int t0]))] := hD
  refine lv_aload_n hx hb dX0_become_5 rfl (lv_at hl 0 rfl) ?_
  refine lv_iload_n hx hb dX0_become_6 rfl (lv_at hl 2 rfl) ?_
  refine va_put (D := (dC, dI)) (ci := 1) (v := .int p1) (ty := .int) (C := RX0) (T := TX0) (N := 2) hx hb hts hi1 tyX0 tyX0_ok nmX0 hown hK hP hD hS 0 rfl rfl 1 (by decide) (hts (.fieldLink RX0 15 "GlacierBook$Days" "to" "I") (by decide +kernel)) (fun _ h9 => h9) rfl (by decide +kernel) rfl rfl (Nat.le_of_ble_eq_true rfl) dX0_become_7 (fun H locs hP hD hS => ?_)
  have hP : va_P (dC, dI) vwCl [(a, .inr (1, [.int p0, .int p1]))] H := hP
  have hD : va_D A [(a, .inr (1, [.int p0, .int p1]))] := hD
  refine W.widen (k := 0) (n := 0) (Nat.le_of_ble_eq_true rfl) (Nat.le_of_ble_eq_true rfl) ?_
  have hP9 := hP.sub (ws' := [(a, .inr (1, [.int p0, .int p1]))]) [0] rfl
  have hD9 := hD.sub (ws' := [(a, .inr (1, [.int p0, .int p1]))]) [0] (by decide) rfl
  have hK9 := hK.sub (tys' := []) [] rfl
  exact W.vret hx hb hr (fun t ht hW => ⟨⟨(), rfl, trivial, ⟨by rw [ht]; exact hP9, va_K.moved hW.alike hK9, hD9⟩⟩, hS.F ht⟩) hS.2.2 dX0_become_10

theorem la_21 (f0 : Int32) (t0 : Int32) (p0 : Int32) (c_1 : p0 < f0) : ((0 : Int32) = 1 ∧ f0 ≤ p0 ∧ p0 ≤ t0) ∨ ((0 : Int32) = 0 ∧ ¬ (f0 ≤ p0 ∧ p0 ≤ t0)) := by
  (try simp only [gb_okD, gb_okG, gb_okW, gb_days, gb_in, gb_lt, gb_le, gb_eq, gb_l0, gb_l1, gb_l2, gb_l3, gb_l4, gb_l5, gb_l10, gb_l19, gb_l20, gb_l40, gb_l60, gb_l1000, gb_l1500, gb_lm1, gb_l65536, true_and, and_true, false_and, and_false, true_or, or_true, false_or, or_false, not_true_eq_false, not_false_eq_true, ne_eq] at *) <;> omega
theorem la_22 (f0 : Int32) (t0 : Int32) (p0 : Int32) (c_1 : ¬ p0 < f0) (c_2 : t0 < p0) : ((0 : Int32) = 1 ∧ f0 ≤ p0 ∧ p0 ≤ t0) ∨ ((0 : Int32) = 0 ∧ ¬ (f0 ≤ p0 ∧ p0 ≤ t0)) := by
  (try simp only [gb_okD, gb_okG, gb_okW, gb_days, gb_in, gb_lt, gb_le, gb_eq, gb_l0, gb_l1, gb_l2, gb_l3, gb_l4, gb_l5, gb_l10, gb_l19, gb_l20, gb_l40, gb_l60, gb_l1000, gb_l1500, gb_lm1, gb_l65536, true_and, and_true, false_and, and_false, true_or, or_true, false_or, or_false, not_true_eq_false, not_false_eq_true, ne_eq] at *) <;> omega
theorem la_23 (f0 : Int32) (t0 : Int32) (p0 : Int32) (c_1 : ¬ p0 < f0) (c_2 : ¬ t0 < p0) : ((1 : Int32) = 1 ∧ f0 ≤ p0 ∧ p0 ≤ t0) ∨ ((1 : Int32) = 0 ∧ ¬ (f0 ≤ p0 ∧ p0 ≤ t0)) := by
  (try simp only [gb_okD, gb_okG, gb_okW, gb_days, gb_in, gb_lt, gb_le, gb_eq, gb_l0, gb_l1, gb_l2, gb_l3, gb_l4, gb_l5, gb_l10, gb_l19, gb_l20, gb_l40, gb_l60, gb_l1000, gb_l1500, gb_lm1, gb_l65536, true_and, and_true, false_and, and_false, true_or, or_true, false_or, or_false, not_true_eq_false, not_false_eq_true, ne_eq] at *) <;> omega
set_option maxHeartbeats 4000000 in
set_option maxRecDepth 100000 in
theorem c_X0_include (l : Launch) (hl9 : l.stackTraces = false) (kS : Nat → Nat) (tE : Nat) (dC : Nat → ClassId) (dI : Nat → Nat → Nat) (sz : Nat) (a : Nat) (f0 : Int32) (t0 : Int32) (p0 : Int32) : Met l yX0_include wsX0_include ({ frames := 0, cells := 0, slots := 0, locals := 0 }) (va_Pc [.ref a, .int p0] (gb_Pw kS tE (gb_ro sz) (dC, dI) [] [(a, .inr (1, [.int f0, .int t0]))] sz)) (va_Qi (fun (r : Int32) (_ : Unit) => (r = 1 ∧ f0 ≤ p0 ∧ p0 ≤ t0) ∨ (r = 0 ∧ ¬ (f0 ≤ p0 ∧ p0 ≤ t0))) (fun _ _ => True) (gb_ro sz)) 0 0 (gb_ro sz) := by
  refine Met.ofW (cc := cX0_include) (maxL := 2) (ret := (some .boolean)) (by decide) rfl ?_
  intro p e s m args below meth c s₁ B hml hv
  obtain ⟨rfl, hsz, hZT, hZ, hP, hK, hD0⟩ := hv
  have hx := B.exec
  have hb := B.bytes
  have hr := B.returns
  have hts := atoms_spec (ws := wsX0_include) B.pre
  have hown : s.vm.findClass RX0 = some m.cls := findClass_of_methodNamed B.named
  have hlocks := B.notSynchronized
  subst hsz
  have hi1 : ∀ w ∈ u_ws RX0 TX0 2, w ∈ wsX0_include := by decide +kernel
  have hD := hD0
  generalize hAe : gb_ro s.heap.size = A at hZ ⊢
  have hA : ∀ q : Nat, s.heap.size ≤ q → A q := fun q h => by rw [← hAe]; exact h
  have hS : va_S A s.heap s.heap [] := va_S.rf
  have hP : va_P (dC, dI) vwCl [(a, .inr (1, [.int f0, .int t0]))] s.heap := hP
  have hl := lv_entry ([.ref a, .int p0]) (n := 2) (Nat.le_of_ble_eq_true rfl)
  rw [lg_entry_eq]
  generalize (lg_sl ([.ref a, .int p0]) ++ List.replicate (2 - (lg_sl ([.ref a, .int p0])).length) Slot.unset).toArray = ls at hl ⊢
  have hl : lv_has ls 2 [(0, .ref a), (1, .int p0)] := hl
  refine lv_aload_n hx hb dX0_include_0 rfl (lv_at hl 0 rfl) ?_
  refine va_get (D := (dC, dI)) (ci := 1) (v := .int f0) (C := RX0) (T := TX0) (N := 2) hx hb hts hi1 hown hK hP 0 rfl rfl 0 (by decide) (hts (.fieldLink RX0 9 "GlacierBook$Days" "from" "I") (by decide +kernel)) (fun _ h9 => h9) rfl dX0_include_1 ?_
  refine lv_iload_n hx hb dX0_include_4 rfl (lv_at hl 1 rfl) ?_
  refine lv_icmp_gt (tgt := 20) hx hb dX0_include_5 (by decide) (fun c_1 => ?_) (fun c_1 => ?_)
  · refine lv_iconst (v := 0) hx hb dX0_include_20 (by decide) ?_
    refine W.widen (k := 0) (n := 0) (Nat.le_of_ble_eq_true rfl) (Nat.le_of_ble_eq_true rfl) ?_
    exact W.zret (v := 0) hx hb hr rfl (fun t ht hW => ⟨⟨0, (), rfl, (la_21 f0 t0 p0 c_1), trivial⟩, hS.F ht⟩) hS.2.2 dX0_include_21
  · refine lv_iload_n hx hb dX0_include_8 rfl (lv_at hl 1 rfl) ?_
    refine lv_aload_n hx hb dX0_include_9 rfl (lv_at hl 0 rfl) ?_
    refine va_get (D := (dC, dI)) (ci := 1) (v := .int t0) (C := RX0) (T := TX0) (N := 2) hx hb hts hi1 hown hK hP 0 rfl rfl 1 (by decide) (hts (.fieldLink RX0 15 "GlacierBook$Days" "to" "I") (by decide +kernel)) (fun _ h9 => h9) rfl dX0_include_10 ?_
    refine lv_icmp_gt (tgt := 20) hx hb dX0_include_13 (by decide) (fun c_2 => ?_) (fun c_2 => ?_)
    · refine lv_iconst (v := 0) hx hb dX0_include_20 (by decide) ?_
      refine W.widen (k := 0) (n := 0) (Nat.le_of_ble_eq_true rfl) (Nat.le_of_ble_eq_true rfl) ?_
      exact W.zret (v := 0) hx hb hr rfl (fun t ht hW => ⟨⟨0, (), rfl, (la_22 f0 t0 p0 c_1 c_2), trivial⟩, hS.F ht⟩) hS.2.2 dX0_include_21
    · refine lv_iconst (v := 1) hx hb dX0_include_16 (by decide) ?_
      refine lv_goto (tgt := 21) hx hb dX0_include_17 (by decide) ?_
      refine W.widen (k := 0) (n := 0) (Nat.le_of_ble_eq_true rfl) (Nat.le_of_ble_eq_true rfl) ?_
      exact W.zret (v := 1) hx hb hr rfl (fun t ht hW => ⟨⟨1, (), rfl, (la_23 f0 t0 p0 c_1 c_2), trivial⟩, hS.F ht⟩) hS.2.2 dX0_include_21

set_option maxHeartbeats 4000000 in
set_option maxRecDepth 100000 in
theorem c_X1_init (l : Launch) (hl9 : l.stackTraces = false) (kS : Nat → Nat) (tE : Nat) (dC : Nat → ClassId) (dI : Nat → Nat → Nat) (sz : Nat) (a : Nat) (p0 : Int32) (p1 : Int32) (hb1 : p1 = 0 ∨ p1 = 1) : Met l yX1_init wsX1_init ({ frames := 2, cells := 1, slots := 2, locals := 32 }) (va_Pc [.ref a, .int p0, .int p1] (gb_Pw kS tE (va_A [(a, .inr (2, [.int 0, .null, .int 0]))] sz) (dC, dI) [] [(a, .inr (2, [.int 0, .null, .int 0]))] sz)) (va_Qv (fun _ : Unit => True) (fun _ t => ∃ (ea : Nat), va_P (dC, dI) vwCl [(a, .inr (2, [.int p0, .ref ea, .int p1])), (ea, .inr (1, [.int 0, .int (-1)]))] t.heap ∧ va_K (dC, dI) vwCl [] t ∧ va_D (va_A [(a, .inr (2, [.int 0, .null, .int 0]))] sz) [(a, .inr (2, [.int p0, .ref ea, .int p1])), (ea, .inr (1, [.int 0, .int (-1)]))]) (va_A [(a, .inr (2, [.int 0, .null, .int 0]))] sz)) 1 2 (va_A [(a, .inr (2, [.int 0, .null, .int 0]))] sz) := by
  refine Met.ofW (cc := cX1_init) (maxL := 3) (ret := none) (by decide) rfl ?_
  intro p e s m args below meth c s₁ B hml hv
  obtain ⟨rfl, hsz, hZT, hZ, hP, hK, hD0⟩ := hv
  have hx := B.exec
  have hb := B.bytes
  have hr := B.returns
  have hts := atoms_spec (ws := wsX1_init) B.pre
  have hown : s.vm.findClass RX1 = some m.cls := findClass_of_methodNamed B.named
  have hlocks := B.notSynchronized
  have hin : meth.name = "<init>" := (name_of_methodNamed B.named B.method).1
  subst hsz
  have hi1 : ∀ w ∈ u_ws RX0 TX0 2, w ∈ wsX1_init := by decide +kernel
  have hi2 : ∀ w ∈ u_ws RX1 TX1 3, w ∈ wsX1_init := by decide +kernel
  have hD := hD0.self (sz := s.heap.size)
  generalize hAe : va_A [(a, .inr (2, [.int 0, .null, .int 0]))] s.heap.size = A at hZ hD ⊢
  have hA : ∀ q : Nat, s.heap.size ≤ q → A q := fun q h => by rw [← hAe]; exact Or.inr h
  have hS : va_S A s.heap s.heap [] := va_S.rf
  have hP : va_P (dC, dI) vwCl [(a, .inr (2, [.int 0, .null, .int 0]))] s.heap := hP
  have hl := lv_entry ([.ref a, .int p0, .int p1]) (n := 3) (Nat.le_of_ble_eq_true rfl)
  rw [lg_entry_eq]
  generalize (lg_sl ([.ref a, .int p0, .int p1]) ++ List.replicate (3 - (lg_sl ([.ref a, .int p0, .int p1])).length) Slot.unset).toArray = ls at hl ⊢
  have hl : lv_has ls 3 [(0, .ref a), (1, .int p0), (2, .int p1)] := hl
  refine lv_aload_n hx hb dX1_init_0 rfl (lv_at hl 0 rfl) ?_
  refine W.objInit hx hb hown (hts (.methodLink RX1 1 objectInit) (by decide +kernel)) (hts (.instanceMethod objectInit) (by decide +kernel)) (hts (.code objectInit ⟨#[0xb1]⟩ 1 none) (by decide +kernel)) rfl (by rw [hml]; exact hl.1) rfl dX1_init_1 (Nat.le_of_ble_eq_true rfl) (Nat.le_of_ble_eq_true rfl) ?_
  refine W.eq (g2 := F0 m 4 ls []) rfl ?_
  refine lv_aload_n hx hb dX1_init_4 rfl (lv_at hl 0 rfl) ?_
  refine va_new (ci := 1) (fs := [.int 0, .int 0]) (C := RX0) (T := TX0) (N := 2) hx hb hts hi1 tyX0 tyX0_ok hown (hts (.classLink RX1 7 RX0) (by decide +kernel)) (hts (.instantiable RX0 2) (by decide +kernel)) (hts (.initialized RX0) (by decide +kernel)) hK hP hD hS hA rfl (fun j hj => by match j, hj with | 0, _ => rfl | 1, _ => rfl | j + 2, hj => omega) (Nat.le_of_ble_eq_true rfl) (Nat.le_of_ble_eq_true rfl) dX1_init_5 (fun q_1 H hP hD hS => ?_)
  have hP : va_P (dC, dI) vwCl [(a, .inr (2, [.int 0, .null, .int 0])), (q_1, .inr (1, [.int 0, .int 0]))] H := hP
  have hD : va_D A [(a, .inr (2, [.int 0, .null, .int 0])), (q_1, .inr (1, [.int 0, .int 0]))] := hD
  refine lv_dup hx hb dX1_init_8 rfl ?_
  have hPc := hP.sub (ws' := [(q_1, .inr (1, [.int 0, .int 0]))]) [1] rfl
  have hDc := hD.sub (ws' := [(q_1, .inr (1, [.int 0, .int 0]))]) [1] (by decide) rfl
  have hFc := va_free (wc := [(q_1, .inr (1, [.int 0, .int 0]))]) hD hS hA [1] rfl
  refine va_callv (va_runIN (As := []) (rest := [.ref q_1, .ref a]) ⟨hx, hb, hml, hown, hts⟩ (c_X0_init l hl9 kS tE dC dI H.size q_1) ⟨va_cnB 0 hts gX1_init_X0_init_n9 rfl rfl rfl hZT.2.2.2.1.2 (hts (.initialized RX0) (by decide +kernel)) (by decide +kernel) ⟨Nat.le_of_ble_eq_true rfl, Nat.le_of_ble_eq_true rfl⟩, rfl, hts (.instanceMethod yX0_init) (by decide +kernel)⟩ (gb_preS hZT hZ hS hFc hPc hDc hK) rfl rfl hl.1 rfl (lv_room (Nat.le_of_ble_eq_true rfl)) dX1_init_9 ⟨Nat.le_of_ble_eq_true rfl, Nat.le_of_ble_eq_true rfl⟩) hS (fun q _ h => hFc q h) hFc (fun u t H locs ht hvm hw hB hz1 hk1 hS => ?_)
  obtain ⟨hP1, hK1, hD1⟩ := hB
  rw [ht] at hP1
  have hK1 := va_K.moved hvm.symm hK1
  obtain ⟨hP, hD⟩ := va_join (wr := [(a, .inr (2, [.int 0, .null, .int 0]))]) (w1 := [(q_1, .inr (1, [.int 0, .int (-1)]))]) hP hD [1] [0] rfl rfl (by decide) (by decide) hk1 hFc hP1 hD1
  have hP : va_P (dC, dI) vwCl [(a, .inr (2, [.int 0, .null, .int 0])), (q_1, .inr (1, [.int 0, .int (-1)]))] H := hP
  have hD : va_D A [(a, .inr (2, [.int 0, .null, .int 0])), (q_1, .inr (1, [.int 0, .int (-1)]))] := hD
  refine va_putF (D := (dC, dI)) (ci := 2) (v := .ref q_1) (ty := .object "GlacierBook$Days") (C := RX1) (T := TX1) (N := 3) hx hb hts hi2 tyX1 tyX1_ok nmX1 hown hK hP hD hS 0 rfl rfl 1 (by decide) (hts (.fieldLink RX1 10 "GlacierBook$Depot" "cut" "LGlacierBook$Days;") (by decide +kernel)) (fun _ h9 => h9) rfl hin rfl (by decide +kernel) rfl rfl (Nat.le_of_ble_eq_true rfl) dX1_init_12 (fun H locs hP hD hS => ?_)
  have hP : va_P (dC, dI) vwCl [(a, .inr (2, [.int 0, .ref q_1, .int 0])), (q_1, .inr (1, [.int 0, .int (-1)]))] H := hP
  have hD : va_D A [(a, .inr (2, [.int 0, .ref q_1, .int 0])), (q_1, .inr (1, [.int 0, .int (-1)]))] := hD
  refine lv_aload_n hx hb dX1_init_15 rfl (lv_at hl 0 rfl) ?_
  refine lv_iload_n hx hb dX1_init_16 rfl (lv_at hl 1 rfl) ?_
  refine va_putF (D := (dC, dI)) (ci := 2) (v := .int p0) (ty := .int) (C := RX1) (T := TX1) (N := 3) hx hb hts hi2 tyX1 tyX1_ok nmX1 hown hK hP hD hS 0 rfl rfl 0 (by decide) (hts (.fieldLink RX1 16 "GlacierBook$Depot" "number" "I") (by decide +kernel)) (fun _ h9 => h9) rfl hin rfl (by decide +kernel) rfl rfl (Nat.le_of_ble_eq_true rfl) dX1_init_17 (fun H locs hP hD hS => ?_)
  have hP : va_P (dC, dI) vwCl [(a, .inr (2, [.int p0, .ref q_1, .int 0])), (q_1, .inr (1, [.int 0, .int (-1)]))] H := hP
  have hD : va_D A [(a, .inr (2, [.int p0, .ref q_1, .int 0])), (q_1, .inr (1, [.int 0, .int (-1)]))] := hD
  refine lv_aload_n hx hb dX1_init_20 rfl (lv_at hl 0 rfl) ?_
  refine lv_iload_n hx hb dX1_init_21 rfl (lv_at hl 2 rfl) ?_
  refine va_put (D := (dC, dI)) (ci := 2) (v := .int p1) (ty := .boolean) (C := RX1) (T := TX1) (N := 3) hx hb hts hi2 tyX1 tyX1_ok nmX1 hown hK hP hD hS 0 rfl rfl 2 (by decide) (hts (.fieldLink RX1 20 "GlacierBook$Depot" "warm" "Z") (by decide +kernel)) (fun _ h9 => h9) rfl (by decide +kernel) (gb_nb hb1) (gb_fb hb1) (Nat.le_of_ble_eq_true rfl) dX1_init_22 (fun H locs hP hD hS => ?_)
  have hP : va_P (dC, dI) vwCl [(a, .inr (2, [.int p0, .ref q_1, .int p1])), (q_1, .inr (1, [.int 0, .int (-1)]))] H := hP
  have hD : va_D A [(a, .inr (2, [.int p0, .ref q_1, .int p1])), (q_1, .inr (1, [.int 0, .int (-1)]))] := hD
  refine W.widen (k := 1) (n := 2) (Nat.le_of_ble_eq_true rfl) (Nat.le_of_ble_eq_true rfl) ?_
  have hP9 := hP.sub (ws' := [(a, .inr (2, [.int p0, .ref q_1, .int p1])), (q_1, .inr (1, [.int 0, .int (-1)]))]) [0, 1] rfl
  have hD9 := hD.sub (ws' := [(a, .inr (2, [.int p0, .ref q_1, .int p1])), (q_1, .inr (1, [.int 0, .int (-1)]))]) [0, 1] (by decide) rfl
  have hK9 := hK.sub (tys' := []) [] rfl
  exact W.vret hx hb hr (fun t ht hW => ⟨⟨(), rfl, trivial, ⟨q_1, by rw [ht]; exact hP9, va_K.moved hW.alike hK9, hD9⟩⟩, hS.F ht⟩) hS.2.2 dX1_init_25

set_option maxHeartbeats 4000000 in
set_option maxRecDepth 100000 in
theorem c_X4_init (l : Launch) (hl9 : l.stackTraces = false) (kS : Nat → Nat) (tE : Nat) (dC : Nat → ClassId) (dI : Nat → Nat → Nat) (sz : Nat) (a : Nat) (p0 : Int32) : Met l yX4_init wsX4_init ({ frames := 1, cells := 0, slots := 0, locals := 12 }) (va_Pc [.ref a, .int p0] (gb_Pw kS tE (va_A [(a, .inr (5, [.int 0, .int 0, .int 0, .int 0]))] sz) (dC, dI) [] [(a, .inr (5, [.int 0, .int 0, .int 0, .int 0]))] sz)) (va_Qv (fun _ : Unit => True) (fun _ t => va_P (dC, dI) vwCl [(a, .inr (5, [.int p0, .int 0, .int 0, .int 0]))] t.heap ∧ va_K (dC, dI) vwCl [] t ∧ va_D (va_A [(a, .inr (5, [.int 0, .int 0, .int 0, .int 0]))] sz) [(a, .inr (5, [.int p0, .int 0, .int 0, .int 0]))]) (va_A [(a, .inr (5, [.int 0, .int 0, .int 0, .int 0]))] sz)) 0 0 (va_A [(a, .inr (5, [.int 0, .int 0, .int 0, .int 0]))] sz) := by
  refine Met.ofW (cc := cX4_init) (maxL := 2) (ret := none) (by decide) rfl ?_
  intro p e s m args below meth c s₁ B hml hv
  obtain ⟨rfl, hsz, hZT, hZ, hP, hK, hD0⟩ := hv
  have hx := B.exec
  have hb := B.bytes
  have hr := B.returns
  have hts := atoms_spec (ws := wsX4_init) B.pre
  have hown : s.vm.findClass RX4 = some m.cls := findClass_of_methodNamed B.named
  have hlocks := B.notSynchronized
  have hin : meth.name = "<init>" := (name_of_methodNamed B.named B.method).1
  subst hsz
  have hi5 : ∀ w ∈ u_ws RX4 TX4 4, w ∈ wsX4_init := by decide +kernel
  have hD := hD0.self (sz := s.heap.size)
  generalize hAe : va_A [(a, .inr (5, [.int 0, .int 0, .int 0, .int 0]))] s.heap.size = A at hZ hD ⊢
  have hA : ∀ q : Nat, s.heap.size ≤ q → A q := fun q h => by rw [← hAe]; exact Or.inr h
  have hS : va_S A s.heap s.heap [] := va_S.rf
  have hP : va_P (dC, dI) vwCl [(a, .inr (5, [.int 0, .int 0, .int 0, .int 0]))] s.heap := hP
  have hl := lv_entry ([.ref a, .int p0]) (n := 2) (Nat.le_of_ble_eq_true rfl)
  rw [lg_entry_eq]
  generalize (lg_sl ([.ref a, .int p0]) ++ List.replicate (2 - (lg_sl ([.ref a, .int p0])).length) Slot.unset).toArray = ls at hl ⊢
  have hl : lv_has ls 2 [(0, .ref a), (1, .int p0)] := hl
  refine lv_aload_n hx hb dX4_init_0 rfl (lv_at hl 0 rfl) ?_
  refine W.objInit hx hb hown (hts (.methodLink RX4 1 objectInit) (by decide +kernel)) (hts (.instanceMethod objectInit) (by decide +kernel)) (hts (.code objectInit ⟨#[0xb1]⟩ 1 none) (by decide +kernel)) rfl (by rw [hml]; exact hl.1) rfl dX4_init_1 (Nat.le_of_ble_eq_true rfl) (Nat.le_of_ble_eq_true rfl) ?_
  refine W.eq (g2 := F0 m 4 ls []) rfl ?_
  refine lv_aload_n hx hb dX4_init_4 rfl (lv_at hl 0 rfl) ?_
  refine lv_iconst (v := 0) hx hb dX4_init_5 (by decide) ?_
  refine va_put (D := (dC, dI)) (ci := 5) (v := .int 0) (ty := .int) (C := RX4) (T := TX4) (N := 4) hx hb hts hi5 tyX4 tyX4_ok nmX4 hown hK hP hD hS 0 rfl rfl 1 (by decide) (hts (.fieldLink RX4 7 "GlacierBook$Workers" "people" "I") (by decide +kernel)) (fun _ h9 => h9) rfl (by decide +kernel) rfl rfl (Nat.le_of_ble_eq_true rfl) dX4_init_6 (fun H locs hP hD hS => ?_)
  have hP : va_P (dC, dI) vwCl [(a, .inr (5, [.int 0, .int 0, .int 0, .int 0]))] H := hP
  have hD : va_D A [(a, .inr (5, [.int 0, .int 0, .int 0, .int 0]))] := hD
  refine lv_aload_n hx hb dX4_init_9 rfl (lv_at hl 0 rfl) ?_
  refine lv_iconst (v := 0) hx hb dX4_init_10 (by decide) ?_
  refine va_put (D := (dC, dI)) (ci := 5) (v := .int 0) (ty := .int) (C := RX4) (T := TX4) (N := 4) hx hb hts hi5 tyX4 tyX4_ok nmX4 hown hK hP hD hS 0 rfl rfl 2 (by decide) (hts (.fieldLink RX4 13 "GlacierBook$Workers" "ration" "I") (by decide +kernel)) (fun _ h9 => h9) rfl (by decide +kernel) rfl rfl (Nat.le_of_ble_eq_true rfl) dX4_init_11 (fun H locs hP hD hS => ?_)
  have hP : va_P (dC, dI) vwCl [(a, .inr (5, [.int 0, .int 0, .int 0, .int 0]))] H := hP
  have hD : va_D A [(a, .inr (5, [.int 0, .int 0, .int 0, .int 0]))] := hD
  refine lv_aload_n hx hb dX4_init_14 rfl (lv_at hl 0 rfl) ?_
  refine lv_iconst (v := 0) hx hb dX4_init_15 (by decide) ?_
  refine va_put (D := (dC, dI)) (ci := 5) (v := .int 0) (ty := .int) (C := RX4) (T := TX4) (N := 4) hx hb hts hi5 tyX4 tyX4_ok nmX4 hown hK hP hD hS 0 rfl rfl 3 (by decide) (hts (.fieldLink RX4 16 "GlacierBook$Workers" "missed" "I") (by decide +kernel)) (fun _ h9 => h9) rfl (by decide +kernel) rfl rfl (Nat.le_of_ble_eq_true rfl) dX4_init_16 (fun H locs hP hD hS => ?_)
  have hP : va_P (dC, dI) vwCl [(a, .inr (5, [.int 0, .int 0, .int 0, .int 0]))] H := hP
  have hD : va_D A [(a, .inr (5, [.int 0, .int 0, .int 0, .int 0]))] := hD
  refine lv_aload_n hx hb dX4_init_19 rfl (lv_at hl 0 rfl) ?_
  refine lv_iload_n hx hb dX4_init_20 rfl (lv_at hl 1 rfl) ?_
  refine va_putF (D := (dC, dI)) (ci := 5) (v := .int p0) (ty := .int) (C := RX4) (T := TX4) (N := 4) hx hb hts hi5 tyX4 tyX4_ok nmX4 hown hK hP hD hS 0 rfl rfl 0 (by decide) (hts (.fieldLink RX4 19 "GlacierBook$Workers" "unitsEach" "I") (by decide +kernel)) (fun _ h9 => h9) rfl hin rfl (by decide +kernel) rfl rfl (Nat.le_of_ble_eq_true rfl) dX4_init_21 (fun H locs hP hD hS => ?_)
  have hP : va_P (dC, dI) vwCl [(a, .inr (5, [.int p0, .int 0, .int 0, .int 0]))] H := hP
  have hD : va_D A [(a, .inr (5, [.int p0, .int 0, .int 0, .int 0]))] := hD
  refine W.widen (k := 0) (n := 0) (Nat.le_of_ble_eq_true rfl) (Nat.le_of_ble_eq_true rfl) ?_
  have hP9 := hP.sub (ws' := [(a, .inr (5, [.int p0, .int 0, .int 0, .int 0]))]) [0] rfl
  have hD9 := hD.sub (ws' := [(a, .inr (5, [.int p0, .int 0, .int 0, .int 0]))]) [0] (by decide) rfl
  have hK9 := hK.sub (tys' := []) [] rfl
  exact W.vret hx hb hr (fun t ht hW => ⟨⟨(), rfl, trivial, ⟨by rw [ht]; exact hP9, va_K.moved hW.alike hK9, hD9⟩⟩, hS.F ht⟩) hS.2.2 dX4_init_24

theorem la_24 : (0 : Int32) = 0 := by
  (try simp only [gb_okD, gb_okG, gb_okW, gb_days, gb_in, gb_lt, gb_le, gb_eq, gb_l0, gb_l1, gb_l2, gb_l3, gb_l4, gb_l5, gb_l10, gb_l19, gb_l20, gb_l40, gb_l60, gb_l1000, gb_l1500, gb_lm1, gb_l65536, true_and, and_true, false_and, and_false, true_or, or_true, false_or, or_false, not_true_eq_false, not_false_eq_true, ne_eq] at *) <;> omega
set_option maxHeartbeats 4000000 in
set_option maxRecDepth 100000 in
theorem c_X4_need (l : Launch) (hl9 : l.stackTraces = false) (kS : Nat → Nat) (tE : Nat) (dC : Nat → ClassId) (dI : Nat → Nat → Nat) (sz : Nat) (a : Nat) (un : Int32) : Met l yX4_need wsX4_need ({ frames := 0, cells := 0, slots := 0, locals := 0 }) (va_Pc [.ref a] (gb_Pw kS tE (gb_ro sz) (dC, dI) [] [(a, .inr (5, [.int un, .int 0, .int 0, .int 0]))] sz)) (va_Qi (fun (r : Int32) (_ : Unit) => r = 0) (fun _ _ => True) (gb_ro sz)) 0 0 (gb_ro sz) := by
  refine Met.ofW (cc := cX4_need) (maxL := 1) (ret := (some .int)) (by decide) rfl ?_
  intro p e s m args below meth c s₁ B hml hv
  obtain ⟨rfl, hsz, hZT, hZ, hP, hK, hD0⟩ := hv
  have hx := B.exec
  have hb := B.bytes
  have hr := B.returns
  have hts := atoms_spec (ws := wsX4_need) B.pre
  have hown : s.vm.findClass RX4 = some m.cls := findClass_of_methodNamed B.named
  have hlocks := B.notSynchronized
  subst hsz
  have hi5 : ∀ w ∈ u_ws RX4 TX4 4, w ∈ wsX4_need := by decide +kernel
  have hD := hD0
  generalize hAe : gb_ro s.heap.size = A at hZ ⊢
  have hA : ∀ q : Nat, s.heap.size ≤ q → A q := fun q h => by rw [← hAe]; exact h
  have hS : va_S A s.heap s.heap [] := va_S.rf
  have hP : va_P (dC, dI) vwCl [(a, .inr (5, [.int un, .int 0, .int 0, .int 0]))] s.heap := hP
  have hl := lv_entry ([.ref a]) (n := 1) (Nat.le_of_ble_eq_true rfl)
  rw [lg_entry_eq]
  generalize (lg_sl ([.ref a]) ++ List.replicate (1 - (lg_sl ([.ref a])).length) Slot.unset).toArray = ls at hl ⊢
  have hl : lv_has ls 1 [(0, .ref a)] := hl
  refine lv_aload_n hx hb dX4_need_0 rfl (lv_at hl 0 rfl) ?_
  refine va_get (D := (dC, dI)) (ci := 5) (v := .int 0) (C := RX4) (T := TX4) (N := 4) hx hb hts hi5 hown hK hP 0 rfl rfl 1 (by decide) (hts (.fieldLink RX4 7 "GlacierBook$Workers" "people" "I") (by decide +kernel)) (fun _ h9 => h9) rfl dX4_need_1 ?_
  refine lv_aload_n hx hb dX4_need_4 rfl (lv_at hl 0 rfl) ?_
  refine va_get (D := (dC, dI)) (ci := 5) (v := .int un) (C := RX4) (T := TX4) (N := 4) hx hb hts hi5 hown hK hP 0 rfl rfl 0 (by decide) (hts (.fieldLink RX4 19 "GlacierBook$Workers" "unitsEach" "I") (by decide +kernel)) (fun _ h9 => h9) rfl dX4_need_5 ?_
  refine lv_imul hx hb dX4_need_8 ?_
  refine lv_topi (fun y9 e9 => ?_)
  obtain rfl : y9 = 0 := e9.trans Int32.zero_mul
  refine W.widen (k := 0) (n := 0) (Nat.le_of_ble_eq_true rfl) (Nat.le_of_ble_eq_true rfl) ?_
  exact W.iret (v := 0) hx hb hr (fun t ht hW => ⟨⟨0, (), rfl, (la_24), trivial⟩, hS.F ht⟩) hS.2.2 dX4_need_9

set_option maxHeartbeats 4000000 in
set_option maxRecDepth 100000 in
theorem c_X3_init (l : Launch) (hl9 : l.stackTraces = false) (kS : Nat → Nat) (tE : Nat) (dC : Nat → ClassId) (dI : Nat → Nat → Nat) (sz : Nat) (a : Nat) (p0 : Int32) (dq : Nat) (p1 : Int32) (p2 : Int32) : Met l yX3_init wsX3_init ({ frames := 1, cells := 0, slots := 0, locals := 12 }) (va_Pc [.ref a, .int p0, .ref dq, .int p1, .int p2] (gb_Pw kS tE (va_A [(a, .inr (4, [.int 0, .null, .int 0, .int 0, .int 0]))] sz) (dC, dI) [] [(a, .inr (4, [.int 0, .null, .int 0, .int 0, .int 0]))] sz)) (va_Qv (fun _ : Unit => True) (fun _ t => va_P (dC, dI) vwCl [(a, .inr (4, [.int p0, .ref dq, .int p1, .int p2, .int 0]))] t.heap ∧ va_K (dC, dI) vwCl [] t ∧ va_D (va_A [(a, .inr (4, [.int 0, .null, .int 0, .int 0, .int 0]))] sz) [(a, .inr (4, [.int p0, .ref dq, .int p1, .int p2, .int 0]))]) (va_A [(a, .inr (4, [.int 0, .null, .int 0, .int 0, .int 0]))] sz)) 0 0 (va_A [(a, .inr (4, [.int 0, .null, .int 0, .int 0, .int 0]))] sz) := by
  refine Met.ofW (cc := cX3_init) (maxL := 5) (ret := none) (by decide) rfl ?_
  intro p e s m args below meth c s₁ B hml hv
  obtain ⟨rfl, hsz, hZT, hZ, hP, hK, hD0⟩ := hv
  have hx := B.exec
  have hb := B.bytes
  have hr := B.returns
  have hts := atoms_spec (ws := wsX3_init) B.pre
  have hown : s.vm.findClass RX3 = some m.cls := findClass_of_methodNamed B.named
  have hlocks := B.notSynchronized
  have hin : meth.name = "<init>" := (name_of_methodNamed B.named B.method).1
  subst hsz
  have hi4 : ∀ w ∈ u_ws RX3 TX3 5, w ∈ wsX3_init := by decide +kernel
  have hD := hD0.self (sz := s.heap.size)
  generalize hAe : va_A [(a, .inr (4, [.int 0, .null, .int 0, .int 0, .int 0]))] s.heap.size = A at hZ hD ⊢
  have hA : ∀ q : Nat, s.heap.size ≤ q → A q := fun q h => by rw [← hAe]; exact Or.inr h
  have hS : va_S A s.heap s.heap [] := va_S.rf
  have hP : va_P (dC, dI) vwCl [(a, .inr (4, [.int 0, .null, .int 0, .int 0, .int 0]))] s.heap := hP
  have hl := lv_entry ([.ref a, .int p0, .ref dq, .int p1, .int p2]) (n := 5) (Nat.le_of_ble_eq_true rfl)
  rw [lg_entry_eq]
  generalize (lg_sl ([.ref a, .int p0, .ref dq, .int p1, .int p2]) ++ List.replicate (5 - (lg_sl ([.ref a, .int p0, .ref dq, .int p1, .int p2])).length) Slot.unset).toArray = ls at hl ⊢
  have hl : lv_has ls 5 [(0, .ref a), (1, .int p0), (2, .ref dq), (3, .int p1), (4, .int p2)] := hl
  refine lv_aload_n hx hb dX3_init_0 rfl (lv_at hl 0 rfl) ?_
  refine W.objInit hx hb hown (hts (.methodLink RX3 3 objectInit) (by decide +kernel)) (hts (.instanceMethod objectInit) (by decide +kernel)) (hts (.code objectInit ⟨#[0xb1]⟩ 1 none) (by decide +kernel)) rfl (by rw [hml]; exact hl.1) rfl dX3_init_1 (Nat.le_of_ble_eq_true rfl) (Nat.le_of_ble_eq_true rfl) ?_
  refine W.eq (g2 := F0 m 4 ls []) rfl ?_
  refine lv_aload_n hx hb dX3_init_4 rfl (lv_at hl 0 rfl) ?_
  refine lv_iconst (v := 0) hx hb dX3_init_5 (by decide) ?_
  refine va_put (D := (dC, dI)) (ci := 4) (v := .int 0) (ty := .int) (C := RX3) (T := TX3) (N := 5) hx hb hts hi4 tyX3 tyX3_ok nmX3 hown hK hP hD hS 0 rfl rfl 4 (by decide) (hts (.fieldLink RX3 9 "GlacierBook$Lot" "amount" "I") (by decide +kernel)) (fun _ h9 => h9) rfl (by decide +kernel) rfl rfl (Nat.le_of_ble_eq_true rfl) dX3_init_6 (fun H locs hP hD hS => ?_)
  have hP : va_P (dC, dI) vwCl [(a, .inr (4, [.int 0, .null, .int 0, .int 0, .int 0]))] H := hP
  have hD : va_D A [(a, .inr (4, [.int 0, .null, .int 0, .int 0, .int 0]))] := hD
  refine lv_aload_n hx hb dX3_init_9 rfl (lv_at hl 0 rfl) ?_
  refine lv_iload_n hx hb dX3_init_10 rfl (lv_at hl 1 rfl) ?_
  refine va_putF (D := (dC, dI)) (ci := 4) (v := .int p0) (ty := .int) (C := RX3) (T := TX3) (N := 5) hx hb hts hi4 tyX3 tyX3_ok nmX3 hown hK hP hD hS 0 rfl rfl 0 (by decide) (hts (.fieldLink RX3 15 "GlacierBook$Lot" "number" "I") (by decide +kernel)) (fun _ h9 => h9) rfl hin rfl (by decide +kernel) rfl rfl (Nat.le_of_ble_eq_true rfl) dX3_init_11 (fun H locs hP hD hS => ?_)
  have hP : va_P (dC, dI) vwCl [(a, .inr (4, [.int p0, .null, .int 0, .int 0, .int 0]))] H := hP
  have hD : va_D A [(a, .inr (4, [.int p0, .null, .int 0, .int 0, .int 0]))] := hD
  refine lv_aload_n hx hb dX3_init_14 rfl (lv_at hl 0 rfl) ?_
  refine lv_aload_n hx hb dX3_init_15 rfl (lv_at hl 2 rfl) ?_
  refine va_putF (D := (dC, dI)) (ci := 4) (v := .ref dq) (ty := .object "GlacierBook$Depot") (C := RX3) (T := TX3) (N := 5) hx hb hts hi4 tyX3 tyX3_ok nmX3 hown hK hP hD hS 0 rfl rfl 1 (by decide) (hts (.fieldLink RX3 18 "GlacierBook$Lot" "depot" "LGlacierBook$Depot;") (by decide +kernel)) (fun _ h9 => h9) rfl hin rfl (by decide +kernel) rfl rfl (Nat.le_of_ble_eq_true rfl) dX3_init_16 (fun H locs hP hD hS => ?_)
  have hP : va_P (dC, dI) vwCl [(a, .inr (4, [.int p0, .ref dq, .int 0, .int 0, .int 0]))] H := hP
  have hD : va_D A [(a, .inr (4, [.int p0, .ref dq, .int 0, .int 0, .int 0]))] := hD
  refine lv_aload_n hx hb dX3_init_19 rfl (lv_at hl 0 rfl) ?_
  refine lv_iload_n hx hb dX3_init_20 rfl (lv_at hl 3 rfl) ?_
  refine va_putF (D := (dC, dI)) (ci := 4) (v := .int p1) (ty := .int) (C := RX3) (T := TX3) (N := 5) hx hb hts hi4 tyX3 tyX3_ok nmX3 hown hK hP hD hS 0 rfl rfl 2 (by decide) (hts (.fieldLink RX3 22 "GlacierBook$Lot" "good" "I") (by decide +kernel)) (fun _ h9 => h9) rfl hin rfl (by decide +kernel) rfl rfl (Nat.le_of_ble_eq_true rfl) dX3_init_21 (fun H locs hP hD hS => ?_)
  have hP : va_P (dC, dI) vwCl [(a, .inr (4, [.int p0, .ref dq, .int p1, .int 0, .int 0]))] H := hP
  have hD : va_D A [(a, .inr (4, [.int p0, .ref dq, .int p1, .int 0, .int 0]))] := hD
  refine lv_aload_n hx hb dX3_init_24 rfl (lv_at hl 0 rfl) ?_
  refine lv_iload hx hb dX3_init_25 (lv_at hl 4 rfl) ?_
  refine va_putF (D := (dC, dI)) (ci := 4) (v := .int p2) (ty := .int) (C := RX3) (T := TX3) (N := 5) hx hb hts hi4 tyX3 tyX3_ok nmX3 hown hK hP hD hS 0 rfl rfl 3 (by decide) (hts (.fieldLink RX3 25 "GlacierBook$Lot" "lastDay" "I") (by decide +kernel)) (fun _ h9 => h9) rfl hin rfl (by decide +kernel) rfl rfl (Nat.le_of_ble_eq_true rfl) dX3_init_27 (fun H locs hP hD hS => ?_)
  have hP : va_P (dC, dI) vwCl [(a, .inr (4, [.int p0, .ref dq, .int p1, .int p2, .int 0]))] H := hP
  have hD : va_D A [(a, .inr (4, [.int p0, .ref dq, .int p1, .int p2, .int 0]))] := hD
  refine W.widen (k := 0) (n := 0) (Nat.le_of_ble_eq_true rfl) (Nat.le_of_ble_eq_true rfl) ?_
  have hP9 := hP.sub (ws' := [(a, .inr (4, [.int p0, .ref dq, .int p1, .int p2, .int 0]))]) [0] rfl
  have hD9 := hD.sub (ws' := [(a, .inr (4, [.int p0, .ref dq, .int p1, .int p2, .int 0]))]) [0] (by decide) rfl
  have hK9 := hK.sub (tys' := []) [] rfl
  exact W.vret hx hb hr (fun t ht hW => ⟨⟨(), rfl, trivial, ⟨by rw [ht]; exact hP9, va_K.moved hW.alike hK9, hD9⟩⟩, hS.F ht⟩) hS.2.2 dX3_init_30

set_option maxHeartbeats 4000000 in
set_option maxRecDepth 100000 in
theorem c_X2_init (l : Launch) (hl9 : l.stackTraces = false) (kS : Nat → Nat) (tE : Nat) (dC : Nat → ClassId) (dI : Nat → Nat → Nat) (sz : Nat) (a : Nat) (p0 : Int32) (lq : Nat) (p1 : Int32) (p2 : Int32) : Met l yX2_init wsX2_init ({ frames := 1, cells := 0, slots := 0, locals := 12 }) (va_Pc [.ref a, .int p0, .ref lq, .int p1, .int p2] (gb_Pw kS tE (va_A [(a, .inr (3, [.int 0, .null, .int 0, .int 0]))] sz) (dC, dI) [] [(a, .inr (3, [.int 0, .null, .int 0, .int 0]))] sz)) (va_Qv (fun _ : Unit => True) (fun _ t => va_P (dC, dI) vwCl [(a, .inr (3, [.int p0, .ref lq, .int p1, .int p2]))] t.heap ∧ va_K (dC, dI) vwCl [] t ∧ va_D (va_A [(a, .inr (3, [.int 0, .null, .int 0, .int 0]))] sz) [(a, .inr (3, [.int p0, .ref lq, .int p1, .int p2]))]) (va_A [(a, .inr (3, [.int 0, .null, .int 0, .int 0]))] sz)) 0 0 (va_A [(a, .inr (3, [.int 0, .null, .int 0, .int 0]))] sz) := by
  refine Met.ofW (cc := cX2_init) (maxL := 5) (ret := none) (by decide) rfl ?_
  intro p e s m args below meth c s₁ B hml hv
  obtain ⟨rfl, hsz, hZT, hZ, hP, hK, hD0⟩ := hv
  have hx := B.exec
  have hb := B.bytes
  have hr := B.returns
  have hts := atoms_spec (ws := wsX2_init) B.pre
  have hown : s.vm.findClass RX2 = some m.cls := findClass_of_methodNamed B.named
  have hlocks := B.notSynchronized
  have hin : meth.name = "<init>" := (name_of_methodNamed B.named B.method).1
  subst hsz
  have hi3 : ∀ w ∈ u_ws RX2 TX2 4, w ∈ wsX2_init := by decide +kernel
  have hD := hD0.self (sz := s.heap.size)
  generalize hAe : va_A [(a, .inr (3, [.int 0, .null, .int 0, .int 0]))] s.heap.size = A at hZ hD ⊢
  have hA : ∀ q : Nat, s.heap.size ≤ q → A q := fun q h => by rw [← hAe]; exact Or.inr h
  have hS : va_S A s.heap s.heap [] := va_S.rf
  have hP : va_P (dC, dI) vwCl [(a, .inr (3, [.int 0, .null, .int 0, .int 0]))] s.heap := hP
  have hl := lv_entry ([.ref a, .int p0, .ref lq, .int p1, .int p2]) (n := 5) (Nat.le_of_ble_eq_true rfl)
  rw [lg_entry_eq]
  generalize (lg_sl ([.ref a, .int p0, .ref lq, .int p1, .int p2]) ++ List.replicate (5 - (lg_sl ([.ref a, .int p0, .ref lq, .int p1, .int p2])).length) Slot.unset).toArray = ls at hl ⊢
  have hl : lv_has ls 5 [(0, .ref a), (1, .int p0), (2, .ref lq), (3, .int p1), (4, .int p2)] := hl
  refine lv_aload_n hx hb dX2_init_0 rfl (lv_at hl 0 rfl) ?_
  refine W.objInit hx hb hown (hts (.methodLink RX2 1 objectInit) (by decide +kernel)) (hts (.instanceMethod objectInit) (by decide +kernel)) (hts (.code objectInit ⟨#[0xb1]⟩ 1 none) (by decide +kernel)) rfl (by rw [hml]; exact hl.1) rfl dX2_init_1 (Nat.le_of_ble_eq_true rfl) (Nat.le_of_ble_eq_true rfl) ?_
  refine W.eq (g2 := F0 m 4 ls []) rfl ?_
  refine lv_aload_n hx hb dX2_init_4 rfl (lv_at hl 0 rfl) ?_
  refine lv_iload_n hx hb dX2_init_5 rfl (lv_at hl 1 rfl) ?_
  refine va_putF (D := (dC, dI)) (ci := 3) (v := .int p0) (ty := .int) (C := RX2) (T := TX2) (N := 4) hx hb hts hi3 tyX2 tyX2_ok nmX2 hown hK hP hD hS 0 rfl rfl 0 (by decide) (hts (.fieldLink RX2 7 "GlacierBook$Entry" "crew" "I") (by decide +kernel)) (fun _ h9 => h9) rfl hin rfl (by decide +kernel) rfl rfl (Nat.le_of_ble_eq_true rfl) dX2_init_6 (fun H locs hP hD hS => ?_)
  have hP : va_P (dC, dI) vwCl [(a, .inr (3, [.int p0, .null, .int 0, .int 0]))] H := hP
  have hD : va_D A [(a, .inr (3, [.int p0, .null, .int 0, .int 0]))] := hD
  refine lv_aload_n hx hb dX2_init_9 rfl (lv_at hl 0 rfl) ?_
  refine lv_aload_n hx hb dX2_init_10 rfl (lv_at hl 2 rfl) ?_
  refine va_putF (D := (dC, dI)) (ci := 3) (v := .ref lq) (ty := .object "GlacierBook$Lot") (C := RX2) (T := TX2) (N := 4) hx hb hts hi3 tyX2 tyX2_ok nmX2 hown hK hP hD hS 0 rfl rfl 1 (by decide) (hts (.fieldLink RX2 13 "GlacierBook$Entry" "lot" "LGlacierBook$Lot;") (by decide +kernel)) (fun _ h9 => h9) rfl hin rfl (by decide +kernel) rfl rfl (Nat.le_of_ble_eq_true rfl) dX2_init_11 (fun H locs hP hD hS => ?_)
  have hP : va_P (dC, dI) vwCl [(a, .inr (3, [.int p0, .ref lq, .int 0, .int 0]))] H := hP
  have hD : va_D A [(a, .inr (3, [.int p0, .ref lq, .int 0, .int 0]))] := hD
  refine lv_aload_n hx hb dX2_init_14 rfl (lv_at hl 0 rfl) ?_
  refine lv_iload_n hx hb dX2_init_15 rfl (lv_at hl 3 rfl) ?_
  refine va_putF (D := (dC, dI)) (ci := 3) (v := .int p1) (ty := .int) (C := RX2) (T := TX2) (N := 4) hx hb hts hi3 tyX2 tyX2_ok nmX2 hown hK hP hD hS 0 rfl rfl 2 (by decide) (hts (.fieldLink RX2 17 "GlacierBook$Entry" "change" "I") (by decide +kernel)) (fun _ h9 => h9) rfl hin rfl (by decide +kernel) rfl rfl (Nat.le_of_ble_eq_true rfl) dX2_init_16 (fun H locs hP hD hS => ?_)
  have hP : va_P (dC, dI) vwCl [(a, .inr (3, [.int p0, .ref lq, .int p1, .int 0]))] H := hP
  have hD : va_D A [(a, .inr (3, [.int p0, .ref lq, .int p1, .int 0]))] := hD
  refine lv_aload_n hx hb dX2_init_19 rfl (lv_at hl 0 rfl) ?_
  refine lv_iload hx hb dX2_init_20 (lv_at hl 4 rfl) ?_
  refine va_putF (D := (dC, dI)) (ci := 3) (v := .int p2) (ty := .int) (C := RX2) (T := TX2) (N := 4) hx hb hts hi3 tyX2 tyX2_ok nmX2 hown hK hP hD hS 0 rfl rfl 3 (by decide) (hts (.fieldLink RX2 20 "GlacierBook$Entry" "cause" "I") (by decide +kernel)) (fun _ h9 => h9) rfl hin rfl (by decide +kernel) rfl rfl (Nat.le_of_ble_eq_true rfl) dX2_init_22 (fun H locs hP hD hS => ?_)
  have hP : va_P (dC, dI) vwCl [(a, .inr (3, [.int p0, .ref lq, .int p1, .int p2]))] H := hP
  have hD : va_D A [(a, .inr (3, [.int p0, .ref lq, .int p1, .int p2]))] := hD
  refine W.widen (k := 0) (n := 0) (Nat.le_of_ble_eq_true rfl) (Nat.le_of_ble_eq_true rfl) ?_
  have hP9 := hP.sub (ws' := [(a, .inr (3, [.int p0, .ref lq, .int p1, .int p2]))]) [0] rfl
  have hD9 := hD.sub (ws' := [(a, .inr (3, [.int p0, .ref lq, .int p1, .int p2]))]) [0] (by decide) rfl
  have hK9 := hK.sub (tys' := []) [] rfl
  exact W.vret hx hb hr (fun t ht hW => ⟨⟨(), rfl, trivial, ⟨by rw [ht]; exact hP9, va_K.moved hW.alike hK9, hD9⟩⟩, hS.F ht⟩) hS.2.2 dX2_init_25
