set_option maxHeartbeats 4000000 in
set_option maxRecDepth 100000 in
theorem c_X5_requireIndex (l : Launch) (hl9 : l.stackTraces = false) (kS : Nat → Nat) (tE : Nat) (dC : Nat → ClassId) (dI : Nat → Nat → Nat) (sz : Nat) (p0 p1 : Int32) : vx_Met l yX5_requireIndex wsX5_requireIndex ({ frames := 6, cells := 1, slots := 6, locals := 83 }) (va_Pc [.int p0, .int p1] (gb_Pw kS tE (gb_ro sz) (dC, dI) [] [] sz)) (va_Qv (fun _ : Unit => ¬ p0 < 0 ∧ p0 < p1) (fun _ _ => True) (gb_ro sz)) (vx_X (fun _ : Unit => True) (fun E _ _ => E = "java/lang/IndexOutOfBoundsException" ∧ (p0 < 0 ∨ ¬ p0 < p1)) (gb_ro sz)) 1 6 (gb_ro sz) := by
  refine vx_ofW (cc := cX5_requireIndex) (maxL := 2) (ret := none) (by decide) rfl ?_
  intro p e s m args below meth c s₁ B hml hno hv
  obtain ⟨rfl, hsz, hZT, hZ, hP, hK, hD⟩ := hv
  have hx := B.exec
  have hb := B.bytes
  have hr := B.returns
  have hts := atoms_spec (ws := wsX5_requireIndex) B.pre
  have hown : s.vm.findClass RX5 = some m.cls := findClass_of_methodNamed B.named
  have hlocks := B.notSynchronized
  subst hsz
  generalize hAe : gb_ro s.heap.size = A at hZ ⊢
  have hA : ∀ q : Nat, s.heap.size ≤ q → A q := fun q h => by rw [← hAe]; exact h
  have hS : va_S A s.heap s.heap [] := va_S.rf
  have hl := lv_entry ([.int p0, .int p1]) (n := 2) (Nat.le_of_ble_eq_true rfl)
  rw [lg_entry_eq]
  generalize (lg_sl ([.int p0, .int p1]) ++ List.replicate (2 - (lg_sl ([.int p0, .int p1])).length) Slot.unset).toArray = ls at hl ⊢
  have hl : lv_has ls 2 [(0, .int p0), (1, .int p1)] := hl
  have hthrow : (p0 < 0 ∨ ¬ p0 < p1) → ∀ ls : Array Slot, lv_has ls 2 [(0, .int p0), (1, .int p1)] → W p l e (headSpec wsX5_requireIndex { frames := 6, cells := 1, slots := 6, locals := 83 }).room s m ([.int p0, .int p1] : List Value).toArray below meth c s.heap [] 0 0 (vx_MQ below (va_Qv (fun _ : Unit => ¬ p0 < 0 ∧ p0 < p1) (fun _ _ => True) A) (vx_X (fun _ : Unit => True) (fun E _ _ => E = "java/lang/IndexOutOfBoundsException" ∧ (p0 < 0 ∨ ¬ p0 < p1)) A) ([.int p0, .int p1] : List Value).toArray s 1 6 A) (F0 m 9 ls []) := by
    intro c_9 ls hl
    exact vx_throwS hx hb hl9 (own := RX5) (cls := "java/lang/IndexOutOfBoundsException") (text := "there is no such number") (names := ["java/lang/RuntimeException", "java/lang/Exception"]) hown (by decide +kernel) (by decide +kernel) (hts (.classLink RX5 194 "java/lang/IndexOutOfBoundsException") (by decide +kernel)) (hts (.initialized "java/lang/IndexOutOfBoundsException") (by decide +kernel)) hZT.2.2.2.2.2.2.1
      (vx_hat (L := vx_atS RX5 198 "java/lang/IndexOutOfBoundsException" ["java/lang/RuntimeException", "java/lang/Exception"]) (B := [.castable "java/lang/IndexOutOfBoundsException" "java/lang/IndexOutOfBoundsException", .declares (gb_yx "java/lang/RuntimeException"), .declares (gb_yx "java/lang/Exception"), .declares (gb_yx "java/lang/Throwable")]) (fun w hw => hts w ((by decide +kernel : ∀ w ∈ (vx_atS RX5 198 "java/lang/IndexOutOfBoundsException" ["java/lang/RuntimeException", "java/lang/Exception"]).filter goodWord, w ∈ wsX5_requireIndex) w hw)) (by decide +kernel) (vx_c (va_Nw.use rfl hZT.1.1) (vx_c (va_Nw.use rfl hZT.2.1.1) (vx_c (va_Nw.use rfl hZT.2.1.2.1) (vx_c (va_Nw.use rfl hZT.2.1.2.2) vx_n)))))
      (by decide +kernel) hZ.1 hZ.2.1 hS (hl.1.trans hml.symm) dX5_requireIndex_9 dX5_requireIndex_12 dX5_requireIndex_13 dX5_requireIndex_15 dX5_requireIndex_18 (fun x h9 => (hno x h9).elim) (Nat.le_of_ble_eq_true rfl) (Nat.le_of_ble_eq_true rfl) (Nat.le_of_ble_eq_true rfl) (Nat.le_of_ble_eq_true rfl) hlocks
      (fun t ha hz hk => ⟨(), trivial, ⟨rfl, c_9⟩, gb_F hS hz hk⟩) hS.2.2 (Nat.le_of_ble_eq_true rfl) (Nat.le_of_ble_eq_true rfl)
  refine lv_iload_n hx hb dX5_requireIndex_0 rfl (lv_at hl 0 rfl) ?_
  refine lv_if_lt (tgt := 9) hx hb dX5_requireIndex_1 (by decide) (fun c_1 => ?_) (fun c_1 => ?_)
  · exact hthrow (Or.inl c_1) ls hl
  · refine lv_iload_n hx hb dX5_requireIndex_4 rfl (lv_at hl 0 rfl) ?_
    refine lv_iload_n hx hb dX5_requireIndex_5 rfl (lv_at hl 1 rfl) ?_
    refine lv_icmp_lt (tgt := 19) hx hb dX5_requireIndex_6 (by decide) (fun c_2 => ?_) (fun c_2 => ?_)
    · refine vx_ret ?_
      refine W.widen (k := 1) (n := 6) (Nat.le_of_ble_eq_true rfl) (Nat.le_of_ble_eq_true rfl) ?_
      exact W.vret hx hb hr (fun t ht hW => ⟨⟨(), rfl, ⟨c_1, c_2⟩, trivial⟩, hS.F ht⟩) hS.2.2 dX5_requireIndex_19
    · exact hthrow (Or.inr c_2) ls hl
