def sp_hunger (w th r : Int32) : Prop := (gb_okW w ∧ th = 0 ∧ r = 0) ∨ (¬ gb_okW w ∧ th = 1 ∧ r = 0)
def sp_setCut (d f t th r : Int32) : Prop := (¬ gb_okD d ∧ th = 1 ∧ r = 0) ∨ (gb_okD d ∧ ¬ gb_days f t ∧ th = 2 ∧ r = 0) ∨ (gb_okD d ∧ gb_days f t ∧ th = 0 ∧ ((f.toInt = 0 ∧ 0 ≤ t.toInt ∧ r = 1) ∨ (¬ (f.toInt = 0 ∧ 0 ≤ t.toInt) ∧ r = 0)))
def sp_setWarm (d th r : Int32) : Prop := (¬ gb_okD d ∧ th = 1 ∧ r = 0) ∨ (gb_okD d ∧ th = 0 ∧ ((d.toInt = 0 ∧ r = 1) ∨ (¬ d.toInt = 0 ∧ r = 0)))
def sp_setFrost (f t th r : Int32) : Prop := (¬ gb_days f t ∧ th = 1 ∧ r = 0) ∨ (gb_days f t ∧ th = 0 ∧ ((f.toInt = 0 ∧ 0 ≤ t.toInt ∧ r = 1) ∨ (¬ (f.toInt = 0 ∧ 0 ≤ t.toInt) ∧ r = 0)))
def sp_setPeople (w c th r : Int32) : Prop := (¬ gb_okW w ∧ th = 1 ∧ r = 0) ∨ (gb_okW w ∧ ¬ gb_in c 0 20 ∧ th = 2 ∧ r = 0) ∨ (gb_okW w ∧ gb_in c 0 20 ∧ th = 0 ∧ r = 0)
def sp_stock (d g th r : Int32) : Prop := (¬ (gb_okD d ∧ gb_okG g) ∧ th = 1 ∧ r = 0) ∨ (gb_okD d ∧ gb_okG g ∧ th = 0 ∧ r = 0)
def sp_changed (c k th r : Int32) : Prop := (¬ (0 ≤ c.toInt ∧ gb_in k 0 5) ∧ th = 1 ∧ r = 0) ∨ (0 ≤ c.toInt ∧ gb_in k 0 5 ∧ th = 0 ∧ r = 0)
def sp_fill (d g a y th r : Int32) : Prop := (¬ (gb_okD d ∧ gb_okG g) ∧ th = 1 ∧ r = 0) ∨ (gb_okD d ∧ gb_okG g ∧ ¬ (gb_in a 1 1000 ∧ gb_in y 0 1000) ∧ th = 2 ∧ r = 0) ∨ (gb_okD d ∧ gb_okG g ∧ gb_in a 1 1000 ∧ gb_in y 0 1000 ∧ th = 0 ∧ r = 0)
def sp_pass (n th r : Int32) : Prop := (¬ gb_in n 1 60 ∧ th = 1 ∧ r = 0) ∨ (gb_in n 1 60 ∧ th = 0 ∧ r = 0)
theorem gb_depot {D : va_G} {q : Nat → Nat} {cO cO2 : ClassId} {tE : Nat} {m4 m3 dv : Int32} (p0 : Int32) (h : ¬ p0 < 0 ∧ p0 < 4) : ∃ (dd cc : Nat) (nn ww : Int32), (va_up (va_up (va_up (va_up (fun _ => none) (0 : Int32).toNatClampNeg (some (q 8))) (1 : Int32).toNatClampNeg (some (q 9))) (2 : Int32).toNatClampNeg (some (q 10))) (3 : Int32).toNatClampNeg (some (q 11))) p0.toNatClampNeg = some dd ∧ vp_in p0 10 ∧ (∀ H : Heap, va_P D vwCl [(q 0, .inr (6, [.ref (q 1), .ref (q 2), .ref (q 3), .ref (q 4), .ref (q 5), .int dv, .int 0])), (q 1, .inr (0, [.int m4, .ref (q 6), .int 4])), (q 2, .inr (0, [.int 0, .ref tE, .int 0])), (q 3, .inr (0, [.int m3, .ref (q 7), .int 3])), (q 4, .inr (0, [.int 0, .ref tE, .int 0])), (q 5, .inr (1, [.int 0, .int (-1)])), (q 6, .inl (cO, 10, .inr (.inr (.inr (.inr (va_up (va_up (va_up (va_up (fun _ => none) (0 : Int32).toNatClampNeg (some (q 8))) (1 : Int32).toNatClampNeg (some (q 9))) (2 : Int32).toNatClampNeg (some (q 10))) (3 : Int32).toNatClampNeg (some (q 11)))))))), (q 7, .inl (cO2, 10, .inr (.inr (.inr (.inr (va_up (va_up (va_up (fun _ => none) (0 : Int32).toNatClampNeg (some (q 16))) (1 : Int32).toNatClampNeg (some (q 17))) (2 : Int32).toNatClampNeg (some (q 18)))))))), (q 8, .inr (2, [.int 0, .ref (q 12), .int 1])), (q 9, .inr (2, [.int 1, .ref (q 13), .int 0])), (q 10, .inr (2, [.int 2, .ref (q 14), .int 0])), (q 11, .inr (2, [.int 3, .ref (q 15), .int 0])), (q 12, .inr (1, [.int 0, .int (-1)])), (q 13, .inr (1, [.int 0, .int (-1)])), (q 14, .inr (1, [.int 0, .int (-1)])), (q 15, .inr (1, [.int 0, .int (-1)])), (q 16, .inr (5, [.int 2, .int 0, .int 0, .int 0])), (q 17, .inr (5, [.int 3, .int 0, .int 0, .int 0])), (q 18, .inr (5, [.int 4, .int 0, .int 0, .int 0]))] H → va_P D vwCl [(q 0, .inr (6, [.ref (q 1), .ref (q 2), .ref (q 3), .ref (q 4), .ref (q 5), .int dv, .int 0])), (dd, .inr (2, [.int nn, .ref cc, .int ww])), (cc, .inr (1, [.int 0, .int (-1)]))] H) ∧ (∀ A : Nat → Prop, va_D A [(q 0, .inr (6, [.ref (q 1), .ref (q 2), .ref (q 3), .ref (q 4), .ref (q 5), .int dv, .int 0])), (q 1, .inr (0, [.int m4, .ref (q 6), .int 4])), (q 2, .inr (0, [.int 0, .ref tE, .int 0])), (q 3, .inr (0, [.int m3, .ref (q 7), .int 3])), (q 4, .inr (0, [.int 0, .ref tE, .int 0])), (q 5, .inr (1, [.int 0, .int (-1)])), (q 6, .inl (cO, 10, .inr (.inr (.inr (.inr (va_up (va_up (va_up (va_up (fun _ => none) (0 : Int32).toNatClampNeg (some (q 8))) (1 : Int32).toNatClampNeg (some (q 9))) (2 : Int32).toNatClampNeg (some (q 10))) (3 : Int32).toNatClampNeg (some (q 11)))))))), (q 7, .inl (cO2, 10, .inr (.inr (.inr (.inr (va_up (va_up (va_up (fun _ => none) (0 : Int32).toNatClampNeg (some (q 16))) (1 : Int32).toNatClampNeg (some (q 17))) (2 : Int32).toNatClampNeg (some (q 18)))))))), (q 8, .inr (2, [.int 0, .ref (q 12), .int 1])), (q 9, .inr (2, [.int 1, .ref (q 13), .int 0])), (q 10, .inr (2, [.int 2, .ref (q 14), .int 0])), (q 11, .inr (2, [.int 3, .ref (q 15), .int 0])), (q 12, .inr (1, [.int 0, .int (-1)])), (q 13, .inr (1, [.int 0, .int (-1)])), (q 14, .inr (1, [.int 0, .int (-1)])), (q 15, .inr (1, [.int 0, .int (-1)])), (q 16, .inr (5, [.int 2, .int 0, .int 0, .int 0])), (q 17, .inr (5, [.int 3, .int 0, .int 0, .int 0])), (q 18, .inr (5, [.int 4, .int 0, .int 0, .int 0]))] → va_D A [(q 0, .inr (6, [.ref (q 1), .ref (q 2), .ref (q 3), .ref (q 4), .ref (q 5), .int dv, .int 0])), (dd, .inr (2, [.int nn, .ref cc, .int ww])), (cc, .inr (1, [.int 0, .int (-1)]))]) ∧ ((p0 = 0 ∧ ww = 1) ∨ (¬ p0 = 0 ∧ ww = 0)) := by
  rcases pk_ix p0 (n := 4) (by decide) with h1 | h1 | ⟨j, hj, rfl⟩
  · exact absurd h1 h.1
  · exact absurd h.2 (Int32.not_lt.mpr h1)
  · match j, hj with
    | 0, _ => exact ⟨q 8, q 12, 0, 1, rfl, by unfold vp_in; decide, fun H h => h.sub [0, 8, 12] rfl, fun A h => h.sub [0, 8, 12] (by decide) rfl, by decide⟩
    | 1, _ => exact ⟨q 9, q 13, 1, 0, rfl, by unfold vp_in; decide, fun H h => h.sub [0, 9, 13] rfl, fun A h => h.sub [0, 9, 13] (by decide) rfl, by decide⟩
    | 2, _ => exact ⟨q 10, q 14, 2, 0, rfl, by unfold vp_in; decide, fun H h => h.sub [0, 10, 14] rfl, fun A h => h.sub [0, 10, 14] (by decide) rfl, by decide⟩
    | 3, _ => exact ⟨q 11, q 15, 3, 0, rfl, by unfold vp_in; decide, fun H h => h.sub [0, 11, 15] rfl, fun A h => h.sub [0, 11, 15] (by decide) rfl, by decide⟩
    | j + 4, hj => omega
theorem gb_worker {D : va_G} {q : Nat → Nat} {cO cO2 : ClassId} {tE : Nat} {m4 m3 dv : Int32} (p0 : Int32) (h : ¬ p0 < 0 ∧ p0 < 3) : ∃ (dd : Nat) (un : Int32), (va_up (va_up (va_up (fun _ => none) (0 : Int32).toNatClampNeg (some (q 16))) (1 : Int32).toNatClampNeg (some (q 17))) (2 : Int32).toNatClampNeg (some (q 18))) p0.toNatClampNeg = some dd ∧ vp_in p0 10 ∧ (∀ H : Heap, va_P D vwCl [(q 0, .inr (6, [.ref (q 1), .ref (q 2), .ref (q 3), .ref (q 4), .ref (q 5), .int dv, .int 0])), (q 1, .inr (0, [.int m4, .ref (q 6), .int 4])), (q 2, .inr (0, [.int 0, .ref tE, .int 0])), (q 3, .inr (0, [.int m3, .ref (q 7), .int 3])), (q 4, .inr (0, [.int 0, .ref tE, .int 0])), (q 5, .inr (1, [.int 0, .int (-1)])), (q 6, .inl (cO, 10, .inr (.inr (.inr (.inr (va_up (va_up (va_up (va_up (fun _ => none) (0 : Int32).toNatClampNeg (some (q 8))) (1 : Int32).toNatClampNeg (some (q 9))) (2 : Int32).toNatClampNeg (some (q 10))) (3 : Int32).toNatClampNeg (some (q 11)))))))), (q 7, .inl (cO2, 10, .inr (.inr (.inr (.inr (va_up (va_up (va_up (fun _ => none) (0 : Int32).toNatClampNeg (some (q 16))) (1 : Int32).toNatClampNeg (some (q 17))) (2 : Int32).toNatClampNeg (some (q 18)))))))), (q 8, .inr (2, [.int 0, .ref (q 12), .int 1])), (q 9, .inr (2, [.int 1, .ref (q 13), .int 0])), (q 10, .inr (2, [.int 2, .ref (q 14), .int 0])), (q 11, .inr (2, [.int 3, .ref (q 15), .int 0])), (q 12, .inr (1, [.int 0, .int (-1)])), (q 13, .inr (1, [.int 0, .int (-1)])), (q 14, .inr (1, [.int 0, .int (-1)])), (q 15, .inr (1, [.int 0, .int (-1)])), (q 16, .inr (5, [.int 2, .int 0, .int 0, .int 0])), (q 17, .inr (5, [.int 3, .int 0, .int 0, .int 0])), (q 18, .inr (5, [.int 4, .int 0, .int 0, .int 0]))] H → va_P D vwCl [(q 0, .inr (6, [.ref (q 1), .ref (q 2), .ref (q 3), .ref (q 4), .ref (q 5), .int dv, .int 0])), (dd, .inr (5, [.int un, .int 0, .int 0, .int 0]))] H) ∧ (∀ A : Nat → Prop, va_D A [(q 0, .inr (6, [.ref (q 1), .ref (q 2), .ref (q 3), .ref (q 4), .ref (q 5), .int dv, .int 0])), (q 1, .inr (0, [.int m4, .ref (q 6), .int 4])), (q 2, .inr (0, [.int 0, .ref tE, .int 0])), (q 3, .inr (0, [.int m3, .ref (q 7), .int 3])), (q 4, .inr (0, [.int 0, .ref tE, .int 0])), (q 5, .inr (1, [.int 0, .int (-1)])), (q 6, .inl (cO, 10, .inr (.inr (.inr (.inr (va_up (va_up (va_up (va_up (fun _ => none) (0 : Int32).toNatClampNeg (some (q 8))) (1 : Int32).toNatClampNeg (some (q 9))) (2 : Int32).toNatClampNeg (some (q 10))) (3 : Int32).toNatClampNeg (some (q 11)))))))), (q 7, .inl (cO2, 10, .inr (.inr (.inr (.inr (va_up (va_up (va_up (fun _ => none) (0 : Int32).toNatClampNeg (some (q 16))) (1 : Int32).toNatClampNeg (some (q 17))) (2 : Int32).toNatClampNeg (some (q 18)))))))), (q 8, .inr (2, [.int 0, .ref (q 12), .int 1])), (q 9, .inr (2, [.int 1, .ref (q 13), .int 0])), (q 10, .inr (2, [.int 2, .ref (q 14), .int 0])), (q 11, .inr (2, [.int 3, .ref (q 15), .int 0])), (q 12, .inr (1, [.int 0, .int (-1)])), (q 13, .inr (1, [.int 0, .int (-1)])), (q 14, .inr (1, [.int 0, .int (-1)])), (q 15, .inr (1, [.int 0, .int (-1)])), (q 16, .inr (5, [.int 2, .int 0, .int 0, .int 0])), (q 17, .inr (5, [.int 3, .int 0, .int 0, .int 0])), (q 18, .inr (5, [.int 4, .int 0, .int 0, .int 0]))] → va_D A [(q 0, .inr (6, [.ref (q 1), .ref (q 2), .ref (q 3), .ref (q 4), .ref (q 5), .int dv, .int 0])), (dd, .inr (5, [.int un, .int 0, .int 0, .int 0]))]) := by
  rcases pk_ix p0 (n := 3) (by decide) with h1 | h1 | ⟨j, hj, rfl⟩
  · exact absurd h1 h.1
  · exact absurd h.2 (Int32.not_lt.mpr h1)
  · match j, hj with
    | 0, _ => exact ⟨q 16, 2, rfl, by unfold vp_in; decide, fun H h => h.sub [0, 16] rfl, fun A h => h.sub [0, 16] (by decide) rfl⟩
    | 1, _ => exact ⟨q 17, 3, rfl, by unfold vp_in; decide, fun H h => h.sub [0, 17] rfl, fun A h => h.sub [0, 17] (by decide) rfl⟩
    | 2, _ => exact ⟨q 18, 4, rfl, by unfold vp_in; decide, fun H h => h.sub [0, 18] rfl, fun A h => h.sub [0, 18] (by decide) rfl⟩
    | j + 3, hj => omega
theorem lb_25 (p0 : Int32) (hq0 : p0 < 0 ∨ ¬ p0 < (4 : Int32)) : p0 < 0 ∨ ¬ p0 < 4 := by
  (try simp only [sp_hunger, sp_setCut, sp_setWarm, sp_setFrost, sp_setPeople, sp_stock, sp_changed, sp_fill, sp_pass, gb_okD, gb_okG, gb_okW, gb_days, gb_in, gb_lt, gb_le, gb_eq, gb_l0, gb_l1, gb_l2, gb_l3, gb_l4, gb_l5, gb_l10, gb_l19, gb_l20, gb_l40, gb_l60, gb_l1000, gb_l1500, gb_lm1, gb_l65536, true_and, and_true, false_and, and_false, true_or, or_true, false_or, or_false, not_true_eq_false, not_false_eq_true, ne_eq] at *) <;> omega
theorem lb_26 (p0 : Int32) (w_3 : ¬ p0 < 0 ∧ p0 < (4 : Int32)) : ¬ p0 < 0 ∧ p0 < 4 := by
  (try simp only [sp_hunger, sp_setCut, sp_setWarm, sp_setFrost, sp_setPeople, sp_stock, sp_changed, sp_fill, sp_pass, gb_okD, gb_okG, gb_okW, gb_days, gb_in, gb_lt, gb_le, gb_eq, gb_l0, gb_l1, gb_l2, gb_l3, gb_l4, gb_l5, gb_l10, gb_l19, gb_l20, gb_l40, gb_l60, gb_l1000, gb_l1500, gb_lm1, gb_l65536, true_and, and_true, false_and, and_false, true_or, or_true, false_or, or_false, not_true_eq_false, not_false_eq_true, ne_eq] at *) <;> omega
set_option maxHeartbeats 4000000 in
set_option maxRecDepth 100000 in
theorem c_X5_requireDepot (l : Launch) (hl9 : l.stackTraces = false) (kS : Nat → Nat) (tE : Nat) (dC : Nat → ClassId) (dI : Nat → Nat → Nat) (sz : Nat) (q : Nat → Nat) (cO : ClassId) (cO2 : ClassId) (m4 : Int32) (m3 : Int32) (dv : Int32) (p0 : Int32) : vx_Met l yX5_requireDepot wsX5_requireDepot ({ frames := 7, cells := 1, slots := 6, locals := 103 }) (va_Pc [.ref (q 0), .int p0] (gb_Pw kS tE (gb_ro sz) (dC, dI) [(cO, .object "java/lang/Object"), (cO2, .object "java/lang/Object")] [(q 0, .inr (6, [.ref (q 1), .ref (q 2), .ref (q 3), .ref (q 4), .ref (q 5), .int dv, .int 0])), (q 1, .inr (0, [.int m4, .ref (q 6), .int 4])), (q 2, .inr (0, [.int 0, .ref tE, .int 0])), (q 3, .inr (0, [.int m3, .ref (q 7), .int 3])), (q 4, .inr (0, [.int 0, .ref tE, .int 0])), (q 5, .inr (1, [.int 0, .int (-1)])), (q 6, .inl (cO, 10, .inr (.inr (.inr (.inr (va_up (va_up (va_up (va_up (fun _ => none) (0 : Int32).toNatClampNeg (some (q 8))) (1 : Int32).toNatClampNeg (some (q 9))) (2 : Int32).toNatClampNeg (some (q 10))) (3 : Int32).toNatClampNeg (some (q 11)))))))), (q 7, .inl (cO2, 10, .inr (.inr (.inr (.inr (va_up (va_up (va_up (fun _ => none) (0 : Int32).toNatClampNeg (some (q 16))) (1 : Int32).toNatClampNeg (some (q 17))) (2 : Int32).toNatClampNeg (some (q 18)))))))), (q 8, .inr (2, [.int 0, .ref (q 12), .int 1])), (q 9, .inr (2, [.int 1, .ref (q 13), .int 0])), (q 10, .inr (2, [.int 2, .ref (q 14), .int 0])), (q 11, .inr (2, [.int 3, .ref (q 15), .int 0])), (q 12, .inr (1, [.int 0, .int (-1)])), (q 13, .inr (1, [.int 0, .int (-1)])), (q 14, .inr (1, [.int 0, .int (-1)])), (q 15, .inr (1, [.int 0, .int (-1)])), (q 16, .inr (5, [.int 2, .int 0, .int 0, .int 0])), (q 17, .inr (5, [.int 3, .int 0, .int 0, .int 0])), (q 18, .inr (5, [.int 4, .int 0, .int 0, .int 0]))] sz)) (va_Qv (fun _ : Unit => ¬ p0 < 0 ∧ p0 < 4) (fun _ _ => True) (gb_ro sz)) (vx_X (fun _ : Unit => True) (fun E _ _ => (E = "java/lang/IndexOutOfBoundsException" ∧ (p0 < 0 ∨ ¬ p0 < 4))) (gb_ro sz)) 1 6 (gb_ro sz) := by
  refine vx_ofW (cc := cX5_requireDepot) (maxL := 2) (ret := none) (by decide) rfl ?_
  intro p e s m args below meth c s₁ B hml hno hv
  obtain ⟨rfl, hsz, hZT, hZ, hP, hK, hD0⟩ := hv
  have hx := B.exec
  have hb := B.bytes
  have hr := B.returns
  have hts := atoms_spec (ws := wsX5_requireDepot) B.pre
  have hown : s.vm.findClass RX5 = some m.cls := findClass_of_methodNamed B.named
  have hlocks := B.notSynchronized
  subst hsz
  have hi6 : ∀ w ∈ u_ws RX5 TX5 7, w ∈ wsX5_requireDepot := by decide +kernel
  have hD := hD0
  generalize hAe : gb_ro s.heap.size = A at hZ ⊢
  have hA : ∀ q : Nat, s.heap.size ≤ q → A q := fun q h => by rw [← hAe]; exact h
  have hS : va_S A s.heap s.heap [] := va_S.rf
  have hP : va_P (dC, dI) vwCl [(q 0, .inr (6, [.ref (q 1), .ref (q 2), .ref (q 3), .ref (q 4), .ref (q 5), .int dv, .int 0])), (q 1, .inr (0, [.int m4, .ref (q 6), .int 4])), (q 2, .inr (0, [.int 0, .ref tE, .int 0])), (q 3, .inr (0, [.int m3, .ref (q 7), .int 3])), (q 4, .inr (0, [.int 0, .ref tE, .int 0])), (q 5, .inr (1, [.int 0, .int (-1)])), (q 6, .inl (cO, 10, .inr (.inr (.inr (.inr (va_up (va_up (va_up (va_up (fun _ => none) (0 : Int32).toNatClampNeg (some (q 8))) (1 : Int32).toNatClampNeg (some (q 9))) (2 : Int32).toNatClampNeg (some (q 10))) (3 : Int32).toNatClampNeg (some (q 11)))))))), (q 7, .inl (cO2, 10, .inr (.inr (.inr (.inr (va_up (va_up (va_up (fun _ => none) (0 : Int32).toNatClampNeg (some (q 16))) (1 : Int32).toNatClampNeg (some (q 17))) (2 : Int32).toNatClampNeg (some (q 18)))))))), (q 8, .inr (2, [.int 0, .ref (q 12), .int 1])), (q 9, .inr (2, [.int 1, .ref (q 13), .int 0])), (q 10, .inr (2, [.int 2, .ref (q 14), .int 0])), (q 11, .inr (2, [.int 3, .ref (q 15), .int 0])), (q 12, .inr (1, [.int 0, .int (-1)])), (q 13, .inr (1, [.int 0, .int (-1)])), (q 14, .inr (1, [.int 0, .int (-1)])), (q 15, .inr (1, [.int 0, .int (-1)])), (q 16, .inr (5, [.int 2, .int 0, .int 0, .int 0])), (q 17, .inr (5, [.int 3, .int 0, .int 0, .int 0])), (q 18, .inr (5, [.int 4, .int 0, .int 0, .int 0]))] s.heap := hP
  have hl := lv_entry ([.ref (q 0), .int p0]) (n := 2) (Nat.le_of_ble_eq_true rfl)
  rw [lg_entry_eq]
  generalize (lg_sl ([.ref (q 0), .int p0]) ++ List.replicate (2 - (lg_sl ([.ref (q 0), .int p0])).length) Slot.unset).toArray = ls at hl ⊢
  have hl : lv_has ls 2 [(0, .ref (q 0)), (1, .int p0)] := hl
  refine lv_iload_n hx hb dX5_requireDepot_0 rfl (lv_at hl 1 rfl) ?_
  refine lv_aload_n hx hb dX5_requireDepot_1 rfl (lv_at hl 0 rfl) ?_
  refine va_get (D := (dC, dI)) (ci := 6) (v := .ref (q 1)) (C := RX5) (T := TX5) (N := 7) hx hb hts hi6 hown hK hP 0 rfl rfl 0 (by decide) (hts (.fieldLink RX5 10 "GlacierBook" "depots" "Ljava/util/ArrayList;") (by decide +kernel)) (fun _ h9 => h9) rfl dX5_requireDepot_2 ?_
  have hPc := hP.sub (ws' := [(q 1, .inr (0, [.int m4, .ref (q 6), .int 4]))]) [1] rfl
  have hDc := hD.sub (ws' := [(q 1, .inr (0, [.int m4, .ref (q 6), .int 4]))]) [1] (by decide) rfl
  have hKc := hK.sub (tys' := []) [] rfl
  have hFc := gb_free hA hS
  refine va_calli (va_runV (As := []) (rest := [.int p0]) ⟨hx, hb, hml, hown, hts⟩ (c_Jx4a65c_size_8abf5 l hl9 kS tE dC dI s.heap.size (q 1) m4 (q 6) (4 : Int32)) (cwV 0 hts gX5_requireDepot_Jx4a65c_size_8abf5 rfl rfl rfl (by decide +kernel) ⟨Nat.le_of_ble_eq_true rfl, Nat.le_of_ble_eq_true rfl⟩) (gb_preV hZT hZ hS hFc hPc hDc hKc (va_recv hK hP (ci := 0) (q0 := 1) rfl rfl)) rfl rfl hl.1 rfl (lv_room (Nat.le_of_ble_eq_true rfl)) dX5_requireDepot_5 ⟨Nat.le_of_ble_eq_true rfl, Nat.le_of_ble_eq_true rfl⟩) hS (fun q _ h => hFc q h) hFc (fun r_1 u t H locs ht hvm hw hB hz1 hk1 hS => ?_)
  have hP := gb_keep hP hk1
  subst hw
  have hPc := hP.sub (ws' := []) [] rfl
  have hDc := hD.sub (ws' := []) [] (by decide) rfl
  have hKc := hK.sub (tys' := []) [] rfl
  have hFc := gb_free hA hS
  refine vx_callv (vx_runS (As := [.int p0, .int 4]) (rest := []) ⟨hx, hb, hml, hown, hts⟩ (c_X5_requireIndex l hl9 kS tE dC dI H.size p0 (4 : Int32)) (va_cwS 2 hts gX5_requireDepot_X5_requireIndex rfl rfl rfl (by decide +kernel) ⟨Nat.le_of_ble_eq_true rfl, Nat.le_of_ble_eq_true rfl⟩) (gb_preS hZT hZ hS hFc hPc hDc hKc) rfl rfl hl.1 rfl (lv_room (Nat.le_of_ble_eq_true rfl)) dX5_requireDepot_8 ⟨Nat.le_of_ble_eq_true rfl, Nat.le_of_ble_eq_true rfl⟩) hS (fun q _ h => hFc q h) hFc (fun q _ h => hFc q h) (fun E9 ce q9 u t H locs ht hvm hw hB hz1 hk1 hS hce hcv hcl => ?_) (fun u t H locs ht hvm hw hB hz1 hk1 hS => ?_)
  · obtain ⟨rfl, hq0⟩ := hB
    exact vx_out (fun x h9 => (hno x h9).elim) hlocks hce hcv hcl (fun t ht ha => ⟨(), trivial, ⟨rfl, (lb_25 p0 hq0)⟩, hS.F ht⟩) hS.2.2 (Nat.le_of_ble_eq_true rfl) (Nat.le_of_ble_eq_true rfl)
  · have w_3 := hw
    have hP := gb_keep hP hk1
    refine vx_ret ?_
    refine W.widen (k := 1) (n := 6) (Nat.le_of_ble_eq_true rfl) (Nat.le_of_ble_eq_true rfl) ?_
    exact W.vret hx hb hr (fun t ht hW => ⟨⟨(), rfl, (lb_26 p0 w_3), trivial⟩, hS.F ht⟩) hS.2.2 dX5_requireDepot_11

theorem lb_27 (p0 : Int32) (hq0 : p0 < 0 ∨ ¬ p0 < (5 : Int32)) : p0 < 0 ∨ ¬ p0 < 5 := by
  (try simp only [sp_hunger, sp_setCut, sp_setWarm, sp_setFrost, sp_setPeople, sp_stock, sp_changed, sp_fill, sp_pass, gb_okD, gb_okG, gb_okW, gb_days, gb_in, gb_lt, gb_le, gb_eq, gb_l0, gb_l1, gb_l2, gb_l3, gb_l4, gb_l5, gb_l10, gb_l19, gb_l20, gb_l40, gb_l60, gb_l1000, gb_l1500, gb_lm1, gb_l65536, true_and, and_true, false_and, and_false, true_or, or_true, false_or, or_false, not_true_eq_false, not_false_eq_true, ne_eq] at *) <;> omega
theorem lb_28 (p0 : Int32) (w_2 : ¬ p0 < 0 ∧ p0 < (5 : Int32)) : ¬ p0 < 0 ∧ p0 < 5 := by
  (try simp only [sp_hunger, sp_setCut, sp_setWarm, sp_setFrost, sp_setPeople, sp_stock, sp_changed, sp_fill, sp_pass, gb_okD, gb_okG, gb_okW, gb_days, gb_in, gb_lt, gb_le, gb_eq, gb_l0, gb_l1, gb_l2, gb_l3, gb_l4, gb_l5, gb_l10, gb_l19, gb_l20, gb_l40, gb_l60, gb_l1000, gb_l1500, gb_lm1, gb_l65536, true_and, and_true, false_and, and_false, true_or, or_true, false_or, or_false, not_true_eq_false, not_false_eq_true, ne_eq] at *) <;> omega
set_option maxHeartbeats 4000000 in
set_option maxRecDepth 100000 in
theorem c_X5_requireGood (l : Launch) (hl9 : l.stackTraces = false) (kS : Nat → Nat) (tE : Nat) (dC : Nat → ClassId) (dI : Nat → Nat → Nat) (sz : Nat) (q : Nat → Nat) (p0 : Int32) : vx_Met l yX5_requireGood wsX5_requireGood ({ frames := 7, cells := 1, slots := 6, locals := 103 }) (va_Pc [.ref (q 0), .int p0] (gb_Pw kS tE (gb_ro sz) (dC, dI) [] [] sz)) (va_Qv (fun _ : Unit => ¬ p0 < 0 ∧ p0 < 5) (fun _ _ => True) (gb_ro sz)) (vx_X (fun _ : Unit => True) (fun E _ _ => (E = "java/lang/IndexOutOfBoundsException" ∧ (p0 < 0 ∨ ¬ p0 < 5))) (gb_ro sz)) 1 6 (gb_ro sz) := by
  refine vx_ofW (cc := cX5_requireGood) (maxL := 2) (ret := none) (by decide) rfl ?_
  intro p e s m args below meth c s₁ B hml hno hv
  obtain ⟨rfl, hsz, hZT, hZ, hP, hK, hD0⟩ := hv
  have hx := B.exec
  have hb := B.bytes
  have hr := B.returns
  have hts := atoms_spec (ws := wsX5_requireGood) B.pre
  have hown : s.vm.findClass RX5 = some m.cls := findClass_of_methodNamed B.named
  have hlocks := B.notSynchronized
  subst hsz
  have hD := hD0
  generalize hAe : gb_ro s.heap.size = A at hZ ⊢
  have hA : ∀ q : Nat, s.heap.size ≤ q → A q := fun q h => by rw [← hAe]; exact h
  have hS : va_S A s.heap s.heap [] := va_S.rf
  have hP : va_P (dC, dI) vwCl [] s.heap := hP
  have hl := lv_entry ([.ref (q 0), .int p0]) (n := 2) (Nat.le_of_ble_eq_true rfl)
  rw [lg_entry_eq]
  generalize (lg_sl ([.ref (q 0), .int p0]) ++ List.replicate (2 - (lg_sl ([.ref (q 0), .int p0])).length) Slot.unset).toArray = ls at hl ⊢
  have hl : lv_has ls 2 [(0, .ref (q 0)), (1, .int p0)] := hl
  refine lv_iload_n hx hb dX5_requireGood_0 rfl (lv_at hl 1 rfl) ?_
  refine lv_iconst (v := 5) hx hb dX5_requireGood_1 (by decide) ?_
  have hFc := gb_free hA hS
  refine vx_callv (vx_runS (As := [.int p0, .int 5]) (rest := []) ⟨hx, hb, hml, hown, hts⟩ (c_X5_requireIndex l hl9 kS tE dC dI s.heap.size p0 (5 : Int32)) (va_cwS 2 hts gX5_requireGood_X5_requireIndex rfl rfl rfl (by decide +kernel) ⟨Nat.le_of_ble_eq_true rfl, Nat.le_of_ble_eq_true rfl⟩) (gb_preS hZT hZ hS hFc hP hD hK) rfl rfl hl.1 rfl (lv_room (Nat.le_of_ble_eq_true rfl)) dX5_requireGood_2 ⟨Nat.le_of_ble_eq_true rfl, Nat.le_of_ble_eq_true rfl⟩) hS (fun q _ h => hFc q h) hFc (fun q _ h => hFc q h) (fun E9 ce q9 u t H locs ht hvm hw hB hz1 hk1 hS hce hcv hcl => ?_) (fun u t H locs ht hvm hw hB hz1 hk1 hS => ?_)
  · obtain ⟨rfl, hq0⟩ := hB
    exact vx_out (fun x h9 => (hno x h9).elim) hlocks hce hcv hcl (fun t ht ha => ⟨(), trivial, ⟨rfl, (lb_27 p0 hq0)⟩, hS.F ht⟩) hS.2.2 (Nat.le_of_ble_eq_true rfl) (Nat.le_of_ble_eq_true rfl)
  · have w_2 := hw
    have hP := gb_keep hP hk1
    refine vx_ret ?_
    refine W.widen (k := 1) (n := 6) (Nat.le_of_ble_eq_true rfl) (Nat.le_of_ble_eq_true rfl) ?_
    exact W.vret hx hb hr (fun t ht hW => ⟨⟨(), rfl, (lb_28 p0 w_2), trivial⟩, hS.F ht⟩) hS.2.2 dX5_requireGood_5

theorem lb_29 (p0 : Int32) (hq0 : p0 < 0 ∨ ¬ p0 < (3 : Int32)) : p0 < 0 ∨ ¬ p0 < 3 := by
  (try simp only [sp_hunger, sp_setCut, sp_setWarm, sp_setFrost, sp_setPeople, sp_stock, sp_changed, sp_fill, sp_pass, gb_okD, gb_okG, gb_okW, gb_days, gb_in, gb_lt, gb_le, gb_eq, gb_l0, gb_l1, gb_l2, gb_l3, gb_l4, gb_l5, gb_l10, gb_l19, gb_l20, gb_l40, gb_l60, gb_l1000, gb_l1500, gb_lm1, gb_l65536, true_and, and_true, false_and, and_false, true_or, or_true, false_or, or_false, not_true_eq_false, not_false_eq_true, ne_eq] at *) <;> omega
theorem lb_30 (p0 : Int32) (w_3 : ¬ p0 < 0 ∧ p0 < (3 : Int32)) : ¬ p0 < 0 ∧ p0 < 3 := by
  (try simp only [sp_hunger, sp_setCut, sp_setWarm, sp_setFrost, sp_setPeople, sp_stock, sp_changed, sp_fill, sp_pass, gb_okD, gb_okG, gb_okW, gb_days, gb_in, gb_lt, gb_le, gb_eq, gb_l0, gb_l1, gb_l2, gb_l3, gb_l4, gb_l5, gb_l10, gb_l19, gb_l20, gb_l40, gb_l60, gb_l1000, gb_l1500, gb_lm1, gb_l65536, true_and, and_true, false_and, and_false, true_or, or_true, false_or, or_false, not_true_eq_false, not_false_eq_true, ne_eq] at *) <;> omega
set_option maxHeartbeats 4000000 in
set_option maxRecDepth 100000 in
theorem c_X5_requireWork (l : Launch) (hl9 : l.stackTraces = false) (kS : Nat → Nat) (tE : Nat) (dC : Nat → ClassId) (dI : Nat → Nat → Nat) (sz : Nat) (q : Nat → Nat) (cO : ClassId) (cO2 : ClassId) (m4 : Int32) (m3 : Int32) (dv : Int32) (p0 : Int32) : vx_Met l yX5_requireWork wsX5_requireWork ({ frames := 7, cells := 1, slots := 6, locals := 103 }) (va_Pc [.ref (q 0), .int p0] (gb_Pw kS tE (gb_ro sz) (dC, dI) [(cO, .object "java/lang/Object"), (cO2, .object "java/lang/Object")] [(q 0, .inr (6, [.ref (q 1), .ref (q 2), .ref (q 3), .ref (q 4), .ref (q 5), .int dv, .int 0])), (q 1, .inr (0, [.int m4, .ref (q 6), .int 4])), (q 2, .inr (0, [.int 0, .ref tE, .int 0])), (q 3, .inr (0, [.int m3, .ref (q 7), .int 3])), (q 4, .inr (0, [.int 0, .ref tE, .int 0])), (q 5, .inr (1, [.int 0, .int (-1)])), (q 6, .inl (cO, 10, .inr (.inr (.inr (.inr (va_up (va_up (va_up (va_up (fun _ => none) (0 : Int32).toNatClampNeg (some (q 8))) (1 : Int32).toNatClampNeg (some (q 9))) (2 : Int32).toNatClampNeg (some (q 10))) (3 : Int32).toNatClampNeg (some (q 11)))))))), (q 7, .inl (cO2, 10, .inr (.inr (.inr (.inr (va_up (va_up (va_up (fun _ => none) (0 : Int32).toNatClampNeg (some (q 16))) (1 : Int32).toNatClampNeg (some (q 17))) (2 : Int32).toNatClampNeg (some (q 18)))))))), (q 8, .inr (2, [.int 0, .ref (q 12), .int 1])), (q 9, .inr (2, [.int 1, .ref (q 13), .int 0])), (q 10, .inr (2, [.int 2, .ref (q 14), .int 0])), (q 11, .inr (2, [.int 3, .ref (q 15), .int 0])), (q 12, .inr (1, [.int 0, .int (-1)])), (q 13, .inr (1, [.int 0, .int (-1)])), (q 14, .inr (1, [.int 0, .int (-1)])), (q 15, .inr (1, [.int 0, .int (-1)])), (q 16, .inr (5, [.int 2, .int 0, .int 0, .int 0])), (q 17, .inr (5, [.int 3, .int 0, .int 0, .int 0])), (q 18, .inr (5, [.int 4, .int 0, .int 0, .int 0]))] sz)) (va_Qv (fun _ : Unit => ¬ p0 < 0 ∧ p0 < 3) (fun _ _ => True) (gb_ro sz)) (vx_X (fun _ : Unit => True) (fun E _ _ => (E = "java/lang/IndexOutOfBoundsException" ∧ (p0 < 0 ∨ ¬ p0 < 3))) (gb_ro sz)) 1 6 (gb_ro sz) := by
  refine vx_ofW (cc := cX5_requireWork) (maxL := 2) (ret := none) (by decide) rfl ?_
  intro p e s m args below meth c s₁ B hml hno hv
  obtain ⟨rfl, hsz, hZT, hZ, hP, hK, hD0⟩ := hv
  have hx := B.exec
  have hb := B.bytes
  have hr := B.returns
  have hts := atoms_spec (ws := wsX5_requireWork) B.pre
  have hown : s.vm.findClass RX5 = some m.cls := findClass_of_methodNamed B.named
  have hlocks := B.notSynchronized
  subst hsz
  have hi6 : ∀ w ∈ u_ws RX5 TX5 7, w ∈ wsX5_requireWork := by decide +kernel
  have hD := hD0
  generalize hAe : gb_ro s.heap.size = A at hZ ⊢
  have hA : ∀ q : Nat, s.heap.size ≤ q → A q := fun q h => by rw [← hAe]; exact h
  have hS : va_S A s.heap s.heap [] := va_S.rf
  have hP : va_P (dC, dI) vwCl [(q 0, .inr (6, [.ref (q 1), .ref (q 2), .ref (q 3), .ref (q 4), .ref (q 5), .int dv, .int 0])), (q 1, .inr (0, [.int m4, .ref (q 6), .int 4])), (q 2, .inr (0, [.int 0, .ref tE, .int 0])), (q 3, .inr (0, [.int m3, .ref (q 7), .int 3])), (q 4, .inr (0, [.int 0, .ref tE, .int 0])), (q 5, .inr (1, [.int 0, .int (-1)])), (q 6, .inl (cO, 10, .inr (.inr (.inr (.inr (va_up (va_up (va_up (va_up (fun _ => none) (0 : Int32).toNatClampNeg (some (q 8))) (1 : Int32).toNatClampNeg (some (q 9))) (2 : Int32).toNatClampNeg (some (q 10))) (3 : Int32).toNatClampNeg (some (q 11)))))))), (q 7, .inl (cO2, 10, .inr (.inr (.inr (.inr (va_up (va_up (va_up (fun _ => none) (0 : Int32).toNatClampNeg (some (q 16))) (1 : Int32).toNatClampNeg (some (q 17))) (2 : Int32).toNatClampNeg (some (q 18)))))))), (q 8, .inr (2, [.int 0, .ref (q 12), .int 1])), (q 9, .inr (2, [.int 1, .ref (q 13), .int 0])), (q 10, .inr (2, [.int 2, .ref (q 14), .int 0])), (q 11, .inr (2, [.int 3, .ref (q 15), .int 0])), (q 12, .inr (1, [.int 0, .int (-1)])), (q 13, .inr (1, [.int 0, .int (-1)])), (q 14, .inr (1, [.int 0, .int (-1)])), (q 15, .inr (1, [.int 0, .int (-1)])), (q 16, .inr (5, [.int 2, .int 0, .int 0, .int 0])), (q 17, .inr (5, [.int 3, .int 0, .int 0, .int 0])), (q 18, .inr (5, [.int 4, .int 0, .int 0, .int 0]))] s.heap := hP
  have hl := lv_entry ([.ref (q 0), .int p0]) (n := 2) (Nat.le_of_ble_eq_true rfl)
  rw [lg_entry_eq]
  generalize (lg_sl ([.ref (q 0), .int p0]) ++ List.replicate (2 - (lg_sl ([.ref (q 0), .int p0])).length) Slot.unset).toArray = ls at hl ⊢
  have hl : lv_has ls 2 [(0, .ref (q 0)), (1, .int p0)] := hl
  refine lv_iload_n hx hb dX5_requireWork_0 rfl (lv_at hl 1 rfl) ?_
  refine lv_aload_n hx hb dX5_requireWork_1 rfl (lv_at hl 0 rfl) ?_
  refine va_get (D := (dC, dI)) (ci := 6) (v := .ref (q 3)) (C := RX5) (T := TX5) (N := 7) hx hb hts hi6 hown hK hP 0 rfl rfl 2 (by decide) (hts (.fieldLink RX5 19 "GlacierBook" "workers" "Ljava/util/ArrayList;") (by decide +kernel)) (fun _ h9 => h9) rfl dX5_requireWork_2 ?_
  have hPc := hP.sub (ws' := [(q 3, .inr (0, [.int m3, .ref (q 7), .int 3]))]) [3] rfl
  have hDc := hD.sub (ws' := [(q 3, .inr (0, [.int m3, .ref (q 7), .int 3]))]) [3] (by decide) rfl
  have hKc := hK.sub (tys' := []) [] rfl
  have hFc := gb_free hA hS
  refine va_calli (va_runV (As := []) (rest := [.int p0]) ⟨hx, hb, hml, hown, hts⟩ (c_Jx4a65c_size_8abf5 l hl9 kS tE dC dI s.heap.size (q 3) m3 (q 7) (3 : Int32)) (cwV 0 hts gX5_requireWork_Jx4a65c_size_8abf5 rfl rfl rfl (by decide +kernel) ⟨Nat.le_of_ble_eq_true rfl, Nat.le_of_ble_eq_true rfl⟩) (gb_preV hZT hZ hS hFc hPc hDc hKc (va_recv hK hP (ci := 0) (q0 := 3) rfl rfl)) rfl rfl hl.1 rfl (lv_room (Nat.le_of_ble_eq_true rfl)) dX5_requireWork_5 ⟨Nat.le_of_ble_eq_true rfl, Nat.le_of_ble_eq_true rfl⟩) hS (fun q _ h => hFc q h) hFc (fun r_1 u t H locs ht hvm hw hB hz1 hk1 hS => ?_)
  have hP := gb_keep hP hk1
  subst hw
  have hPc := hP.sub (ws' := []) [] rfl
  have hDc := hD.sub (ws' := []) [] (by decide) rfl
  have hKc := hK.sub (tys' := []) [] rfl
  have hFc := gb_free hA hS
  refine vx_callv (vx_runS (As := [.int p0, .int 3]) (rest := []) ⟨hx, hb, hml, hown, hts⟩ (c_X5_requireIndex l hl9 kS tE dC dI H.size p0 (3 : Int32)) (va_cwS 2 hts gX5_requireWork_X5_requireIndex rfl rfl rfl (by decide +kernel) ⟨Nat.le_of_ble_eq_true rfl, Nat.le_of_ble_eq_true rfl⟩) (gb_preS hZT hZ hS hFc hPc hDc hKc) rfl rfl hl.1 rfl (lv_room (Nat.le_of_ble_eq_true rfl)) dX5_requireWork_8 ⟨Nat.le_of_ble_eq_true rfl, Nat.le_of_ble_eq_true rfl⟩) hS (fun q _ h => hFc q h) hFc (fun q _ h => hFc q h) (fun E9 ce q9 u t H locs ht hvm hw hB hz1 hk1 hS hce hcv hcl => ?_) (fun u t H locs ht hvm hw hB hz1 hk1 hS => ?_)
  · obtain ⟨rfl, hq0⟩ := hB
    exact vx_out (fun x h9 => (hno x h9).elim) hlocks hce hcv hcl (fun t ht ha => ⟨(), trivial, ⟨rfl, (lb_29 p0 hq0)⟩, hS.F ht⟩) hS.2.2 (Nat.le_of_ble_eq_true rfl) (Nat.le_of_ble_eq_true rfl)
  · have w_3 := hw
    have hP := gb_keep hP hk1
    refine vx_ret ?_
    refine W.widen (k := 1) (n := 6) (Nat.le_of_ble_eq_true rfl) (Nat.le_of_ble_eq_true rfl) ?_
    exact W.vret hx hb hr (fun t ht hW => ⟨⟨(), rfl, (lb_30 p0 w_3), trivial⟩, hS.F ht⟩) hS.2.2 dX5_requireWork_11

theorem lb_31 (p0 : Int32) (hq0 : p0 < 0 ∨ ¬ p0 < (0 : Int32)) : p0 = p0 := by
  (try simp only [sp_hunger, sp_setCut, sp_setWarm, sp_setFrost, sp_setPeople, sp_stock, sp_changed, sp_fill, sp_pass, gb_okD, gb_okG, gb_okW, gb_days, gb_in, gb_lt, gb_le, gb_eq, gb_l0, gb_l1, gb_l2, gb_l3, gb_l4, gb_l5, gb_l10, gb_l19, gb_l20, gb_l40, gb_l60, gb_l1000, gb_l1500, gb_lm1, gb_l65536, true_and, and_true, false_and, and_false, true_or, or_true, false_or, or_false, not_true_eq_false, not_false_eq_true, ne_eq] at *) <;> omega
theorem lb_32 (p0 : Int32) (w_3 : ¬ p0 < 0 ∧ p0 < (0 : Int32)) : False := by
  (try simp only [sp_hunger, sp_setCut, sp_setWarm, sp_setFrost, sp_setPeople, sp_stock, sp_changed, sp_fill, sp_pass, gb_okD, gb_okG, gb_okW, gb_days, gb_in, gb_lt, gb_le, gb_eq, gb_l0, gb_l1, gb_l2, gb_l3, gb_l4, gb_l5, gb_l10, gb_l19, gb_l20, gb_l40, gb_l60, gb_l1000, gb_l1500, gb_lm1, gb_l65536, true_and, and_true, false_and, and_false, true_or, or_true, false_or, or_false, not_true_eq_false, not_false_eq_true, ne_eq] at *) <;> omega
set_option maxHeartbeats 4000000 in
set_option maxRecDepth 100000 in
theorem c_X5_requireLot (l : Launch) (hl9 : l.stackTraces = false) (kS : Nat → Nat) (tE : Nat) (dC : Nat → ClassId) (dI : Nat → Nat → Nat) (sz : Nat) (q : Nat → Nat) (cO : ClassId) (cO2 : ClassId) (m4 : Int32) (m3 : Int32) (dv : Int32) (p0 : Int32) : vx_Met l yX5_requireLot wsX5_requireLot ({ frames := 7, cells := 1, slots := 6, locals := 103 }) (va_Pc [.ref (q 0), .int p0] (gb_Pw kS tE (gb_ro sz) (dC, dI) [(cO, .object "java/lang/Object"), (cO2, .object "java/lang/Object")] [(q 0, .inr (6, [.ref (q 1), .ref (q 2), .ref (q 3), .ref (q 4), .ref (q 5), .int dv, .int 0])), (q 1, .inr (0, [.int m4, .ref (q 6), .int 4])), (q 2, .inr (0, [.int 0, .ref tE, .int 0])), (q 3, .inr (0, [.int m3, .ref (q 7), .int 3])), (q 4, .inr (0, [.int 0, .ref tE, .int 0])), (q 5, .inr (1, [.int 0, .int (-1)])), (q 6, .inl (cO, 10, .inr (.inr (.inr (.inr (va_up (va_up (va_up (va_up (fun _ => none) (0 : Int32).toNatClampNeg (some (q 8))) (1 : Int32).toNatClampNeg (some (q 9))) (2 : Int32).toNatClampNeg (some (q 10))) (3 : Int32).toNatClampNeg (some (q 11)))))))), (q 7, .inl (cO2, 10, .inr (.inr (.inr (.inr (va_up (va_up (va_up (fun _ => none) (0 : Int32).toNatClampNeg (some (q 16))) (1 : Int32).toNatClampNeg (some (q 17))) (2 : Int32).toNatClampNeg (some (q 18)))))))), (q 8, .inr (2, [.int 0, .ref (q 12), .int 1])), (q 9, .inr (2, [.int 1, .ref (q 13), .int 0])), (q 10, .inr (2, [.int 2, .ref (q 14), .int 0])), (q 11, .inr (2, [.int 3, .ref (q 15), .int 0])), (q 12, .inr (1, [.int 0, .int (-1)])), (q 13, .inr (1, [.int 0, .int (-1)])), (q 14, .inr (1, [.int 0, .int (-1)])), (q 15, .inr (1, [.int 0, .int (-1)])), (q 16, .inr (5, [.int 2, .int 0, .int 0, .int 0])), (q 17, .inr (5, [.int 3, .int 0, .int 0, .int 0])), (q 18, .inr (5, [.int 4, .int 0, .int 0, .int 0]))] sz)) (va_Qv (fun _ : Unit => False) (fun _ _ => True) (gb_ro sz)) (vx_X (fun _ : Unit => True) (fun E _ _ => (E = "java/lang/IndexOutOfBoundsException" ∧ (p0 = p0))) (gb_ro sz)) 1 6 (gb_ro sz) := by
  refine vx_ofW (cc := cX5_requireLot) (maxL := 2) (ret := none) (by decide) rfl ?_
  intro p e s m args below meth c s₁ B hml hno hv
  obtain ⟨rfl, hsz, hZT, hZ, hP, hK, hD0⟩ := hv
  have hx := B.exec
  have hb := B.bytes
  have hr := B.returns
  have hts := atoms_spec (ws := wsX5_requireLot) B.pre
  have hown : s.vm.findClass RX5 = some m.cls := findClass_of_methodNamed B.named
  have hlocks := B.notSynchronized
  subst hsz
  have hi6 : ∀ w ∈ u_ws RX5 TX5 7, w ∈ wsX5_requireLot := by decide +kernel
  have hD := hD0
  generalize hAe : gb_ro s.heap.size = A at hZ ⊢
  have hA : ∀ q : Nat, s.heap.size ≤ q → A q := fun q h => by rw [← hAe]; exact h
  have hS : va_S A s.heap s.heap [] := va_S.rf
  have hP : va_P (dC, dI) vwCl [(q 0, .inr (6, [.ref (q 1), .ref (q 2), .ref (q 3), .ref (q 4), .ref (q 5), .int dv, .int 0])), (q 1, .inr (0, [.int m4, .ref (q 6), .int 4])), (q 2, .inr (0, [.int 0, .ref tE, .int 0])), (q 3, .inr (0, [.int m3, .ref (q 7), .int 3])), (q 4, .inr (0, [.int 0, .ref tE, .int 0])), (q 5, .inr (1, [.int 0, .int (-1)])), (q 6, .inl (cO, 10, .inr (.inr (.inr (.inr (va_up (va_up (va_up (va_up (fun _ => none) (0 : Int32).toNatClampNeg (some (q 8))) (1 : Int32).toNatClampNeg (some (q 9))) (2 : Int32).toNatClampNeg (some (q 10))) (3 : Int32).toNatClampNeg (some (q 11)))))))), (q 7, .inl (cO2, 10, .inr (.inr (.inr (.inr (va_up (va_up (va_up (fun _ => none) (0 : Int32).toNatClampNeg (some (q 16))) (1 : Int32).toNatClampNeg (some (q 17))) (2 : Int32).toNatClampNeg (some (q 18)))))))), (q 8, .inr (2, [.int 0, .ref (q 12), .int 1])), (q 9, .inr (2, [.int 1, .ref (q 13), .int 0])), (q 10, .inr (2, [.int 2, .ref (q 14), .int 0])), (q 11, .inr (2, [.int 3, .ref (q 15), .int 0])), (q 12, .inr (1, [.int 0, .int (-1)])), (q 13, .inr (1, [.int 0, .int (-1)])), (q 14, .inr (1, [.int 0, .int (-1)])), (q 15, .inr (1, [.int 0, .int (-1)])), (q 16, .inr (5, [.int 2, .int 0, .int 0, .int 0])), (q 17, .inr (5, [.int 3, .int 0, .int 0, .int 0])), (q 18, .inr (5, [.int 4, .int 0, .int 0, .int 0]))] s.heap := hP
  have hl := lv_entry ([.ref (q 0), .int p0]) (n := 2) (Nat.le_of_ble_eq_true rfl)
  rw [lg_entry_eq]
  generalize (lg_sl ([.ref (q 0), .int p0]) ++ List.replicate (2 - (lg_sl ([.ref (q 0), .int p0])).length) Slot.unset).toArray = ls at hl ⊢
  have hl : lv_has ls 2 [(0, .ref (q 0)), (1, .int p0)] := hl
  refine lv_iload_n hx hb dX5_requireLot_0 rfl (lv_at hl 1 rfl) ?_
  refine lv_aload_n hx hb dX5_requireLot_1 rfl (lv_at hl 0 rfl) ?_
  refine va_get (D := (dC, dI)) (ci := 6) (v := .ref (q 2)) (C := RX5) (T := TX5) (N := 7) hx hb hts hi6 hown hK hP 0 rfl rfl 1 (by decide) (hts (.fieldLink RX5 16 "GlacierBook" "allLots" "Ljava/util/ArrayList;") (by decide +kernel)) (fun _ h9 => h9) rfl dX5_requireLot_2 ?_
  have hPc := hP.sub (ws' := [(q 2, .inr (0, [.int 0, .ref tE, .int 0]))]) [2] rfl
  have hDc := hD.sub (ws' := [(q 2, .inr (0, [.int 0, .ref tE, .int 0]))]) [2] (by decide) rfl
  have hKc := hK.sub (tys' := []) [] rfl
  have hFc := gb_free hA hS
  refine va_calli (va_runV (As := []) (rest := [.int p0]) ⟨hx, hb, hml, hown, hts⟩ (c_Jx4a65c_size_8abf5 l hl9 kS tE dC dI s.heap.size (q 2) (0 : Int32) tE (0 : Int32)) (cwV 0 hts gX5_requireLot_Jx4a65c_size_8abf5 rfl rfl rfl (by decide +kernel) ⟨Nat.le_of_ble_eq_true rfl, Nat.le_of_ble_eq_true rfl⟩) (gb_preV hZT hZ hS hFc hPc hDc hKc (va_recv hK hP (ci := 0) (q0 := 2) rfl rfl)) rfl rfl hl.1 rfl (lv_room (Nat.le_of_ble_eq_true rfl)) dX5_requireLot_5 ⟨Nat.le_of_ble_eq_true rfl, Nat.le_of_ble_eq_true rfl⟩) hS (fun q _ h => hFc q h) hFc (fun r_1 u t H locs ht hvm hw hB hz1 hk1 hS => ?_)
  have hP := gb_keep hP hk1
  subst hw
  have hPc := hP.sub (ws' := []) [] rfl
  have hDc := hD.sub (ws' := []) [] (by decide) rfl
  have hKc := hK.sub (tys' := []) [] rfl
  have hFc := gb_free hA hS
  refine vx_callv (vx_runS (As := [.int p0, .int 0]) (rest := []) ⟨hx, hb, hml, hown, hts⟩ (c_X5_requireIndex l hl9 kS tE dC dI H.size p0 (0 : Int32)) (va_cwS 2 hts gX5_requireLot_X5_requireIndex rfl rfl rfl (by decide +kernel) ⟨Nat.le_of_ble_eq_true rfl, Nat.le_of_ble_eq_true rfl⟩) (gb_preS hZT hZ hS hFc hPc hDc hKc) rfl rfl hl.1 rfl (lv_room (Nat.le_of_ble_eq_true rfl)) dX5_requireLot_8 ⟨Nat.le_of_ble_eq_true rfl, Nat.le_of_ble_eq_true rfl⟩) hS (fun q _ h => hFc q h) hFc (fun q _ h => hFc q h) (fun E9 ce q9 u t H locs ht hvm hw hB hz1 hk1 hS hce hcv hcl => ?_) (fun u t H locs ht hvm hw hB hz1 hk1 hS => ?_)
  · obtain ⟨rfl, hq0⟩ := hB
    exact vx_out (fun x h9 => (hno x h9).elim) hlocks hce hcv hcl (fun t ht ha => ⟨(), trivial, ⟨rfl, (lb_31 p0 hq0)⟩, hS.F ht⟩) hS.2.2 (Nat.le_of_ble_eq_true rfl) (Nat.le_of_ble_eq_true rfl)
  · have w_3 := hw
    have hP := gb_keep hP hk1
    exact (lb_32 p0 w_3).elim

theorem lb_33 (p0 : Int32) (hq0 : p0 < 0 ∨ ¬ p0 < (0 : Int32)) : p0 = p0 := by
  (try simp only [sp_hunger, sp_setCut, sp_setWarm, sp_setFrost, sp_setPeople, sp_stock, sp_changed, sp_fill, sp_pass, gb_okD, gb_okG, gb_okW, gb_days, gb_in, gb_lt, gb_le, gb_eq, gb_l0, gb_l1, gb_l2, gb_l3, gb_l4, gb_l5, gb_l10, gb_l19, gb_l20, gb_l40, gb_l60, gb_l1000, gb_l1500, gb_lm1, gb_l65536, true_and, and_true, false_and, and_false, true_or, or_true, false_or, or_false, not_true_eq_false, not_false_eq_true, ne_eq] at *) <;> omega
theorem lb_34 (p0 : Int32) (w_3 : ¬ p0 < 0 ∧ p0 < (0 : Int32)) : False := by
  (try simp only [sp_hunger, sp_setCut, sp_setWarm, sp_setFrost, sp_setPeople, sp_stock, sp_changed, sp_fill, sp_pass, gb_okD, gb_okG, gb_okW, gb_days, gb_in, gb_lt, gb_le, gb_eq, gb_l0, gb_l1, gb_l2, gb_l3, gb_l4, gb_l5, gb_l10, gb_l19, gb_l20, gb_l40, gb_l60, gb_l1000, gb_l1500, gb_lm1, gb_l65536, true_and, and_true, false_and, and_false, true_or, or_true, false_or, or_false, not_true_eq_false, not_false_eq_true, ne_eq] at *) <;> omega
set_option maxHeartbeats 4000000 in
set_option maxRecDepth 100000 in
theorem c_X5_requireEntry (l : Launch) (hl9 : l.stackTraces = false) (kS : Nat → Nat) (tE : Nat) (dC : Nat → ClassId) (dI : Nat → Nat → Nat) (sz : Nat) (q : Nat → Nat) (cO : ClassId) (cO2 : ClassId) (m4 : Int32) (m3 : Int32) (dv : Int32) (p0 : Int32) : vx_Met l yX5_requireEntry wsX5_requireEntry ({ frames := 7, cells := 1, slots := 6, locals := 103 }) (va_Pc [.ref (q 0), .int p0] (gb_Pw kS tE (gb_ro sz) (dC, dI) [(cO, .object "java/lang/Object"), (cO2, .object "java/lang/Object")] [(q 0, .inr (6, [.ref (q 1), .ref (q 2), .ref (q 3), .ref (q 4), .ref (q 5), .int dv, .int 0])), (q 1, .inr (0, [.int m4, .ref (q 6), .int 4])), (q 2, .inr (0, [.int 0, .ref tE, .int 0])), (q 3, .inr (0, [.int m3, .ref (q 7), .int 3])), (q 4, .inr (0, [.int 0, .ref tE, .int 0])), (q 5, .inr (1, [.int 0, .int (-1)])), (q 6, .inl (cO, 10, .inr (.inr (.inr (.inr (va_up (va_up (va_up (va_up (fun _ => none) (0 : Int32).toNatClampNeg (some (q 8))) (1 : Int32).toNatClampNeg (some (q 9))) (2 : Int32).toNatClampNeg (some (q 10))) (3 : Int32).toNatClampNeg (some (q 11)))))))), (q 7, .inl (cO2, 10, .inr (.inr (.inr (.inr (va_up (va_up (va_up (fun _ => none) (0 : Int32).toNatClampNeg (some (q 16))) (1 : Int32).toNatClampNeg (some (q 17))) (2 : Int32).toNatClampNeg (some (q 18)))))))), (q 8, .inr (2, [.int 0, .ref (q 12), .int 1])), (q 9, .inr (2, [.int 1, .ref (q 13), .int 0])), (q 10, .inr (2, [.int 2, .ref (q 14), .int 0])), (q 11, .inr (2, [.int 3, .ref (q 15), .int 0])), (q 12, .inr (1, [.int 0, .int (-1)])), (q 13, .inr (1, [.int 0, .int (-1)])), (q 14, .inr (1, [.int 0, .int (-1)])), (q 15, .inr (1, [.int 0, .int (-1)])), (q 16, .inr (5, [.int 2, .int 0, .int 0, .int 0])), (q 17, .inr (5, [.int 3, .int 0, .int 0, .int 0])), (q 18, .inr (5, [.int 4, .int 0, .int 0, .int 0]))] sz)) (va_Qv (fun _ : Unit => False) (fun _ _ => True) (gb_ro sz)) (vx_X (fun _ : Unit => True) (fun E _ _ => (E = "java/lang/IndexOutOfBoundsException" ∧ (p0 = p0))) (gb_ro sz)) 1 6 (gb_ro sz) := by
  refine vx_ofW (cc := cX5_requireEntry) (maxL := 2) (ret := none) (by decide) rfl ?_
  intro p e s m args below meth c s₁ B hml hno hv
  obtain ⟨rfl, hsz, hZT, hZ, hP, hK, hD0⟩ := hv
  have hx := B.exec
  have hb := B.bytes
  have hr := B.returns
  have hts := atoms_spec (ws := wsX5_requireEntry) B.pre
  have hown : s.vm.findClass RX5 = some m.cls := findClass_of_methodNamed B.named
  have hlocks := B.notSynchronized
  subst hsz
  have hi6 : ∀ w ∈ u_ws RX5 TX5 7, w ∈ wsX5_requireEntry := by decide +kernel
  have hD := hD0
  generalize hAe : gb_ro s.heap.size = A at hZ ⊢
  have hA : ∀ q : Nat, s.heap.size ≤ q → A q := fun q h => by rw [← hAe]; exact h
  have hS : va_S A s.heap s.heap [] := va_S.rf
  have hP : va_P (dC, dI) vwCl [(q 0, .inr (6, [.ref (q 1), .ref (q 2), .ref (q 3), .ref (q 4), .ref (q 5), .int dv, .int 0])), (q 1, .inr (0, [.int m4, .ref (q 6), .int 4])), (q 2, .inr (0, [.int 0, .ref tE, .int 0])), (q 3, .inr (0, [.int m3, .ref (q 7), .int 3])), (q 4, .inr (0, [.int 0, .ref tE, .int 0])), (q 5, .inr (1, [.int 0, .int (-1)])), (q 6, .inl (cO, 10, .inr (.inr (.inr (.inr (va_up (va_up (va_up (va_up (fun _ => none) (0 : Int32).toNatClampNeg (some (q 8))) (1 : Int32).toNatClampNeg (some (q 9))) (2 : Int32).toNatClampNeg (some (q 10))) (3 : Int32).toNatClampNeg (some (q 11)))))))), (q 7, .inl (cO2, 10, .inr (.inr (.inr (.inr (va_up (va_up (va_up (fun _ => none) (0 : Int32).toNatClampNeg (some (q 16))) (1 : Int32).toNatClampNeg (some (q 17))) (2 : Int32).toNatClampNeg (some (q 18)))))))), (q 8, .inr (2, [.int 0, .ref (q 12), .int 1])), (q 9, .inr (2, [.int 1, .ref (q 13), .int 0])), (q 10, .inr (2, [.int 2, .ref (q 14), .int 0])), (q 11, .inr (2, [.int 3, .ref (q 15), .int 0])), (q 12, .inr (1, [.int 0, .int (-1)])), (q 13, .inr (1, [.int 0, .int (-1)])), (q 14, .inr (1, [.int 0, .int (-1)])), (q 15, .inr (1, [.int 0, .int (-1)])), (q 16, .inr (5, [.int 2, .int 0, .int 0, .int 0])), (q 17, .inr (5, [.int 3, .int 0, .int 0, .int 0])), (q 18, .inr (5, [.int 4, .int 0, .int 0, .int 0]))] s.heap := hP
  have hl := lv_entry ([.ref (q 0), .int p0]) (n := 2) (Nat.le_of_ble_eq_true rfl)
  rw [lg_entry_eq]
  generalize (lg_sl ([.ref (q 0), .int p0]) ++ List.replicate (2 - (lg_sl ([.ref (q 0), .int p0])).length) Slot.unset).toArray = ls at hl ⊢
  have hl : lv_has ls 2 [(0, .ref (q 0)), (1, .int p0)] := hl
  refine lv_iload_n hx hb dX5_requireEntry_0 rfl (lv_at hl 1 rfl) ?_
  refine lv_aload_n hx hb dX5_requireEntry_1 rfl (lv_at hl 0 rfl) ?_
  refine va_get (D := (dC, dI)) (ci := 6) (v := .ref (q 4)) (C := RX5) (T := TX5) (N := 7) hx hb hts hi6 hown hK hP 0 rfl rfl 3 (by decide) (hts (.fieldLink RX5 22 "GlacierBook" "journal" "Ljava/util/ArrayList;") (by decide +kernel)) (fun _ h9 => h9) rfl dX5_requireEntry_2 ?_
  have hPc := hP.sub (ws' := [(q 4, .inr (0, [.int 0, .ref tE, .int 0]))]) [4] rfl
  have hDc := hD.sub (ws' := [(q 4, .inr (0, [.int 0, .ref tE, .int 0]))]) [4] (by decide) rfl
  have hKc := hK.sub (tys' := []) [] rfl
  have hFc := gb_free hA hS
  refine va_calli (va_runV (As := []) (rest := [.int p0]) ⟨hx, hb, hml, hown, hts⟩ (c_Jx4a65c_size_8abf5 l hl9 kS tE dC dI s.heap.size (q 4) (0 : Int32) tE (0 : Int32)) (cwV 0 hts gX5_requireEntry_Jx4a65c_size_8abf5 rfl rfl rfl (by decide +kernel) ⟨Nat.le_of_ble_eq_true rfl, Nat.le_of_ble_eq_true rfl⟩) (gb_preV hZT hZ hS hFc hPc hDc hKc (va_recv hK hP (ci := 0) (q0 := 4) rfl rfl)) rfl rfl hl.1 rfl (lv_room (Nat.le_of_ble_eq_true rfl)) dX5_requireEntry_5 ⟨Nat.le_of_ble_eq_true rfl, Nat.le_of_ble_eq_true rfl⟩) hS (fun q _ h => hFc q h) hFc (fun r_1 u t H locs ht hvm hw hB hz1 hk1 hS => ?_)
  have hP := gb_keep hP hk1
  subst hw
  have hPc := hP.sub (ws' := []) [] rfl
  have hDc := hD.sub (ws' := []) [] (by decide) rfl
  have hKc := hK.sub (tys' := []) [] rfl
  have hFc := gb_free hA hS
  refine vx_callv (vx_runS (As := [.int p0, .int 0]) (rest := []) ⟨hx, hb, hml, hown, hts⟩ (c_X5_requireIndex l hl9 kS tE dC dI H.size p0 (0 : Int32)) (va_cwS 2 hts gX5_requireEntry_X5_requireIndex rfl rfl rfl (by decide +kernel) ⟨Nat.le_of_ble_eq_true rfl, Nat.le_of_ble_eq_true rfl⟩) (gb_preS hZT hZ hS hFc hPc hDc hKc) rfl rfl hl.1 rfl (lv_room (Nat.le_of_ble_eq_true rfl)) dX5_requireEntry_8 ⟨Nat.le_of_ble_eq_true rfl, Nat.le_of_ble_eq_true rfl⟩) hS (fun q _ h => hFc q h) hFc (fun q _ h => hFc q h) (fun E9 ce q9 u t H locs ht hvm hw hB hz1 hk1 hS hce hcv hcl => ?_) (fun u t H locs ht hvm hw hB hz1 hk1 hS => ?_)
  · obtain ⟨rfl, hq0⟩ := hB
    exact vx_out (fun x h9 => (hno x h9).elim) hlocks hce hcv hcl (fun t ht ha => ⟨(), trivial, ⟨rfl, (lb_33 p0 hq0)⟩, hS.F ht⟩) hS.2.2 (Nat.le_of_ble_eq_true rfl) (Nat.le_of_ble_eq_true rfl)
  · have w_3 := hw
    have hP := gb_keep hP hk1
    exact (lb_34 p0 w_3).elim

theorem lb_35 : True := by
  (try simp only [sp_hunger, sp_setCut, sp_setWarm, sp_setFrost, sp_setPeople, sp_stock, sp_changed, sp_fill, sp_pass, gb_okD, gb_okG, gb_okW, gb_days, gb_in, gb_lt, gb_le, gb_eq, gb_l0, gb_l1, gb_l2, gb_l3, gb_l4, gb_l5, gb_l10, gb_l19, gb_l20, gb_l40, gb_l60, gb_l1000, gb_l1500, gb_lm1, gb_l65536, true_and, and_true, false_and, and_false, true_or, or_true, false_or, or_false, not_true_eq_false, not_false_eq_true, ne_eq] at *) <;> omega
set_option maxHeartbeats 4000000 in
set_option maxRecDepth 100000 in
theorem c_X5_requireRoomForLot (l : Launch) (hl9 : l.stackTraces = false) (kS : Nat → Nat) (tE : Nat) (dC : Nat → ClassId) (dI : Nat → Nat → Nat) (sz : Nat) (q : Nat → Nat) (cO : ClassId) (cO2 : ClassId) (m4 : Int32) (m3 : Int32) (dv : Int32) : Met l yX5_requireRoomForLot wsX5_requireRoomForLot ({ frames := 1, cells := 0, slots := 0, locals := 20 }) (va_Pc [.ref (q 0)] (gb_Pw kS tE (gb_ro sz) (dC, dI) [(cO, .object "java/lang/Object"), (cO2, .object "java/lang/Object")] [(q 0, .inr (6, [.ref (q 1), .ref (q 2), .ref (q 3), .ref (q 4), .ref (q 5), .int dv, .int 0])), (q 1, .inr (0, [.int m4, .ref (q 6), .int 4])), (q 2, .inr (0, [.int 0, .ref tE, .int 0])), (q 3, .inr (0, [.int m3, .ref (q 7), .int 3])), (q 4, .inr (0, [.int 0, .ref tE, .int 0])), (q 5, .inr (1, [.int 0, .int (-1)])), (q 6, .inl (cO, 10, .inr (.inr (.inr (.inr (va_up (va_up (va_up (va_up (fun _ => none) (0 : Int32).toNatClampNeg (some (q 8))) (1 : Int32).toNatClampNeg (some (q 9))) (2 : Int32).toNatClampNeg (some (q 10))) (3 : Int32).toNatClampNeg (some (q 11)))))))), (q 7, .inl (cO2, 10, .inr (.inr (.inr (.inr (va_up (va_up (va_up (fun _ => none) (0 : Int32).toNatClampNeg (some (q 16))) (1 : Int32).toNatClampNeg (some (q 17))) (2 : Int32).toNatClampNeg (some (q 18)))))))), (q 8, .inr (2, [.int 0, .ref (q 12), .int 1])), (q 9, .inr (2, [.int 1, .ref (q 13), .int 0])), (q 10, .inr (2, [.int 2, .ref (q 14), .int 0])), (q 11, .inr (2, [.int 3, .ref (q 15), .int 0])), (q 12, .inr (1, [.int 0, .int (-1)])), (q 13, .inr (1, [.int 0, .int (-1)])), (q 14, .inr (1, [.int 0, .int (-1)])), (q 15, .inr (1, [.int 0, .int (-1)])), (q 16, .inr (5, [.int 2, .int 0, .int 0, .int 0])), (q 17, .inr (5, [.int 3, .int 0, .int 0, .int 0])), (q 18, .inr (5, [.int 4, .int 0, .int 0, .int 0]))] sz)) (va_Qv (fun _ : Unit => True) (fun _ _ => True) (gb_ro sz)) 0 0 (gb_ro sz) := by
  refine Met.ofW (cc := cX5_requireRoomForLot) (maxL := 1) (ret := none) (by decide) rfl ?_
  intro p e s m args below meth c s₁ B hml hv
  obtain ⟨rfl, hsz, hZT, hZ, hP, hK, hD0⟩ := hv
  have hx := B.exec
  have hb := B.bytes
  have hr := B.returns
  have hts := atoms_spec (ws := wsX5_requireRoomForLot) B.pre
  have hown : s.vm.findClass RX5 = some m.cls := findClass_of_methodNamed B.named
  have hlocks := B.notSynchronized
  subst hsz
  have hi6 : ∀ w ∈ u_ws RX5 TX5 7, w ∈ wsX5_requireRoomForLot := by decide +kernel
  have hD := hD0
  generalize hAe : gb_ro s.heap.size = A at hZ ⊢
  have hA : ∀ q : Nat, s.heap.size ≤ q → A q := fun q h => by rw [← hAe]; exact h
  have hS : va_S A s.heap s.heap [] := va_S.rf
  have hP : va_P (dC, dI) vwCl [(q 0, .inr (6, [.ref (q 1), .ref (q 2), .ref (q 3), .ref (q 4), .ref (q 5), .int dv, .int 0])), (q 1, .inr (0, [.int m4, .ref (q 6), .int 4])), (q 2, .inr (0, [.int 0, .ref tE, .int 0])), (q 3, .inr (0, [.int m3, .ref (q 7), .int 3])), (q 4, .inr (0, [.int 0, .ref tE, .int 0])), (q 5, .inr (1, [.int 0, .int (-1)])), (q 6, .inl (cO, 10, .inr (.inr (.inr (.inr (va_up (va_up (va_up (va_up (fun _ => none) (0 : Int32).toNatClampNeg (some (q 8))) (1 : Int32).toNatClampNeg (some (q 9))) (2 : Int32).toNatClampNeg (some (q 10))) (3 : Int32).toNatClampNeg (some (q 11)))))))), (q 7, .inl (cO2, 10, .inr (.inr (.inr (.inr (va_up (va_up (va_up (fun _ => none) (0 : Int32).toNatClampNeg (some (q 16))) (1 : Int32).toNatClampNeg (some (q 17))) (2 : Int32).toNatClampNeg (some (q 18)))))))), (q 8, .inr (2, [.int 0, .ref (q 12), .int 1])), (q 9, .inr (2, [.int 1, .ref (q 13), .int 0])), (q 10, .inr (2, [.int 2, .ref (q 14), .int 0])), (q 11, .inr (2, [.int 3, .ref (q 15), .int 0])), (q 12, .inr (1, [.int 0, .int (-1)])), (q 13, .inr (1, [.int 0, .int (-1)])), (q 14, .inr (1, [.int 0, .int (-1)])), (q 15, .inr (1, [.int 0, .int (-1)])), (q 16, .inr (5, [.int 2, .int 0, .int 0, .int 0])), (q 17, .inr (5, [.int 3, .int 0, .int 0, .int 0])), (q 18, .inr (5, [.int 4, .int 0, .int 0, .int 0]))] s.heap := hP
  have hl := lv_entry ([.ref (q 0)]) (n := 1) (Nat.le_of_ble_eq_true rfl)
  rw [lg_entry_eq]
  generalize (lg_sl ([.ref (q 0)]) ++ List.replicate (1 - (lg_sl ([.ref (q 0)])).length) Slot.unset).toArray = ls at hl ⊢
  have hl : lv_has ls 1 [(0, .ref (q 0))] := hl
  refine lv_aload_n hx hb dX5_requireRoomForLot_0 rfl (lv_at hl 0 rfl) ?_
  refine va_get (D := (dC, dI)) (ci := 6) (v := .ref (q 2)) (C := RX5) (T := TX5) (N := 7) hx hb hts hi6 hown hK hP 0 rfl rfl 1 (by decide) (hts (.fieldLink RX5 16 "GlacierBook" "allLots" "Ljava/util/ArrayList;") (by decide +kernel)) (fun _ h9 => h9) rfl dX5_requireRoomForLot_1 ?_
  have hPc := hP.sub (ws' := [(q 2, .inr (0, [.int 0, .ref tE, .int 0]))]) [2] rfl
  have hDc := hD.sub (ws' := [(q 2, .inr (0, [.int 0, .ref tE, .int 0]))]) [2] (by decide) rfl
  have hKc := hK.sub (tys' := []) [] rfl
  have hFc := gb_free hA hS
  refine va_calli (va_runV (As := []) (rest := []) ⟨hx, hb, hml, hown, hts⟩ (c_Jx4a65c_size_8abf5 l hl9 kS tE dC dI s.heap.size (q 2) (0 : Int32) tE (0 : Int32)) (cwV 0 hts gX5_requireRoomForLot_Jx4a65c_size_8abf5 rfl rfl rfl (by decide +kernel) ⟨Nat.le_of_ble_eq_true rfl, Nat.le_of_ble_eq_true rfl⟩) (gb_preV hZT hZ hS hFc hPc hDc hKc (va_recv hK hP (ci := 0) (q0 := 2) rfl rfl)) rfl rfl hl.1 rfl (lv_room (Nat.le_of_ble_eq_true rfl)) dX5_requireRoomForLot_4 ⟨Nat.le_of_ble_eq_true rfl, Nat.le_of_ble_eq_true rfl⟩) hS (fun q _ h => hFc q h) hFc (fun r_1 u t H locs ht hvm hw hB hz1 hk1 hS => ?_)
  have hP := gb_keep hP hk1
  subst hw
  refine lv_bipush (v := 40) hx hb dX5_requireRoomForLot_7 (by decide) ?_
  refine lv_icmp_lt (tgt := 22) hx hb dX5_requireRoomForLot_9 (by decide) (fun _ => ?_) (fun c9 => absurd c9 (by decide))
  refine W.widen (k := 0) (n := 0) (Nat.le_of_ble_eq_true rfl) (Nat.le_of_ble_eq_true rfl) ?_
  exact W.vret hx hb hr (fun t ht hW => ⟨⟨(), rfl, (lb_35), trivial⟩, hS.F ht⟩) hS.2.2 dX5_requireRoomForLot_22

theorem lb_36 : (0 : Int32) = 0 := by
  (try simp only [sp_hunger, sp_setCut, sp_setWarm, sp_setFrost, sp_setPeople, sp_stock, sp_changed, sp_fill, sp_pass, gb_okD, gb_okG, gb_okW, gb_days, gb_in, gb_lt, gb_le, gb_eq, gb_l0, gb_l1, gb_l2, gb_l3, gb_l4, gb_l5, gb_l10, gb_l19, gb_l20, gb_l40, gb_l60, gb_l1000, gb_l1500, gb_lm1, gb_l65536, true_and, and_true, false_and, and_false, true_or, or_true, false_or, or_false, not_true_eq_false, not_false_eq_true, ne_eq] at *) <;> omega
set_option maxHeartbeats 4000000 in
set_option maxRecDepth 100000 in
theorem c_X5_lots (l : Launch) (hl9 : l.stackTraces = false) (kS : Nat → Nat) (tE : Nat) (dC : Nat → ClassId) (dI : Nat → Nat → Nat) (sz : Nat) (q : Nat → Nat) (cO : ClassId) (cO2 : ClassId) (m4 : Int32) (m3 : Int32) (dv : Int32) : Met l yX5_lots wsX5_lots ({ frames := 1, cells := 0, slots := 0, locals := 20 }) (va_Pc [.ref (q 0)] (gb_Pw kS tE (gb_ro sz) (dC, dI) [(cO, .object "java/lang/Object"), (cO2, .object "java/lang/Object")] [(q 0, .inr (6, [.ref (q 1), .ref (q 2), .ref (q 3), .ref (q 4), .ref (q 5), .int dv, .int 0])), (q 1, .inr (0, [.int m4, .ref (q 6), .int 4])), (q 2, .inr (0, [.int 0, .ref tE, .int 0])), (q 3, .inr (0, [.int m3, .ref (q 7), .int 3])), (q 4, .inr (0, [.int 0, .ref tE, .int 0])), (q 5, .inr (1, [.int 0, .int (-1)])), (q 6, .inl (cO, 10, .inr (.inr (.inr (.inr (va_up (va_up (va_up (va_up (fun _ => none) (0 : Int32).toNatClampNeg (some (q 8))) (1 : Int32).toNatClampNeg (some (q 9))) (2 : Int32).toNatClampNeg (some (q 10))) (3 : Int32).toNatClampNeg (some (q 11)))))))), (q 7, .inl (cO2, 10, .inr (.inr (.inr (.inr (va_up (va_up (va_up (fun _ => none) (0 : Int32).toNatClampNeg (some (q 16))) (1 : Int32).toNatClampNeg (some (q 17))) (2 : Int32).toNatClampNeg (some (q 18)))))))), (q 8, .inr (2, [.int 0, .ref (q 12), .int 1])), (q 9, .inr (2, [.int 1, .ref (q 13), .int 0])), (q 10, .inr (2, [.int 2, .ref (q 14), .int 0])), (q 11, .inr (2, [.int 3, .ref (q 15), .int 0])), (q 12, .inr (1, [.int 0, .int (-1)])), (q 13, .inr (1, [.int 0, .int (-1)])), (q 14, .inr (1, [.int 0, .int (-1)])), (q 15, .inr (1, [.int 0, .int (-1)])), (q 16, .inr (5, [.int 2, .int 0, .int 0, .int 0])), (q 17, .inr (5, [.int 3, .int 0, .int 0, .int 0])), (q 18, .inr (5, [.int 4, .int 0, .int 0, .int 0]))] sz)) (va_Qi (fun (r : Int32) (_ : Unit) => r = 0) (fun _ _ => True) (gb_ro sz)) 0 0 (gb_ro sz) := by
  refine Met.ofW (cc := cX5_lots) (maxL := 1) (ret := (some .int)) (by decide) rfl ?_
  intro p e s m args below meth c s₁ B hml hv
  obtain ⟨rfl, hsz, hZT, hZ, hP, hK, hD0⟩ := hv
  have hx := B.exec
  have hb := B.bytes
  have hr := B.returns
  have hts := atoms_spec (ws := wsX5_lots) B.pre
  have hown : s.vm.findClass RX5 = some m.cls := findClass_of_methodNamed B.named
  have hlocks := B.notSynchronized
  subst hsz
  have hi6 : ∀ w ∈ u_ws RX5 TX5 7, w ∈ wsX5_lots := by decide +kernel
  have hD := hD0
  generalize hAe : gb_ro s.heap.size = A at hZ ⊢
  have hA : ∀ q : Nat, s.heap.size ≤ q → A q := fun q h => by rw [← hAe]; exact h
  have hS : va_S A s.heap s.heap [] := va_S.rf
  have hP : va_P (dC, dI) vwCl [(q 0, .inr (6, [.ref (q 1), .ref (q 2), .ref (q 3), .ref (q 4), .ref (q 5), .int dv, .int 0])), (q 1, .inr (0, [.int m4, .ref (q 6), .int 4])), (q 2, .inr (0, [.int 0, .ref tE, .int 0])), (q 3, .inr (0, [.int m3, .ref (q 7), .int 3])), (q 4, .inr (0, [.int 0, .ref tE, .int 0])), (q 5, .inr (1, [.int 0, .int (-1)])), (q 6, .inl (cO, 10, .inr (.inr (.inr (.inr (va_up (va_up (va_up (va_up (fun _ => none) (0 : Int32).toNatClampNeg (some (q 8))) (1 : Int32).toNatClampNeg (some (q 9))) (2 : Int32).toNatClampNeg (some (q 10))) (3 : Int32).toNatClampNeg (some (q 11)))))))), (q 7, .inl (cO2, 10, .inr (.inr (.inr (.inr (va_up (va_up (va_up (fun _ => none) (0 : Int32).toNatClampNeg (some (q 16))) (1 : Int32).toNatClampNeg (some (q 17))) (2 : Int32).toNatClampNeg (some (q 18)))))))), (q 8, .inr (2, [.int 0, .ref (q 12), .int 1])), (q 9, .inr (2, [.int 1, .ref (q 13), .int 0])), (q 10, .inr (2, [.int 2, .ref (q 14), .int 0])), (q 11, .inr (2, [.int 3, .ref (q 15), .int 0])), (q 12, .inr (1, [.int 0, .int (-1)])), (q 13, .inr (1, [.int 0, .int (-1)])), (q 14, .inr (1, [.int 0, .int (-1)])), (q 15, .inr (1, [.int 0, .int (-1)])), (q 16, .inr (5, [.int 2, .int 0, .int 0, .int 0])), (q 17, .inr (5, [.int 3, .int 0, .int 0, .int 0])), (q 18, .inr (5, [.int 4, .int 0, .int 0, .int 0]))] s.heap := hP
  have hl := lv_entry ([.ref (q 0)]) (n := 1) (Nat.le_of_ble_eq_true rfl)
  rw [lg_entry_eq]
  generalize (lg_sl ([.ref (q 0)]) ++ List.replicate (1 - (lg_sl ([.ref (q 0)])).length) Slot.unset).toArray = ls at hl ⊢
  have hl : lv_has ls 1 [(0, .ref (q 0))] := hl
  refine lv_aload_n hx hb dX5_lots_0 rfl (lv_at hl 0 rfl) ?_
  refine va_get (D := (dC, dI)) (ci := 6) (v := .ref (q 2)) (C := RX5) (T := TX5) (N := 7) hx hb hts hi6 hown hK hP 0 rfl rfl 1 (by decide) (hts (.fieldLink RX5 16 "GlacierBook" "allLots" "Ljava/util/ArrayList;") (by decide +kernel)) (fun _ h9 => h9) rfl dX5_lots_1 ?_
  have hPc := hP.sub (ws' := [(q 2, .inr (0, [.int 0, .ref tE, .int 0]))]) [2] rfl
  have hDc := hD.sub (ws' := [(q 2, .inr (0, [.int 0, .ref tE, .int 0]))]) [2] (by decide) rfl
  have hKc := hK.sub (tys' := []) [] rfl
  have hFc := gb_free hA hS
  refine va_calli (va_runV (As := []) (rest := []) ⟨hx, hb, hml, hown, hts⟩ (c_Jx4a65c_size_8abf5 l hl9 kS tE dC dI s.heap.size (q 2) (0 : Int32) tE (0 : Int32)) (cwV 0 hts gX5_lots_Jx4a65c_size_8abf5 rfl rfl rfl (by decide +kernel) ⟨Nat.le_of_ble_eq_true rfl, Nat.le_of_ble_eq_true rfl⟩) (gb_preV hZT hZ hS hFc hPc hDc hKc (va_recv hK hP (ci := 0) (q0 := 2) rfl rfl)) rfl rfl hl.1 rfl (lv_room (Nat.le_of_ble_eq_true rfl)) dX5_lots_4 ⟨Nat.le_of_ble_eq_true rfl, Nat.le_of_ble_eq_true rfl⟩) hS (fun q _ h => hFc q h) hFc (fun r_1 u t H locs ht hvm hw hB hz1 hk1 hS => ?_)
  have hP := gb_keep hP hk1
  subst hw
  refine W.widen (k := 0) (n := 0) (Nat.le_of_ble_eq_true rfl) (Nat.le_of_ble_eq_true rfl) ?_
  exact W.iret (v := 0) hx hb hr (fun t ht hW => ⟨⟨0, (), rfl, (lb_36), trivial⟩, hS.F ht⟩) hS.2.2 dX5_lots_7

theorem lb_37 : (0 : Int32) = 0 := by
  (try simp only [sp_hunger, sp_setCut, sp_setWarm, sp_setFrost, sp_setPeople, sp_stock, sp_changed, sp_fill, sp_pass, gb_okD, gb_okG, gb_okW, gb_days, gb_in, gb_lt, gb_le, gb_eq, gb_l0, gb_l1, gb_l2, gb_l3, gb_l4, gb_l5, gb_l10, gb_l19, gb_l20, gb_l40, gb_l60, gb_l1000, gb_l1500, gb_lm1, gb_l65536, true_and, and_true, false_and, and_false, true_or, or_true, false_or, or_false, not_true_eq_false, not_false_eq_true, ne_eq] at *) <;> omega
set_option maxHeartbeats 4000000 in
set_option maxRecDepth 100000 in
theorem c_X5_entries (l : Launch) (hl9 : l.stackTraces = false) (kS : Nat → Nat) (tE : Nat) (dC : Nat → ClassId) (dI : Nat → Nat → Nat) (sz : Nat) (q : Nat → Nat) (cO : ClassId) (cO2 : ClassId) (m4 : Int32) (m3 : Int32) (dv : Int32) : Met l yX5_entries wsX5_entries ({ frames := 1, cells := 0, slots := 0, locals := 20 }) (va_Pc [.ref (q 0)] (gb_Pw kS tE (gb_ro sz) (dC, dI) [(cO, .object "java/lang/Object"), (cO2, .object "java/lang/Object")] [(q 0, .inr (6, [.ref (q 1), .ref (q 2), .ref (q 3), .ref (q 4), .ref (q 5), .int dv, .int 0])), (q 1, .inr (0, [.int m4, .ref (q 6), .int 4])), (q 2, .inr (0, [.int 0, .ref tE, .int 0])), (q 3, .inr (0, [.int m3, .ref (q 7), .int 3])), (q 4, .inr (0, [.int 0, .ref tE, .int 0])), (q 5, .inr (1, [.int 0, .int (-1)])), (q 6, .inl (cO, 10, .inr (.inr (.inr (.inr (va_up (va_up (va_up (va_up (fun _ => none) (0 : Int32).toNatClampNeg (some (q 8))) (1 : Int32).toNatClampNeg (some (q 9))) (2 : Int32).toNatClampNeg (some (q 10))) (3 : Int32).toNatClampNeg (some (q 11)))))))), (q 7, .inl (cO2, 10, .inr (.inr (.inr (.inr (va_up (va_up (va_up (fun _ => none) (0 : Int32).toNatClampNeg (some (q 16))) (1 : Int32).toNatClampNeg (some (q 17))) (2 : Int32).toNatClampNeg (some (q 18)))))))), (q 8, .inr (2, [.int 0, .ref (q 12), .int 1])), (q 9, .inr (2, [.int 1, .ref (q 13), .int 0])), (q 10, .inr (2, [.int 2, .ref (q 14), .int 0])), (q 11, .inr (2, [.int 3, .ref (q 15), .int 0])), (q 12, .inr (1, [.int 0, .int (-1)])), (q 13, .inr (1, [.int 0, .int (-1)])), (q 14, .inr (1, [.int 0, .int (-1)])), (q 15, .inr (1, [.int 0, .int (-1)])), (q 16, .inr (5, [.int 2, .int 0, .int 0, .int 0])), (q 17, .inr (5, [.int 3, .int 0, .int 0, .int 0])), (q 18, .inr (5, [.int 4, .int 0, .int 0, .int 0]))] sz)) (va_Qi (fun (r : Int32) (_ : Unit) => r = 0) (fun _ _ => True) (gb_ro sz)) 0 0 (gb_ro sz) := by
  refine Met.ofW (cc := cX5_entries) (maxL := 1) (ret := (some .int)) (by decide) rfl ?_
  intro p e s m args below meth c s₁ B hml hv
  obtain ⟨rfl, hsz, hZT, hZ, hP, hK, hD0⟩ := hv
  have hx := B.exec
  have hb := B.bytes
  have hr := B.returns
  have hts := atoms_spec (ws := wsX5_entries) B.pre
  have hown : s.vm.findClass RX5 = some m.cls := findClass_of_methodNamed B.named
  have hlocks := B.notSynchronized
  subst hsz
  have hi6 : ∀ w ∈ u_ws RX5 TX5 7, w ∈ wsX5_entries := by decide +kernel
  have hD := hD0
  generalize hAe : gb_ro s.heap.size = A at hZ ⊢
  have hA : ∀ q : Nat, s.heap.size ≤ q → A q := fun q h => by rw [← hAe]; exact h
  have hS : va_S A s.heap s.heap [] := va_S.rf
  have hP : va_P (dC, dI) vwCl [(q 0, .inr (6, [.ref (q 1), .ref (q 2), .ref (q 3), .ref (q 4), .ref (q 5), .int dv, .int 0])), (q 1, .inr (0, [.int m4, .ref (q 6), .int 4])), (q 2, .inr (0, [.int 0, .ref tE, .int 0])), (q 3, .inr (0, [.int m3, .ref (q 7), .int 3])), (q 4, .inr (0, [.int 0, .ref tE, .int 0])), (q 5, .inr (1, [.int 0, .int (-1)])), (q 6, .inl (cO, 10, .inr (.inr (.inr (.inr (va_up (va_up (va_up (va_up (fun _ => none) (0 : Int32).toNatClampNeg (some (q 8))) (1 : Int32).toNatClampNeg (some (q 9))) (2 : Int32).toNatClampNeg (some (q 10))) (3 : Int32).toNatClampNeg (some (q 11)))))))), (q 7, .inl (cO2, 10, .inr (.inr (.inr (.inr (va_up (va_up (va_up (fun _ => none) (0 : Int32).toNatClampNeg (some (q 16))) (1 : Int32).toNatClampNeg (some (q 17))) (2 : Int32).toNatClampNeg (some (q 18)))))))), (q 8, .inr (2, [.int 0, .ref (q 12), .int 1])), (q 9, .inr (2, [.int 1, .ref (q 13), .int 0])), (q 10, .inr (2, [.int 2, .ref (q 14), .int 0])), (q 11, .inr (2, [.int 3, .ref (q 15), .int 0])), (q 12, .inr (1, [.int 0, .int (-1)])), (q 13, .inr (1, [.int 0, .int (-1)])), (q 14, .inr (1, [.int 0, .int (-1)])), (q 15, .inr (1, [.int 0, .int (-1)])), (q 16, .inr (5, [.int 2, .int 0, .int 0, .int 0])), (q 17, .inr (5, [.int 3, .int 0, .int 0, .int 0])), (q 18, .inr (5, [.int 4, .int 0, .int 0, .int 0]))] s.heap := hP
  have hl := lv_entry ([.ref (q 0)]) (n := 1) (Nat.le_of_ble_eq_true rfl)
  rw [lg_entry_eq]
  generalize (lg_sl ([.ref (q 0)]) ++ List.replicate (1 - (lg_sl ([.ref (q 0)])).length) Slot.unset).toArray = ls at hl ⊢
  have hl : lv_has ls 1 [(0, .ref (q 0))] := hl
  refine lv_aload_n hx hb dX5_entries_0 rfl (lv_at hl 0 rfl) ?_
  refine va_get (D := (dC, dI)) (ci := 6) (v := .ref (q 4)) (C := RX5) (T := TX5) (N := 7) hx hb hts hi6 hown hK hP 0 rfl rfl 3 (by decide) (hts (.fieldLink RX5 22 "GlacierBook" "journal" "Ljava/util/ArrayList;") (by decide +kernel)) (fun _ h9 => h9) rfl dX5_entries_1 ?_
  have hPc := hP.sub (ws' := [(q 4, .inr (0, [.int 0, .ref tE, .int 0]))]) [4] rfl
  have hDc := hD.sub (ws' := [(q 4, .inr (0, [.int 0, .ref tE, .int 0]))]) [4] (by decide) rfl
  have hKc := hK.sub (tys' := []) [] rfl
  have hFc := gb_free hA hS
  refine va_calli (va_runV (As := []) (rest := []) ⟨hx, hb, hml, hown, hts⟩ (c_Jx4a65c_size_8abf5 l hl9 kS tE dC dI s.heap.size (q 4) (0 : Int32) tE (0 : Int32)) (cwV 0 hts gX5_entries_Jx4a65c_size_8abf5 rfl rfl rfl (by decide +kernel) ⟨Nat.le_of_ble_eq_true rfl, Nat.le_of_ble_eq_true rfl⟩) (gb_preV hZT hZ hS hFc hPc hDc hKc (va_recv hK hP (ci := 0) (q0 := 4) rfl rfl)) rfl rfl hl.1 rfl (lv_room (Nat.le_of_ble_eq_true rfl)) dX5_entries_4 ⟨Nat.le_of_ble_eq_true rfl, Nat.le_of_ble_eq_true rfl⟩) hS (fun q _ h => hFc q h) hFc (fun r_1 u t H locs ht hvm hw hB hz1 hk1 hS => ?_)
  have hP := gb_keep hP hk1
  subst hw
  refine W.widen (k := 0) (n := 0) (Nat.le_of_ble_eq_true rfl) (Nat.le_of_ble_eq_true rfl) ?_
  exact W.iret (v := 0) hx hb hr (fun t ht hW => ⟨⟨0, (), rfl, (lb_37), trivial⟩, hS.F ht⟩) hS.2.2 dX5_entries_7

theorem lb_38 (dv : Int32) : dv = dv := by
  (try simp only [sp_hunger, sp_setCut, sp_setWarm, sp_setFrost, sp_setPeople, sp_stock, sp_changed, sp_fill, sp_pass, gb_okD, gb_okG, gb_okW, gb_days, gb_in, gb_lt, gb_le, gb_eq, gb_l0, gb_l1, gb_l2, gb_l3, gb_l4, gb_l5, gb_l10, gb_l19, gb_l20, gb_l40, gb_l60, gb_l1000, gb_l1500, gb_lm1, gb_l65536, true_and, and_true, false_and, and_false, true_or, or_true, false_or, or_false, not_true_eq_false, not_false_eq_true, ne_eq] at *) <;> omega
set_option maxHeartbeats 4000000 in
set_option maxRecDepth 100000 in
theorem c_X5_today (l : Launch) (hl9 : l.stackTraces = false) (kS : Nat → Nat) (tE : Nat) (dC : Nat → ClassId) (dI : Nat → Nat → Nat) (sz : Nat) (q : Nat → Nat) (cO : ClassId) (cO2 : ClassId) (m4 : Int32) (m3 : Int32) (dv : Int32) : Met l yX5_today wsX5_today ({ frames := 0, cells := 0, slots := 0, locals := 0 }) (va_Pc [.ref (q 0)] (gb_Pw kS tE (gb_ro sz) (dC, dI) [(cO, .object "java/lang/Object"), (cO2, .object "java/lang/Object")] [(q 0, .inr (6, [.ref (q 1), .ref (q 2), .ref (q 3), .ref (q 4), .ref (q 5), .int dv, .int 0])), (q 1, .inr (0, [.int m4, .ref (q 6), .int 4])), (q 2, .inr (0, [.int 0, .ref tE, .int 0])), (q 3, .inr (0, [.int m3, .ref (q 7), .int 3])), (q 4, .inr (0, [.int 0, .ref tE, .int 0])), (q 5, .inr (1, [.int 0, .int (-1)])), (q 6, .inl (cO, 10, .inr (.inr (.inr (.inr (va_up (va_up (va_up (va_up (fun _ => none) (0 : Int32).toNatClampNeg (some (q 8))) (1 : Int32).toNatClampNeg (some (q 9))) (2 : Int32).toNatClampNeg (some (q 10))) (3 : Int32).toNatClampNeg (some (q 11)))))))), (q 7, .inl (cO2, 10, .inr (.inr (.inr (.inr (va_up (va_up (va_up (fun _ => none) (0 : Int32).toNatClampNeg (some (q 16))) (1 : Int32).toNatClampNeg (some (q 17))) (2 : Int32).toNatClampNeg (some (q 18)))))))), (q 8, .inr (2, [.int 0, .ref (q 12), .int 1])), (q 9, .inr (2, [.int 1, .ref (q 13), .int 0])), (q 10, .inr (2, [.int 2, .ref (q 14), .int 0])), (q 11, .inr (2, [.int 3, .ref (q 15), .int 0])), (q 12, .inr (1, [.int 0, .int (-1)])), (q 13, .inr (1, [.int 0, .int (-1)])), (q 14, .inr (1, [.int 0, .int (-1)])), (q 15, .inr (1, [.int 0, .int (-1)])), (q 16, .inr (5, [.int 2, .int 0, .int 0, .int 0])), (q 17, .inr (5, [.int 3, .int 0, .int 0, .int 0])), (q 18, .inr (5, [.int 4, .int 0, .int 0, .int 0]))] sz)) (va_Qi (fun (r : Int32) (_ : Unit) => r = dv) (fun _ _ => True) (gb_ro sz)) 0 0 (gb_ro sz) := by
  refine Met.ofW (cc := cX5_today) (maxL := 1) (ret := (some .int)) (by decide) rfl ?_
  intro p e s m args below meth c s₁ B hml hv
  obtain ⟨rfl, hsz, hZT, hZ, hP, hK, hD0⟩ := hv
  have hx := B.exec
  have hb := B.bytes
  have hr := B.returns
  have hts := atoms_spec (ws := wsX5_today) B.pre
  have hown : s.vm.findClass RX5 = some m.cls := findClass_of_methodNamed B.named
  have hlocks := B.notSynchronized
  subst hsz
  have hi6 : ∀ w ∈ u_ws RX5 TX5 7, w ∈ wsX5_today := by decide +kernel
  have hD := hD0
  generalize hAe : gb_ro s.heap.size = A at hZ ⊢
  have hA : ∀ q : Nat, s.heap.size ≤ q → A q := fun q h => by rw [← hAe]; exact h
  have hS : va_S A s.heap s.heap [] := va_S.rf
  have hP : va_P (dC, dI) vwCl [(q 0, .inr (6, [.ref (q 1), .ref (q 2), .ref (q 3), .ref (q 4), .ref (q 5), .int dv, .int 0])), (q 1, .inr (0, [.int m4, .ref (q 6), .int 4])), (q 2, .inr (0, [.int 0, .ref tE, .int 0])), (q 3, .inr (0, [.int m3, .ref (q 7), .int 3])), (q 4, .inr (0, [.int 0, .ref tE, .int 0])), (q 5, .inr (1, [.int 0, .int (-1)])), (q 6, .inl (cO, 10, .inr (.inr (.inr (.inr (va_up (va_up (va_up (va_up (fun _ => none) (0 : Int32).toNatClampNeg (some (q 8))) (1 : Int32).toNatClampNeg (some (q 9))) (2 : Int32).toNatClampNeg (some (q 10))) (3 : Int32).toNatClampNeg (some (q 11)))))))), (q 7, .inl (cO2, 10, .inr (.inr (.inr (.inr (va_up (va_up (va_up (fun _ => none) (0 : Int32).toNatClampNeg (some (q 16))) (1 : Int32).toNatClampNeg (some (q 17))) (2 : Int32).toNatClampNeg (some (q 18)))))))), (q 8, .inr (2, [.int 0, .ref (q 12), .int 1])), (q 9, .inr (2, [.int 1, .ref (q 13), .int 0])), (q 10, .inr (2, [.int 2, .ref (q 14), .int 0])), (q 11, .inr (2, [.int 3, .ref (q 15), .int 0])), (q 12, .inr (1, [.int 0, .int (-1)])), (q 13, .inr (1, [.int 0, .int (-1)])), (q 14, .inr (1, [.int 0, .int (-1)])), (q 15, .inr (1, [.int 0, .int (-1)])), (q 16, .inr (5, [.int 2, .int 0, .int 0, .int 0])), (q 17, .inr (5, [.int 3, .int 0, .int 0, .int 0])), (q 18, .inr (5, [.int 4, .int 0, .int 0, .int 0]))] s.heap := hP
  have hl := lv_entry ([.ref (q 0)]) (n := 1) (Nat.le_of_ble_eq_true rfl)
  rw [lg_entry_eq]
  generalize (lg_sl ([.ref (q 0)]) ++ List.replicate (1 - (lg_sl ([.ref (q 0)])).length) Slot.unset).toArray = ls at hl ⊢
  have hl : lv_has ls 1 [(0, .ref (q 0))] := hl
  refine lv_aload_n hx hb dX5_today_0 rfl (lv_at hl 0 rfl) ?_
  refine va_get (D := (dC, dI)) (ci := 6) (v := .int dv) (C := RX5) (T := TX5) (N := 7) hx hb hts hi6 hown hK hP 0 rfl rfl 5 (by decide) (hts (.fieldLink RX5 32 "GlacierBook" "day" "I") (by decide +kernel)) (fun _ h9 => h9) rfl dX5_today_1 ?_
  refine W.widen (k := 0) (n := 0) (Nat.le_of_ble_eq_true rfl) (Nat.le_of_ble_eq_true rfl) ?_
  exact W.iret (v := dv) hx hb hr (fun t ht hW => ⟨⟨dv, (), rfl, (lb_38 dv), trivial⟩, hS.F ht⟩) hS.2.2 dX5_today_4

theorem lb_39 (p0 : Int32) (hq0 : p0 < 0 ∨ ¬ p0 < 3) : sp_hunger p0 1 0 := by
  (try simp only [sp_hunger, sp_setCut, sp_setWarm, sp_setFrost, sp_setPeople, sp_stock, sp_changed, sp_fill, sp_pass, gb_okD, gb_okG, gb_okW, gb_days, gb_in, gb_lt, gb_le, gb_eq, gb_l0, gb_l1, gb_l2, gb_l3, gb_l4, gb_l5, gb_l10, gb_l19, gb_l20, gb_l40, gb_l60, gb_l1000, gb_l1500, gb_lm1, gb_l65536, true_and, and_true, false_and, and_false, true_or, or_true, false_or, or_false, not_true_eq_false, not_false_eq_true, ne_eq] at *) <;> omega
theorem lb_40 (p0 : Int32) (w_2 : ¬ p0 < 0 ∧ p0 < 3) : ¬ p0 < 0 ∧ p0 < 3 := by
  (try simp only [sp_hunger, sp_setCut, sp_setWarm, sp_setFrost, sp_setPeople, sp_stock, sp_changed, sp_fill, sp_pass, gb_okD, gb_okG, gb_okW, gb_days, gb_in, gb_lt, gb_le, gb_eq, gb_l0, gb_l1, gb_l2, gb_l3, gb_l4, gb_l5, gb_l10, gb_l19, gb_l20, gb_l40, gb_l60, gb_l1000, gb_l1500, gb_lm1, gb_l65536, true_and, and_true, false_and, and_false, true_or, or_true, false_or, or_false, not_true_eq_false, not_false_eq_true, ne_eq] at *) <;> omega
theorem lb_41 (p0 : Int32) (w_2 : ¬ p0 < 0 ∧ p0 < 3) : ¬ p0 < 0 := by
  (try simp only [sp_hunger, sp_setCut, sp_setWarm, sp_setFrost, sp_setPeople, sp_stock, sp_changed, sp_fill, sp_pass, gb_okD, gb_okG, gb_okW, gb_days, gb_in, gb_lt, gb_le, gb_eq, gb_l0, gb_l1, gb_l2, gb_l3, gb_l4, gb_l5, gb_l10, gb_l19, gb_l20, gb_l40, gb_l60, gb_l1000, gb_l1500, gb_lm1, gb_l65536, true_and, and_true, false_and, and_false, true_or, or_true, false_or, or_false, not_true_eq_false, not_false_eq_true, ne_eq] at *) <;> omega
theorem lb_42 (p0 : Int32) (w_2 : ¬ p0 < 0 ∧ p0 < 3) : p0 < (3 : Int32) := by
  (try simp only [sp_hunger, sp_setCut, sp_setWarm, sp_setFrost, sp_setPeople, sp_stock, sp_changed, sp_fill, sp_pass, gb_okD, gb_okG, gb_okW, gb_days, gb_in, gb_lt, gb_le, gb_eq, gb_l0, gb_l1, gb_l2, gb_l3, gb_l4, gb_l5, gb_l10, gb_l19, gb_l20, gb_l40, gb_l60, gb_l1000, gb_l1500, gb_lm1, gb_l65536, true_and, and_true, false_and, and_false, true_or, or_true, false_or, or_false, not_true_eq_false, not_false_eq_true, ne_eq] at *) <;> omega
theorem lb_43 (p0 : Int32) (w_2 : ¬ p0 < 0 ∧ p0 < 3) : sp_hunger p0 0 (0 : Int32) := by
  (try simp only [sp_hunger, sp_setCut, sp_setWarm, sp_setFrost, sp_setPeople, sp_stock, sp_changed, sp_fill, sp_pass, gb_okD, gb_okG, gb_okW, gb_days, gb_in, gb_lt, gb_le, gb_eq, gb_l0, gb_l1, gb_l2, gb_l3, gb_l4, gb_l5, gb_l10, gb_l19, gb_l20, gb_l40, gb_l60, gb_l1000, gb_l1500, gb_lm1, gb_l65536, true_and, and_true, false_and, and_false, true_or, or_true, false_or, or_false, not_true_eq_false, not_false_eq_true, ne_eq] at *) <;> omega
set_option maxHeartbeats 4000000 in
set_option maxRecDepth 100000 in
theorem c_X5_hunger (l : Launch) (hl9 : l.stackTraces = false) (kS : Nat → Nat) (tE : Nat) (dC : Nat → ClassId) (dI : Nat → Nat → Nat) (sz : Nat) (q : Nat → Nat) (cO : ClassId) (cO2 : ClassId) (m4 : Int32) (m3 : Int32) (dv : Int32) (p0 : Int32) : vx_Met l yX5_hunger wsX5_hunger ({ frames := 8, cells := 1, slots := 6, locals := 124 }) (va_Pc [.ref (q 0), .int p0] (gb_Pw kS tE (gb_ro sz) (dC, dI) [(cO, .object "java/lang/Object"), (cO2, .object "java/lang/Object")] [(q 0, .inr (6, [.ref (q 1), .ref (q 2), .ref (q 3), .ref (q 4), .ref (q 5), .int dv, .int 0])), (q 1, .inr (0, [.int m4, .ref (q 6), .int 4])), (q 2, .inr (0, [.int 0, .ref tE, .int 0])), (q 3, .inr (0, [.int m3, .ref (q 7), .int 3])), (q 4, .inr (0, [.int 0, .ref tE, .int 0])), (q 5, .inr (1, [.int 0, .int (-1)])), (q 6, .inl (cO, 10, .inr (.inr (.inr (.inr (va_up (va_up (va_up (va_up (fun _ => none) (0 : Int32).toNatClampNeg (some (q 8))) (1 : Int32).toNatClampNeg (some (q 9))) (2 : Int32).toNatClampNeg (some (q 10))) (3 : Int32).toNatClampNeg (some (q 11)))))))), (q 7, .inl (cO2, 10, .inr (.inr (.inr (.inr (va_up (va_up (va_up (fun _ => none) (0 : Int32).toNatClampNeg (some (q 16))) (1 : Int32).toNatClampNeg (some (q 17))) (2 : Int32).toNatClampNeg (some (q 18)))))))), (q 8, .inr (2, [.int 0, .ref (q 12), .int 1])), (q 9, .inr (2, [.int 1, .ref (q 13), .int 0])), (q 10, .inr (2, [.int 2, .ref (q 14), .int 0])), (q 11, .inr (2, [.int 3, .ref (q 15), .int 0])), (q 12, .inr (1, [.int 0, .int (-1)])), (q 13, .inr (1, [.int 0, .int (-1)])), (q 14, .inr (1, [.int 0, .int (-1)])), (q 15, .inr (1, [.int 0, .int (-1)])), (q 16, .inr (5, [.int 2, .int 0, .int 0, .int 0])), (q 17, .inr (5, [.int 3, .int 0, .int 0, .int 0])), (q 18, .inr (5, [.int 4, .int 0, .int 0, .int 0]))] sz)) (va_Qi (fun (r : Int32) (_ : Unit) => sp_hunger p0 0 r) (fun _ _ => True) (gb_ro sz)) (vx_X (fun _ : Unit => True) (fun E _ _ => (E = "java/lang/IndexOutOfBoundsException" ∧ (sp_hunger p0 1 0))) (gb_ro sz)) 1 6 (gb_ro sz) := by
  refine vx_ofW (cc := cX5_hunger) (maxL := 2) (ret := (some .int)) (by decide) rfl ?_
  intro p e s m args below meth c s₁ B hml hno hv
  obtain ⟨rfl, hsz, hZT, hZ, hP, hK, hD0⟩ := hv
  have hx := B.exec
  have hb := B.bytes
  have hr := B.returns
  have hts := atoms_spec (ws := wsX5_hunger) B.pre
  have hown : s.vm.findClass RX5 = some m.cls := findClass_of_methodNamed B.named
  have hlocks := B.notSynchronized
  subst hsz
  have hi5 : ∀ w ∈ u_ws RX4 TX4 4, w ∈ wsX5_hunger := by decide +kernel
  have hi6 : ∀ w ∈ u_ws RX5 TX5 7, w ∈ wsX5_hunger := by decide +kernel
  have hD := hD0
  generalize hAe : gb_ro s.heap.size = A at hZ ⊢
  have hA : ∀ q : Nat, s.heap.size ≤ q → A q := fun q h => by rw [← hAe]; exact h
  have hS : va_S A s.heap s.heap [] := va_S.rf
  have hP : va_P (dC, dI) vwCl [(q 0, .inr (6, [.ref (q 1), .ref (q 2), .ref (q 3), .ref (q 4), .ref (q 5), .int dv, .int 0])), (q 1, .inr (0, [.int m4, .ref (q 6), .int 4])), (q 2, .inr (0, [.int 0, .ref tE, .int 0])), (q 3, .inr (0, [.int m3, .ref (q 7), .int 3])), (q 4, .inr (0, [.int 0, .ref tE, .int 0])), (q 5, .inr (1, [.int 0, .int (-1)])), (q 6, .inl (cO, 10, .inr (.inr (.inr (.inr (va_up (va_up (va_up (va_up (fun _ => none) (0 : Int32).toNatClampNeg (some (q 8))) (1 : Int32).toNatClampNeg (some (q 9))) (2 : Int32).toNatClampNeg (some (q 10))) (3 : Int32).toNatClampNeg (some (q 11)))))))), (q 7, .inl (cO2, 10, .inr (.inr (.inr (.inr (va_up (va_up (va_up (fun _ => none) (0 : Int32).toNatClampNeg (some (q 16))) (1 : Int32).toNatClampNeg (some (q 17))) (2 : Int32).toNatClampNeg (some (q 18)))))))), (q 8, .inr (2, [.int 0, .ref (q 12), .int 1])), (q 9, .inr (2, [.int 1, .ref (q 13), .int 0])), (q 10, .inr (2, [.int 2, .ref (q 14), .int 0])), (q 11, .inr (2, [.int 3, .ref (q 15), .int 0])), (q 12, .inr (1, [.int 0, .int (-1)])), (q 13, .inr (1, [.int 0, .int (-1)])), (q 14, .inr (1, [.int 0, .int (-1)])), (q 15, .inr (1, [.int 0, .int (-1)])), (q 16, .inr (5, [.int 2, .int 0, .int 0, .int 0])), (q 17, .inr (5, [.int 3, .int 0, .int 0, .int 0])), (q 18, .inr (5, [.int 4, .int 0, .int 0, .int 0]))] s.heap := hP
  have hl := lv_entry ([.ref (q 0), .int p0]) (n := 2) (Nat.le_of_ble_eq_true rfl)
  rw [lg_entry_eq]
  generalize (lg_sl ([.ref (q 0), .int p0]) ++ List.replicate (2 - (lg_sl ([.ref (q 0), .int p0])).length) Slot.unset).toArray = ls at hl ⊢
  have hl : lv_has ls 2 [(0, .ref (q 0)), (1, .int p0)] := hl
  refine lv_aload_n hx hb dX5_hunger_0 rfl (lv_at hl 0 rfl) ?_
  refine lv_iload_n hx hb dX5_hunger_1 rfl (lv_at hl 1 rfl) ?_
  have hFc := gb_free hA hS
  refine vx_callv (vx_runV (As := [.int p0]) (rest := []) ⟨hx, hb, hml, hown, hts⟩ (c_X5_requireWork l hl9 kS tE dC dI s.heap.size q cO cO2 m4 m3 dv p0) (cwV 1 hts gX5_hunger_X5_requireWork rfl rfl rfl (by decide +kernel) ⟨Nat.le_of_ble_eq_true rfl, Nat.le_of_ble_eq_true rfl⟩) (gb_preV hZT hZ hS hFc hP hD hK (va_recv hK hP (ci := 6) (q0 := 0) rfl rfl)) rfl rfl hl.1 rfl (lv_room (Nat.le_of_ble_eq_true rfl)) dX5_hunger_2 ⟨Nat.le_of_ble_eq_true rfl, Nat.le_of_ble_eq_true rfl⟩) hS (fun q _ h => hFc q h) hFc (fun q _ h => hFc q h) (fun E9 ce q9 u t H locs ht hvm hw hB hz1 hk1 hS hce hcv hcl => ?_) (fun u t H locs ht hvm hw hB hz1 hk1 hS => ?_)
  · obtain ⟨rfl, hq0⟩ := hB
    exact vx_out (fun x h9 => (hno x h9).elim) hlocks hce hcv hcl (fun t ht ha => ⟨(), trivial, ⟨rfl, (lb_39 p0 hq0)⟩, hS.F ht⟩) hS.2.2 (Nat.le_of_ble_eq_true rfl) (Nat.le_of_ble_eq_true rfl)
  · have w_2 := hw
    have hP := gb_keep hP hk1
    refine lv_aload_n hx hb dX5_hunger_5 rfl (lv_at hl 0 rfl) ?_
    refine va_get (D := (dC, dI)) (ci := 6) (v := .ref (q 3)) (C := RX5) (T := TX5) (N := 7) hx hb hts hi6 hown hK hP 0 rfl rfl 2 (by decide) (hts (.fieldLink RX5 19 "GlacierBook" "workers" "Ljava/util/ArrayList;") (by decide +kernel)) (fun _ h9 => h9) rfl dX5_hunger_6 ?_
    refine lv_iload_n hx hb dX5_hunger_9 rfl (lv_at hl 1 rfl) ?_
    obtain ⟨dd, un, hfd, hvi, hPs, hDs⟩ := gb_worker (D := (dC, dI)) (q := q) (cO := cO) (cO2 := cO2) (tE := tE) (m4 := m4) (m3 := m3) (dv := dv) p0 (lb_40 p0 w_2)
    have hPc := hP.sub (ws' := [(q 3, .inr (0, [.int m3, .ref (q 7), .int 3])), (q 7, .inl (cO2, 10, .inr (.inr (.inr (.inr (va_up (va_up (va_up (fun _ => none) (0 : Int32).toNatClampNeg (some (q 16))) (1 : Int32).toNatClampNeg (some (q 17))) (2 : Int32).toNatClampNeg (some (q 18))))))))]) [3, 7] rfl
    have hDc := hD.sub (ws' := [(q 3, .inr (0, [.int m3, .ref (q 7), .int 3])), (q 7, .inl (cO2, 10, .inr (.inr (.inr (.inr (va_up (va_up (va_up (fun _ => none) (0 : Int32).toNatClampNeg (some (q 16))) (1 : Int32).toNatClampNeg (some (q 17))) (2 : Int32).toNatClampNeg (some (q 18))))))))]) [3, 7] (by decide) rfl
    have hKc := hK.sub (tys' := [(cO2, .object "java/lang/Object")]) [1] rfl
    have hFc := gb_free hA hS
    refine va_callr (va_runV (As := [.int p0]) (rest := []) ⟨hx, hb, hml, hown, hts⟩ (c_Jx4a65c_get_915e3 l hl9 kS tE dC dI H.size (q 3) m3 (q 7) (3 : Int32) cO2 (va_up (va_up (va_up (fun _ => none) (0 : Int32).toNatClampNeg (some (q 16))) (1 : Int32).toNatClampNeg (some (q 17))) (2 : Int32).toNatClampNeg (some (q 18))) p0 dd (lb_41 p0 w_2) (lb_42 p0 w_2) hvi hfd) (cwV 1 hts gX5_hunger_Jx4a65c_get_915e3 rfl rfl rfl (by decide +kernel) ⟨Nat.le_of_ble_eq_true rfl, Nat.le_of_ble_eq_true rfl⟩) (gb_preV hZT hZ hS hFc hPc hDc hKc (va_recv hK hP (ci := 0) (q0 := 3) rfl rfl)) rfl rfl hl.1 rfl (lv_room (Nat.le_of_ble_eq_true rfl)) dX5_hunger_10 ⟨Nat.le_of_ble_eq_true rfl, Nat.le_of_ble_eq_true rfl⟩) hS (fun q _ h => hFc q h) hFc (fun u ra t H locs ht hvm hw hB hz1 hk1 hS => ?_)
    have hB : ra = dd := hB
    rw [hB]
    have hP := gb_keep hP hk1
    have hP := hPs _ hP
    have hD := hDs _ hD
    refine va_castS (nm := RX4) hx hb hown (hts (.classLink RX5 48 "GlacierBook$Workers") (by decide +kernel)) (hK.1 5 _ rfl).2 (va_recv hK hP (ci := 5) (q0 := 1) rfl rfl) dX5_hunger_13 ?_
    refine va_get (D := (dC, dI)) (ci := 5) (v := .int 0) (C := RX4) (T := TX4) (N := 4) hx hb hts hi5 hown hK hP 1 rfl rfl 3 (by decide) (hts (.fieldLink RX5 156 "GlacierBook$Workers" "missed" "I") (by decide +kernel)) (fun _ h9 => h9) rfl dX5_hunger_16 ?_
    refine vx_ret ?_
    refine W.widen (k := 1) (n := 6) (Nat.le_of_ble_eq_true rfl) (Nat.le_of_ble_eq_true rfl) ?_
    exact W.iret (v := 0) hx hb hr (fun t ht hW => ⟨⟨0, (), rfl, (lb_43 p0 w_2), trivial⟩, hS.F ht⟩) hS.2.2 dX5_hunger_19

theorem lb_44 (p0 : Int32) (p1 : Int32) (p2 : Int32) (hq0 : p0 < 0 ∨ ¬ p0 < 4) : sp_setCut p0 p1 p2 1 0 := by
  (try simp only [sp_hunger, sp_setCut, sp_setWarm, sp_setFrost, sp_setPeople, sp_stock, sp_changed, sp_fill, sp_pass, gb_okD, gb_okG, gb_okW, gb_days, gb_in, gb_lt, gb_le, gb_eq, gb_l0, gb_l1, gb_l2, gb_l3, gb_l4, gb_l5, gb_l10, gb_l19, gb_l20, gb_l40, gb_l60, gb_l1000, gb_l1500, gb_lm1, gb_l65536, true_and, and_true, false_and, and_false, true_or, or_true, false_or, or_false, not_true_eq_false, not_false_eq_true, ne_eq] at *) <;> omega
theorem lb_45 (p0 : Int32) (p1 : Int32) (p2 : Int32) (w_2 : ¬ p0 < 0 ∧ p0 < 4) (hq0 : ¬ gb_days p1 p2) : sp_setCut p0 p1 p2 2 0 := by
  (try simp only [sp_hunger, sp_setCut, sp_setWarm, sp_setFrost, sp_setPeople, sp_stock, sp_changed, sp_fill, sp_pass, gb_okD, gb_okG, gb_okW, gb_days, gb_in, gb_lt, gb_le, gb_eq, gb_l0, gb_l1, gb_l2, gb_l3, gb_l4, gb_l5, gb_l10, gb_l19, gb_l20, gb_l40, gb_l60, gb_l1000, gb_l1500, gb_lm1, gb_l65536, true_and, and_true, false_and, and_false, true_or, or_true, false_or, or_false, not_true_eq_false, not_false_eq_true, ne_eq] at *) <;> omega
theorem lb_46 (p0 : Int32) (p1 : Int32) (p2 : Int32) (w_2 : ¬ p0 < 0 ∧ p0 < 4) (w_4 : gb_days p1 p2) : ¬ p0 < 0 ∧ p0 < 4 := by
  (try simp only [sp_hunger, sp_setCut, sp_setWarm, sp_setFrost, sp_setPeople, sp_stock, sp_changed, sp_fill, sp_pass, gb_okD, gb_okG, gb_okW, gb_days, gb_in, gb_lt, gb_le, gb_eq, gb_l0, gb_l1, gb_l2, gb_l3, gb_l4, gb_l5, gb_l10, gb_l19, gb_l20, gb_l40, gb_l60, gb_l1000, gb_l1500, gb_lm1, gb_l65536, true_and, and_true, false_and, and_false, true_or, or_true, false_or, or_false, not_true_eq_false, not_false_eq_true, ne_eq] at *) <;> omega
theorem lb_47 (p0 : Int32) (p1 : Int32) (p2 : Int32) (ww : Int32) (w_2 : ¬ p0 < 0 ∧ p0 < 4) (w_4 : gb_days p1 p2) (hww : (p0 = 0 ∧ ww = 1) ∨ (¬ p0 = 0 ∧ ww = 0)) : ¬ p0 < 0 := by
  (try simp only [sp_hunger, sp_setCut, sp_setWarm, sp_setFrost, sp_setPeople, sp_stock, sp_changed, sp_fill, sp_pass, gb_okD, gb_okG, gb_okW, gb_days, gb_in, gb_lt, gb_le, gb_eq, gb_l0, gb_l1, gb_l2, gb_l3, gb_l4, gb_l5, gb_l10, gb_l19, gb_l20, gb_l40, gb_l60, gb_l1000, gb_l1500, gb_lm1, gb_l65536, true_and, and_true, false_and, and_false, true_or, or_true, false_or, or_false, not_true_eq_false, not_false_eq_true, ne_eq] at *) <;> omega
theorem lb_48 (p0 : Int32) (p1 : Int32) (p2 : Int32) (ww : Int32) (w_2 : ¬ p0 < 0 ∧ p0 < 4) (w_4 : gb_days p1 p2) (hww : (p0 = 0 ∧ ww = 1) ∨ (¬ p0 = 0 ∧ ww = 0)) : p0 < (4 : Int32) := by
  (try simp only [sp_hunger, sp_setCut, sp_setWarm, sp_setFrost, sp_setPeople, sp_stock, sp_changed, sp_fill, sp_pass, gb_okD, gb_okG, gb_okW, gb_days, gb_in, gb_lt, gb_le, gb_eq, gb_l0, gb_l1, gb_l2, gb_l3, gb_l4, gb_l5, gb_l10, gb_l19, gb_l20, gb_l40, gb_l60, gb_l1000, gb_l1500, gb_lm1, gb_l65536, true_and, and_true, false_and, and_false, true_or, or_true, false_or, or_false, not_true_eq_false, not_false_eq_true, ne_eq] at *) <;> omega
theorem lb_49 (p0 : Int32) (p1 : Int32) (p2 : Int32) (ww : Int32) (r_7 : Int32) (w_2 : ¬ p0 < 0 ∧ p0 < 4) (w_4 : gb_days p1 p2) (hww : (p0 = 0 ∧ ww = 1) ∨ (¬ p0 = 0 ∧ ww = 0)) (w_8 : (r_7 = 1 ∧ p1 ≤ (0 : Int32) ∧ (0 : Int32) ≤ p2) ∨ (r_7 = 0 ∧ ¬ (p1 ≤ (0 : Int32) ∧ (0 : Int32) ≤ p2))) : sp_setCut p0 p1 p2 0 r_7 := by
  (try simp only [sp_hunger, sp_setCut, sp_setWarm, sp_setFrost, sp_setPeople, sp_stock, sp_changed, sp_fill, sp_pass, gb_okD, gb_okG, gb_okW, gb_days, gb_in, gb_lt, gb_le, gb_eq, gb_l0, gb_l1, gb_l2, gb_l3, gb_l4, gb_l5, gb_l10, gb_l19, gb_l20, gb_l40, gb_l60, gb_l1000, gb_l1500, gb_lm1, gb_l65536, true_and, and_true, false_and, and_false, true_or, or_true, false_or, or_false, not_true_eq_false, not_false_eq_true, ne_eq] at *) <;> omega
theorem lb_50 (p0 : Int32) (p1 : Int32) (p2 : Int32) (ww : Int32) (r_7 : Int32) (w_2 : ¬ p0 < 0 ∧ p0 < 4) (w_4 : gb_days p1 p2) (hww : (p0 = 0 ∧ ww = 1) ∨ (¬ p0 = 0 ∧ ww = 0)) (w_8 : (r_7 = 1 ∧ p1 ≤ (0 : Int32) ∧ (0 : Int32) ≤ p2) ∨ (r_7 = 0 ∧ ¬ (p1 ≤ (0 : Int32) ∧ (0 : Int32) ≤ p2))) : r_7 = 0 ∨ r_7 = 1 := by
  (try simp only [sp_hunger, sp_setCut, sp_setWarm, sp_setFrost, sp_setPeople, sp_stock, sp_changed, sp_fill, sp_pass, gb_okD, gb_okG, gb_okW, gb_days, gb_in, gb_lt, gb_le, gb_eq, gb_l0, gb_l1, gb_l2, gb_l3, gb_l4, gb_l5, gb_l10, gb_l19, gb_l20, gb_l40, gb_l60, gb_l1000, gb_l1500, gb_lm1, gb_l65536, true_and, and_true, false_and, and_false, true_or, or_true, false_or, or_false, not_true_eq_false, not_false_eq_true, ne_eq] at *) <;> omega
set_option maxHeartbeats 4000000 in
set_option maxRecDepth 100000 in
theorem c_X5_setCut (l : Launch) (hl9 : l.stackTraces = false) (kS : Nat → Nat) (tE : Nat) (dC : Nat → ClassId) (dI : Nat → Nat → Nat) (sz : Nat) (q : Nat → Nat) (cO : ClassId) (cO2 : ClassId) (m4 : Int32) (m3 : Int32) (p0 : Int32) (p1 : Int32) (p2 : Int32) : vx_Met l yX5_setCut wsX5_setCut ({ frames := 8, cells := 3, slots := 18, locals := 125 }) (va_Pc [.ref (q 0), .int p0, .int p1, .int p2] (gb_Pw kS tE (va_A [(q 0, .inr (6, [.ref (q 1), .ref (q 2), .ref (q 3), .ref (q 4), .ref (q 5), .int 0, .int 0])), (q 1, .inr (0, [.int m4, .ref (q 6), .int 4])), (q 2, .inr (0, [.int 0, .ref tE, .int 0])), (q 3, .inr (0, [.int m3, .ref (q 7), .int 3])), (q 4, .inr (0, [.int 0, .ref tE, .int 0])), (q 5, .inr (1, [.int 0, .int (-1)])), (q 6, .inl (cO, 10, .inr (.inr (.inr (.inr (va_up (va_up (va_up (va_up (fun _ => none) (0 : Int32).toNatClampNeg (some (q 8))) (1 : Int32).toNatClampNeg (some (q 9))) (2 : Int32).toNatClampNeg (some (q 10))) (3 : Int32).toNatClampNeg (some (q 11)))))))), (q 7, .inl (cO2, 10, .inr (.inr (.inr (.inr (va_up (va_up (va_up (fun _ => none) (0 : Int32).toNatClampNeg (some (q 16))) (1 : Int32).toNatClampNeg (some (q 17))) (2 : Int32).toNatClampNeg (some (q 18)))))))), (q 8, .inr (2, [.int 0, .ref (q 12), .int 1])), (q 9, .inr (2, [.int 1, .ref (q 13), .int 0])), (q 10, .inr (2, [.int 2, .ref (q 14), .int 0])), (q 11, .inr (2, [.int 3, .ref (q 15), .int 0])), (q 12, .inr (1, [.int 0, .int (-1)])), (q 13, .inr (1, [.int 0, .int (-1)])), (q 14, .inr (1, [.int 0, .int (-1)])), (q 15, .inr (1, [.int 0, .int (-1)])), (q 16, .inr (5, [.int 2, .int 0, .int 0, .int 0])), (q 17, .inr (5, [.int 3, .int 0, .int 0, .int 0])), (q 18, .inr (5, [.int 4, .int 0, .int 0, .int 0]))] sz) (dC, dI) [(cO, .object "java/lang/Object"), (cO2, .object "java/lang/Object")] [(q 0, .inr (6, [.ref (q 1), .ref (q 2), .ref (q 3), .ref (q 4), .ref (q 5), .int 0, .int 0])), (q 1, .inr (0, [.int m4, .ref (q 6), .int 4])), (q 2, .inr (0, [.int 0, .ref tE, .int 0])), (q 3, .inr (0, [.int m3, .ref (q 7), .int 3])), (q 4, .inr (0, [.int 0, .ref tE, .int 0])), (q 5, .inr (1, [.int 0, .int (-1)])), (q 6, .inl (cO, 10, .inr (.inr (.inr (.inr (va_up (va_up (va_up (va_up (fun _ => none) (0 : Int32).toNatClampNeg (some (q 8))) (1 : Int32).toNatClampNeg (some (q 9))) (2 : Int32).toNatClampNeg (some (q 10))) (3 : Int32).toNatClampNeg (some (q 11)))))))), (q 7, .inl (cO2, 10, .inr (.inr (.inr (.inr (va_up (va_up (va_up (fun _ => none) (0 : Int32).toNatClampNeg (some (q 16))) (1 : Int32).toNatClampNeg (some (q 17))) (2 : Int32).toNatClampNeg (some (q 18)))))))), (q 8, .inr (2, [.int 0, .ref (q 12), .int 1])), (q 9, .inr (2, [.int 1, .ref (q 13), .int 0])), (q 10, .inr (2, [.int 2, .ref (q 14), .int 0])), (q 11, .inr (2, [.int 3, .ref (q 15), .int 0])), (q 12, .inr (1, [.int 0, .int (-1)])), (q 13, .inr (1, [.int 0, .int (-1)])), (q 14, .inr (1, [.int 0, .int (-1)])), (q 15, .inr (1, [.int 0, .int (-1)])), (q 16, .inr (5, [.int 2, .int 0, .int 0, .int 0])), (q 17, .inr (5, [.int 3, .int 0, .int 0, .int 0])), (q 18, .inr (5, [.int 4, .int 0, .int 0, .int 0]))] sz)) (va_Qi (fun (r : Int32) (_ : Unit) => sp_setCut p0 p1 p2 0 r) (fun _ _ => True) (va_A [(q 0, .inr (6, [.ref (q 1), .ref (q 2), .ref (q 3), .ref (q 4), .ref (q 5), .int 0, .int 0])), (q 1, .inr (0, [.int m4, .ref (q 6), .int 4])), (q 2, .inr (0, [.int 0, .ref tE, .int 0])), (q 3, .inr (0, [.int m3, .ref (q 7), .int 3])), (q 4, .inr (0, [.int 0, .ref tE, .int 0])), (q 5, .inr (1, [.int 0, .int (-1)])), (q 6, .inl (cO, 10, .inr (.inr (.inr (.inr (va_up (va_up (va_up (va_up (fun _ => none) (0 : Int32).toNatClampNeg (some (q 8))) (1 : Int32).toNatClampNeg (some (q 9))) (2 : Int32).toNatClampNeg (some (q 10))) (3 : Int32).toNatClampNeg (some (q 11)))))))), (q 7, .inl (cO2, 10, .inr (.inr (.inr (.inr (va_up (va_up (va_up (fun _ => none) (0 : Int32).toNatClampNeg (some (q 16))) (1 : Int32).toNatClampNeg (some (q 17))) (2 : Int32).toNatClampNeg (some (q 18)))))))), (q 8, .inr (2, [.int 0, .ref (q 12), .int 1])), (q 9, .inr (2, [.int 1, .ref (q 13), .int 0])), (q 10, .inr (2, [.int 2, .ref (q 14), .int 0])), (q 11, .inr (2, [.int 3, .ref (q 15), .int 0])), (q 12, .inr (1, [.int 0, .int (-1)])), (q 13, .inr (1, [.int 0, .int (-1)])), (q 14, .inr (1, [.int 0, .int (-1)])), (q 15, .inr (1, [.int 0, .int (-1)])), (q 16, .inr (5, [.int 2, .int 0, .int 0, .int 0])), (q 17, .inr (5, [.int 3, .int 0, .int 0, .int 0])), (q 18, .inr (5, [.int 4, .int 0, .int 0, .int 0]))] sz)) (vx_X (fun _ : Unit => True) (fun E _ _ => (E = "java/lang/IndexOutOfBoundsException" ∧ (sp_setCut p0 p1 p2 1 0)) ∨ (E = "java/lang/IllegalArgumentException" ∧ (sp_setCut p0 p1 p2 2 0))) (va_A [(q 0, .inr (6, [.ref (q 1), .ref (q 2), .ref (q 3), .ref (q 4), .ref (q 5), .int 0, .int 0])), (q 1, .inr (0, [.int m4, .ref (q 6), .int 4])), (q 2, .inr (0, [.int 0, .ref tE, .int 0])), (q 3, .inr (0, [.int m3, .ref (q 7), .int 3])), (q 4, .inr (0, [.int 0, .ref tE, .int 0])), (q 5, .inr (1, [.int 0, .int (-1)])), (q 6, .inl (cO, 10, .inr (.inr (.inr (.inr (va_up (va_up (va_up (va_up (fun _ => none) (0 : Int32).toNatClampNeg (some (q 8))) (1 : Int32).toNatClampNeg (some (q 9))) (2 : Int32).toNatClampNeg (some (q 10))) (3 : Int32).toNatClampNeg (some (q 11)))))))), (q 7, .inl (cO2, 10, .inr (.inr (.inr (.inr (va_up (va_up (va_up (fun _ => none) (0 : Int32).toNatClampNeg (some (q 16))) (1 : Int32).toNatClampNeg (some (q 17))) (2 : Int32).toNatClampNeg (some (q 18)))))))), (q 8, .inr (2, [.int 0, .ref (q 12), .int 1])), (q 9, .inr (2, [.int 1, .ref (q 13), .int 0])), (q 10, .inr (2, [.int 2, .ref (q 14), .int 0])), (q 11, .inr (2, [.int 3, .ref (q 15), .int 0])), (q 12, .inr (1, [.int 0, .int (-1)])), (q 13, .inr (1, [.int 0, .int (-1)])), (q 14, .inr (1, [.int 0, .int (-1)])), (q 15, .inr (1, [.int 0, .int (-1)])), (q 16, .inr (5, [.int 2, .int 0, .int 0, .int 0])), (q 17, .inr (5, [.int 3, .int 0, .int 0, .int 0])), (q 18, .inr (5, [.int 4, .int 0, .int 0, .int 0]))] sz)) 3 18 (va_A [(q 0, .inr (6, [.ref (q 1), .ref (q 2), .ref (q 3), .ref (q 4), .ref (q 5), .int 0, .int 0])), (q 1, .inr (0, [.int m4, .ref (q 6), .int 4])), (q 2, .inr (0, [.int 0, .ref tE, .int 0])), (q 3, .inr (0, [.int m3, .ref (q 7), .int 3])), (q 4, .inr (0, [.int 0, .ref tE, .int 0])), (q 5, .inr (1, [.int 0, .int (-1)])), (q 6, .inl (cO, 10, .inr (.inr (.inr (.inr (va_up (va_up (va_up (va_up (fun _ => none) (0 : Int32).toNatClampNeg (some (q 8))) (1 : Int32).toNatClampNeg (some (q 9))) (2 : Int32).toNatClampNeg (some (q 10))) (3 : Int32).toNatClampNeg (some (q 11)))))))), (q 7, .inl (cO2, 10, .inr (.inr (.inr (.inr (va_up (va_up (va_up (fun _ => none) (0 : Int32).toNatClampNeg (some (q 16))) (1 : Int32).toNatClampNeg (some (q 17))) (2 : Int32).toNatClampNeg (some (q 18)))))))), (q 8, .inr (2, [.int 0, .ref (q 12), .int 1])), (q 9, .inr (2, [.int 1, .ref (q 13), .int 0])), (q 10, .inr (2, [.int 2, .ref (q 14), .int 0])), (q 11, .inr (2, [.int 3, .ref (q 15), .int 0])), (q 12, .inr (1, [.int 0, .int (-1)])), (q 13, .inr (1, [.int 0, .int (-1)])), (q 14, .inr (1, [.int 0, .int (-1)])), (q 15, .inr (1, [.int 0, .int (-1)])), (q 16, .inr (5, [.int 2, .int 0, .int 0, .int 0])), (q 17, .inr (5, [.int 3, .int 0, .int 0, .int 0])), (q 18, .inr (5, [.int 4, .int 0, .int 0, .int 0]))] sz) := by
  refine vx_ofW (cc := cX5_setCut) (maxL := 5) (ret := (some .boolean)) (by decide) rfl ?_
  intro p e s m args below meth c s₁ B hml hno hv
  obtain ⟨rfl, hsz, hZT, hZ, hP, hK, hD0⟩ := hv
  have hx := B.exec
  have hb := B.bytes
  have hr := B.returns
  have hts := atoms_spec (ws := wsX5_setCut) B.pre
  have hown : s.vm.findClass RX5 = some m.cls := findClass_of_methodNamed B.named
  have hlocks := B.notSynchronized
  subst hsz
  have hi2 : ∀ w ∈ u_ws RX1 TX1 3, w ∈ wsX5_setCut := by decide +kernel
  have hi6 : ∀ w ∈ u_ws RX5 TX5 7, w ∈ wsX5_setCut := by decide +kernel
  have hD := hD0.self (sz := s.heap.size)
  generalize hAe : va_A [(q 0, .inr (6, [.ref (q 1), .ref (q 2), .ref (q 3), .ref (q 4), .ref (q 5), .int 0, .int 0])), (q 1, .inr (0, [.int m4, .ref (q 6), .int 4])), (q 2, .inr (0, [.int 0, .ref tE, .int 0])), (q 3, .inr (0, [.int m3, .ref (q 7), .int 3])), (q 4, .inr (0, [.int 0, .ref tE, .int 0])), (q 5, .inr (1, [.int 0, .int (-1)])), (q 6, .inl (cO, 10, .inr (.inr (.inr (.inr (va_up (va_up (va_up (va_up (fun _ => none) (0 : Int32).toNatClampNeg (some (q 8))) (1 : Int32).toNatClampNeg (some (q 9))) (2 : Int32).toNatClampNeg (some (q 10))) (3 : Int32).toNatClampNeg (some (q 11)))))))), (q 7, .inl (cO2, 10, .inr (.inr (.inr (.inr (va_up (va_up (va_up (fun _ => none) (0 : Int32).toNatClampNeg (some (q 16))) (1 : Int32).toNatClampNeg (some (q 17))) (2 : Int32).toNatClampNeg (some (q 18)))))))), (q 8, .inr (2, [.int 0, .ref (q 12), .int 1])), (q 9, .inr (2, [.int 1, .ref (q 13), .int 0])), (q 10, .inr (2, [.int 2, .ref (q 14), .int 0])), (q 11, .inr (2, [.int 3, .ref (q 15), .int 0])), (q 12, .inr (1, [.int 0, .int (-1)])), (q 13, .inr (1, [.int 0, .int (-1)])), (q 14, .inr (1, [.int 0, .int (-1)])), (q 15, .inr (1, [.int 0, .int (-1)])), (q 16, .inr (5, [.int 2, .int 0, .int 0, .int 0])), (q 17, .inr (5, [.int 3, .int 0, .int 0, .int 0])), (q 18, .inr (5, [.int 4, .int 0, .int 0, .int 0]))] s.heap.size = A at hZ hD ⊢
  have hA : ∀ q : Nat, s.heap.size ≤ q → A q := fun q h => by rw [← hAe]; exact Or.inr h
  have hS : va_S A s.heap s.heap [] := va_S.rf
  have hP : va_P (dC, dI) vwCl [(q 0, .inr (6, [.ref (q 1), .ref (q 2), .ref (q 3), .ref (q 4), .ref (q 5), .int 0, .int 0])), (q 1, .inr (0, [.int m4, .ref (q 6), .int 4])), (q 2, .inr (0, [.int 0, .ref tE, .int 0])), (q 3, .inr (0, [.int m3, .ref (q 7), .int 3])), (q 4, .inr (0, [.int 0, .ref tE, .int 0])), (q 5, .inr (1, [.int 0, .int (-1)])), (q 6, .inl (cO, 10, .inr (.inr (.inr (.inr (va_up (va_up (va_up (va_up (fun _ => none) (0 : Int32).toNatClampNeg (some (q 8))) (1 : Int32).toNatClampNeg (some (q 9))) (2 : Int32).toNatClampNeg (some (q 10))) (3 : Int32).toNatClampNeg (some (q 11)))))))), (q 7, .inl (cO2, 10, .inr (.inr (.inr (.inr (va_up (va_up (va_up (fun _ => none) (0 : Int32).toNatClampNeg (some (q 16))) (1 : Int32).toNatClampNeg (some (q 17))) (2 : Int32).toNatClampNeg (some (q 18)))))))), (q 8, .inr (2, [.int 0, .ref (q 12), .int 1])), (q 9, .inr (2, [.int 1, .ref (q 13), .int 0])), (q 10, .inr (2, [.int 2, .ref (q 14), .int 0])), (q 11, .inr (2, [.int 3, .ref (q 15), .int 0])), (q 12, .inr (1, [.int 0, .int (-1)])), (q 13, .inr (1, [.int 0, .int (-1)])), (q 14, .inr (1, [.int 0, .int (-1)])), (q 15, .inr (1, [.int 0, .int (-1)])), (q 16, .inr (5, [.int 2, .int 0, .int 0, .int 0])), (q 17, .inr (5, [.int 3, .int 0, .int 0, .int 0])), (q 18, .inr (5, [.int 4, .int 0, .int 0, .int 0]))] s.heap := hP
  have hl := lv_entry ([.ref (q 0), .int p0, .int p1, .int p2]) (n := 5) (Nat.le_of_ble_eq_true rfl)
  rw [lg_entry_eq]
  generalize (lg_sl ([.ref (q 0), .int p0, .int p1, .int p2]) ++ List.replicate (5 - (lg_sl ([.ref (q 0), .int p0, .int p1, .int p2])).length) Slot.unset).toArray = ls at hl ⊢
  have hl : lv_has ls 5 [(0, .ref (q 0)), (1, .int p0), (2, .int p1), (3, .int p2)] := hl
  refine lv_aload_n hx hb dX5_setCut_0 rfl (lv_at hl 0 rfl) ?_
  refine lv_iload_n hx hb dX5_setCut_1 rfl (lv_at hl 1 rfl) ?_
  have hFc := gb_free hA hS
  refine vx_callv (vx_runV (As := [.int p0]) (rest := []) ⟨hx, hb, hml, hown, hts⟩ (c_X5_requireDepot l hl9 kS tE dC dI s.heap.size q cO cO2 m4 m3 (0 : Int32) p0) (cwV 1 hts gX5_setCut_X5_requireDepot rfl rfl rfl (by decide +kernel) ⟨Nat.le_of_ble_eq_true rfl, Nat.le_of_ble_eq_true rfl⟩) (gb_preV hZT hZ hS hFc hP hD hK (va_recv hK hP (ci := 6) (q0 := 0) rfl rfl)) rfl rfl hl.1 rfl (lv_room (Nat.le_of_ble_eq_true rfl)) dX5_setCut_2 ⟨Nat.le_of_ble_eq_true rfl, Nat.le_of_ble_eq_true rfl⟩) hS (fun q _ h => hFc q h) hFc (fun q _ h => hFc q h) (fun E9 ce q9 u t H locs ht hvm hw hB hz1 hk1 hS hce hcv hcl => ?_) (fun u t H locs ht hvm hw hB hz1 hk1 hS => ?_)
  · obtain ⟨rfl, hq0⟩ := hB
    exact vx_out (fun x h9 => (hno x h9).elim) hlocks hce hcv hcl (fun t ht ha => ⟨(), trivial, (Or.inl ⟨rfl, (lb_44 p0 p1 p2 hq0)⟩), hS.F ht⟩) hS.2.2 (Nat.le_of_ble_eq_true rfl) (Nat.le_of_ble_eq_true rfl)
  · have w_2 := hw
    have hP := gb_keep hP hk1
    refine lv_iload_n hx hb dX5_setCut_5 rfl (lv_at hl 2 rfl) ?_
    refine lv_iload_n hx hb dX5_setCut_6 rfl (lv_at hl 3 rfl) ?_
    have hPc := hP.sub (ws' := []) [] rfl
    have hDc := hD.sub (ws' := []) [] (by decide) rfl
    have hKc := hK.sub (tys' := []) [] rfl
    have hFc := gb_free hA hS
    refine vx_callv (vx_runS (As := [.int p1, .int p2]) (rest := []) ⟨hx, hb, hml, hown, hts⟩ (c_X5_requireDays l hl9 kS tE dC dI H.size p1 p2) (va_cwS 2 hts gX5_setCut_X5_requireDays rfl rfl rfl (by decide +kernel) ⟨Nat.le_of_ble_eq_true rfl, Nat.le_of_ble_eq_true rfl⟩) (gb_preS hZT hZ hS hFc hPc hDc hKc) rfl rfl hl.1 rfl (lv_room (Nat.le_of_ble_eq_true rfl)) dX5_setCut_7 ⟨Nat.le_of_ble_eq_true rfl, Nat.le_of_ble_eq_true rfl⟩) hS (fun q _ h => hFc q h) hFc (fun q _ h => hFc q h) (fun E9 ce q9 u t H locs ht hvm hw hB hz1 hk1 hS hce hcv hcl => ?_) (fun u t H locs ht hvm hw hB hz1 hk1 hS => ?_)
    · obtain ⟨rfl, hq0⟩ := hB
      exact vx_out (fun x h9 => (hno x h9).elim) hlocks hce hcv hcl (fun t ht ha => ⟨(), trivial, (Or.inr ⟨rfl, (lb_45 p0 p1 p2 w_2 hq0)⟩), hS.F ht⟩) hS.2.2 (Nat.le_of_ble_eq_true rfl) (Nat.le_of_ble_eq_true rfl)
    · have w_4 := hw
      have hP := gb_keep hP hk1
      refine lv_aload_n hx hb dX5_setCut_10 rfl (lv_at hl 0 rfl) ?_
      refine va_get (D := (dC, dI)) (ci := 6) (v := .ref (q 1)) (C := RX5) (T := TX5) (N := 7) hx hb hts hi6 hown hK hP 0 rfl rfl 0 (by decide) (hts (.fieldLink RX5 10 "GlacierBook" "depots" "Ljava/util/ArrayList;") (by decide +kernel)) (fun _ h9 => h9) rfl dX5_setCut_11 ?_
      refine lv_iload_n hx hb dX5_setCut_14 rfl (lv_at hl 1 rfl) ?_
      obtain ⟨dd, cc, nn, ww, hfd, hvi, hPs, hDs, hww⟩ := gb_depot (D := (dC, dI)) (q := q) (cO := cO) (cO2 := cO2) (tE := tE) (m4 := m4) (m3 := m3) (dv := 0) p0 (lb_46 p0 p1 p2 w_2 w_4)
      have hPc := hP.sub (ws' := [(q 1, .inr (0, [.int m4, .ref (q 6), .int 4])), (q 6, .inl (cO, 10, .inr (.inr (.inr (.inr (va_up (va_up (va_up (va_up (fun _ => none) (0 : Int32).toNatClampNeg (some (q 8))) (1 : Int32).toNatClampNeg (some (q 9))) (2 : Int32).toNatClampNeg (some (q 10))) (3 : Int32).toNatClampNeg (some (q 11))))))))]) [1, 6] rfl
      have hDc := hD.sub (ws' := [(q 1, .inr (0, [.int m4, .ref (q 6), .int 4])), (q 6, .inl (cO, 10, .inr (.inr (.inr (.inr (va_up (va_up (va_up (va_up (fun _ => none) (0 : Int32).toNatClampNeg (some (q 8))) (1 : Int32).toNatClampNeg (some (q 9))) (2 : Int32).toNatClampNeg (some (q 10))) (3 : Int32).toNatClampNeg (some (q 11))))))))]) [1, 6] (by decide) rfl
      have hKc := hK.sub (tys' := [(cO, .object "java/lang/Object")]) [0] rfl
      have hFc := gb_free hA hS
      refine va_callr (va_runV (As := [.int p0]) (rest := []) ⟨hx, hb, hml, hown, hts⟩ (c_Jx4a65c_get_915e3 l hl9 kS tE dC dI H.size (q 1) m4 (q 6) (4 : Int32) cO (va_up (va_up (va_up (va_up (fun _ => none) (0 : Int32).toNatClampNeg (some (q 8))) (1 : Int32).toNatClampNeg (some (q 9))) (2 : Int32).toNatClampNeg (some (q 10))) (3 : Int32).toNatClampNeg (some (q 11))) p0 dd (lb_47 p0 p1 p2 ww w_2 w_4 hww) (lb_48 p0 p1 p2 ww w_2 w_4 hww) hvi hfd) (cwV 1 hts gX5_setCut_Jx4a65c_get_915e3 rfl rfl rfl (by decide +kernel) ⟨Nat.le_of_ble_eq_true rfl, Nat.le_of_ble_eq_true rfl⟩) (gb_preV hZT hZ hS hFc hPc hDc hKc (va_recv hK hP (ci := 0) (q0 := 1) rfl rfl)) rfl rfl hl.1 rfl (lv_room (Nat.le_of_ble_eq_true rfl)) dX5_setCut_15 ⟨Nat.le_of_ble_eq_true rfl, Nat.le_of_ble_eq_true rfl⟩) hS (fun q _ h => hFc q h) hFc (fun u ra t H locs ht hvm hw hB hz1 hk1 hS => ?_)
      have hB : ra = dd := hB
      rw [hB]
      have hP := gb_keep hP hk1
      have hP := hPs _ hP
      have hD := hDs _ hD
      refine va_castS (nm := RX1) hx hb hown (hts (.classLink RX5 39 "GlacierBook$Depot") (by decide +kernel)) (hK.1 2 _ rfl).2 (va_recv hK hP (ci := 2) (q0 := 1) rfl rfl) dX5_setCut_18 ?_
      refine va_get (D := (dC, dI)) (ci := 2) (v := .ref cc) (C := RX1) (T := TX1) (N := 3) hx hb hts hi2 hown hK hP 1 rfl rfl 1 (by decide) (hts (.fieldLink RX5 64 "GlacierBook$Depot" "cut" "LGlacierBook$Days;") (by decide +kernel)) (fun _ h9 => h9) rfl dX5_setCut_21 ?_
      refine lv_astore (lv' := [(4, .ref cc), (0, .ref (q 0)), (1, .int p0), (2, .int p1), (3, .int p2)]) hx hb dX5_setCut_24 hl (by decide) rfl (fun ls hl => ?_)
      refine lv_aload hx hb dX5_setCut_26 (lv_at hl 0 rfl) ?_
      refine lv_iload_n hx hb dX5_setCut_28 rfl (lv_at hl 3 rfl) ?_
      refine lv_iload_n hx hb dX5_setCut_29 rfl (lv_at hl 4 rfl) ?_
      have hPc := hP.sub (ws' := [(cc, .inr (1, [.int 0, .int (-1)]))]) [2] rfl
      have hDc := hD.sub (ws' := [(cc, .inr (1, [.int 0, .int (-1)]))]) [2] (by decide) rfl
      have hKc := hK.sub (tys' := []) [] rfl
      have hFc := va_free (wc := [(cc, .inr (1, [.int 0, .int (-1)]))]) hD hS hA [2] rfl
      refine va_callv (va_runV (As := [.int p1, .int p2]) (rest := []) ⟨hx, hb, hml, hown, hts⟩ (c_X0_become l hl9 kS tE dC dI H.size cc (0 : Int32) ((-1) : Int32) p1 p2) (cwV 2 hts gX5_setCut_X0_become rfl rfl rfl (by decide +kernel) ⟨Nat.le_of_ble_eq_true rfl, Nat.le_of_ble_eq_true rfl⟩) (gb_preV hZT hZ hS hFc hPc hDc hKc (va_recv hK hP (ci := 1) (q0 := 2) rfl rfl)) rfl rfl hl.1 rfl (lv_room (Nat.le_of_ble_eq_true rfl)) dX5_setCut_30 ⟨Nat.le_of_ble_eq_true rfl, Nat.le_of_ble_eq_true rfl⟩) hS (fun q _ h => hFc q h) hFc (fun u t H locs ht hvm hw hB hz1 hk1 hS => ?_)
      obtain ⟨hP1, hK1, hD1⟩ := hB
      rw [ht] at hP1
      have hK1 := va_K.moved hvm.symm hK1
      obtain ⟨hP, hD⟩ := va_join (wr := [(q 0, .inr (6, [.ref (q 1), .ref (q 2), .ref (q 3), .ref (q 4), .ref (q 5), .int 0, .int 0])), (dd, .inr (2, [.int nn, .ref cc, .int ww]))]) (w1 := [(cc, .inr (1, [.int p1, .int p2]))]) hP hD [2] [0, 1] rfl rfl (by decide) (by decide) hk1 hFc hP1 hD1
      have hP : va_P (dC, dI) vwCl [(q 0, .inr (6, [.ref (q 1), .ref (q 2), .ref (q 3), .ref (q 4), .ref (q 5), .int 0, .int 0])), (dd, .inr (2, [.int nn, .ref cc, .int ww])), (cc, .inr (1, [.int p1, .int p2]))] H := hP
      have hD : va_D A [(q 0, .inr (6, [.ref (q 1), .ref (q 2), .ref (q 3), .ref (q 4), .ref (q 5), .int 0, .int 0])), (dd, .inr (2, [.int nn, .ref cc, .int ww])), (cc, .inr (1, [.int p1, .int p2]))] := hD
      refine lv_aload hx hb dX5_setCut_33 (lv_at hl 0 rfl) ?_
      refine lv_aload_n hx hb dX5_setCut_35 rfl (lv_at hl 1 rfl) ?_
      refine va_get (D := (dC, dI)) (ci := 6) (v := .int 0) (C := RX5) (T := TX5) (N := 7) hx hb hts hi6 hown hK hP 0 rfl rfl 5 (by decide) (hts (.fieldLink RX5 32 "GlacierBook" "day" "I") (by decide +kernel)) (fun _ h9 => h9) rfl dX5_setCut_36 ?_
      have hPc := hP.sub (ws' := [(cc, .inr (1, [.int p1, .int p2]))]) [2] rfl
      have hDc := hD.sub (ws' := [(cc, .inr (1, [.int p1, .int p2]))]) [2] (by decide) rfl
      have hKc := hK.sub (tys' := []) [] rfl
      have hFc := gb_free hA hS
      refine va_calli (va_runV (As := [.int 0]) (rest := []) ⟨hx, hb, hml, hown, hts⟩ (c_X0_include l hl9 kS tE dC dI H.size cc p1 p2 (0 : Int32)) (cwV 1 hts gX5_setCut_X0_include rfl rfl rfl (by decide +kernel) ⟨Nat.le_of_ble_eq_true rfl, Nat.le_of_ble_eq_true rfl⟩) (gb_preV hZT hZ hS hFc hPc hDc hKc (va_recv hK hP (ci := 1) (q0 := 2) rfl rfl)) rfl rfl hl.1 rfl (lv_room (Nat.le_of_ble_eq_true rfl)) dX5_setCut_39 ⟨Nat.le_of_ble_eq_true rfl, Nat.le_of_ble_eq_true rfl⟩) hS (fun q _ h => hFc q h) hFc (fun r_7 u t H locs ht hvm hw hB hz1 hk1 hS => ?_)
      have hP := gb_keep hP hk1
      have w_8 := hw
      refine vx_ret ?_
      refine W.widen (k := 3) (n := 18) (Nat.le_of_ble_eq_true rfl) (Nat.le_of_ble_eq_true rfl) ?_
      exact W.zret (v := r_7) hx hb hr (gb_nb (lb_50 p0 p1 p2 ww r_7 w_2 w_4 hww w_8)) (fun t ht hW => ⟨⟨r_7, (), rfl, (lb_49 p0 p1 p2 ww r_7 w_2 w_4 hww w_8), trivial⟩, hS.F ht⟩) hS.2.2 dX5_setCut_42

theorem lb_51 (p0 : Int32) (p1 : Int32) (hb1 : p1 = 0 ∨ p1 = 1) (hq0 : p0 < 0 ∨ ¬ p0 < 4) : sp_setWarm p0 1 0 := by
  (try simp only [sp_hunger, sp_setCut, sp_setWarm, sp_setFrost, sp_setPeople, sp_stock, sp_changed, sp_fill, sp_pass, gb_okD, gb_okG, gb_okW, gb_days, gb_in, gb_lt, gb_le, gb_eq, gb_l0, gb_l1, gb_l2, gb_l3, gb_l4, gb_l5, gb_l10, gb_l19, gb_l20, gb_l40, gb_l60, gb_l1000, gb_l1500, gb_lm1, gb_l65536, true_and, and_true, false_and, and_false, true_or, or_true, false_or, or_false, not_true_eq_false, not_false_eq_true, ne_eq] at *) <;> omega
theorem lb_52 (p0 : Int32) (p1 : Int32) (hb1 : p1 = 0 ∨ p1 = 1) (w_2 : ¬ p0 < 0 ∧ p0 < 4) : ¬ p0 < 0 ∧ p0 < 4 := by
  (try simp only [sp_hunger, sp_setCut, sp_setWarm, sp_setFrost, sp_setPeople, sp_stock, sp_changed, sp_fill, sp_pass, gb_okD, gb_okG, gb_okW, gb_days, gb_in, gb_lt, gb_le, gb_eq, gb_l0, gb_l1, gb_l2, gb_l3, gb_l4, gb_l5, gb_l10, gb_l19, gb_l20, gb_l40, gb_l60, gb_l1000, gb_l1500, gb_lm1, gb_l65536, true_and, and_true, false_and, and_false, true_or, or_true, false_or, or_false, not_true_eq_false, not_false_eq_true, ne_eq] at *) <;> omega
theorem lb_53 (p0 : Int32) (p1 : Int32) (ww : Int32) (hb1 : p1 = 0 ∨ p1 = 1) (w_2 : ¬ p0 < 0 ∧ p0 < 4) (hww : (p0 = 0 ∧ ww = 1) ∨ (¬ p0 = 0 ∧ ww = 0)) : ¬ p0 < 0 := by
  (try simp only [sp_hunger, sp_setCut, sp_setWarm, sp_setFrost, sp_setPeople, sp_stock, sp_changed, sp_fill, sp_pass, gb_okD, gb_okG, gb_okW, gb_days, gb_in, gb_lt, gb_le, gb_eq, gb_l0, gb_l1, gb_l2, gb_l3, gb_l4, gb_l5, gb_l10, gb_l19, gb_l20, gb_l40, gb_l60, gb_l1000, gb_l1500, gb_lm1, gb_l65536, true_and, and_true, false_and, and_false, true_or, or_true, false_or, or_false, not_true_eq_false, not_false_eq_true, ne_eq] at *) <;> omega
theorem lb_54 (p0 : Int32) (p1 : Int32) (ww : Int32) (hb1 : p1 = 0 ∨ p1 = 1) (w_2 : ¬ p0 < 0 ∧ p0 < 4) (hww : (p0 = 0 ∧ ww = 1) ∨ (¬ p0 = 0 ∧ ww = 0)) : p0 < (4 : Int32) := by
  (try simp only [sp_hunger, sp_setCut, sp_setWarm, sp_setFrost, sp_setPeople, sp_stock, sp_changed, sp_fill, sp_pass, gb_okD, gb_okG, gb_okW, gb_days, gb_in, gb_lt, gb_le, gb_eq, gb_l0, gb_l1, gb_l2, gb_l3, gb_l4, gb_l5, gb_l10, gb_l19, gb_l20, gb_l40, gb_l60, gb_l1000, gb_l1500, gb_lm1, gb_l65536, true_and, and_true, false_and, and_false, true_or, or_true, false_or, or_false, not_true_eq_false, not_false_eq_true, ne_eq] at *) <;> omega
theorem lb_55 (p0 : Int32) (p1 : Int32) (ww : Int32) (hb1 : p1 = 0 ∨ p1 = 1) (w_2 : ¬ p0 < 0 ∧ p0 < 4) (hww : (p0 = 0 ∧ ww = 1) ∨ (¬ p0 = 0 ∧ ww = 0)) : sp_setWarm p0 0 ww := by
  (try simp only [sp_hunger, sp_setCut, sp_setWarm, sp_setFrost, sp_setPeople, sp_stock, sp_changed, sp_fill, sp_pass, gb_okD, gb_okG, gb_okW, gb_days, gb_in, gb_lt, gb_le, gb_eq, gb_l0, gb_l1, gb_l2, gb_l3, gb_l4, gb_l5, gb_l10, gb_l19, gb_l20, gb_l40, gb_l60, gb_l1000, gb_l1500, gb_lm1, gb_l65536, true_and, and_true, false_and, and_false, true_or, or_true, false_or, or_false, not_true_eq_false, not_false_eq_true, ne_eq] at *) <;> omega
theorem lb_56 (p0 : Int32) (p1 : Int32) (ww : Int32) (hb1 : p1 = 0 ∨ p1 = 1) (w_2 : ¬ p0 < 0 ∧ p0 < 4) (hww : (p0 = 0 ∧ ww = 1) ∨ (¬ p0 = 0 ∧ ww = 0)) : ww = 0 ∨ ww = 1 := by
  (try simp only [sp_hunger, sp_setCut, sp_setWarm, sp_setFrost, sp_setPeople, sp_stock, sp_changed, sp_fill, sp_pass, gb_okD, gb_okG, gb_okW, gb_days, gb_in, gb_lt, gb_le, gb_eq, gb_l0, gb_l1, gb_l2, gb_l3, gb_l4, gb_l5, gb_l10, gb_l19, gb_l20, gb_l40, gb_l60, gb_l1000, gb_l1500, gb_lm1, gb_l65536, true_and, and_true, false_and, and_false, true_or, or_true, false_or, or_false, not_true_eq_false, not_false_eq_true, ne_eq] at *) <;> omega
set_option maxHeartbeats 4000000 in
set_option maxRecDepth 100000 in
theorem c_X5_setWarm (l : Launch) (hl9 : l.stackTraces = false) (kS : Nat → Nat) (tE : Nat) (dC : Nat → ClassId) (dI : Nat → Nat → Nat) (sz : Nat) (q : Nat → Nat) (cO : ClassId) (cO2 : ClassId) (m4 : Int32) (m3 : Int32) (dv : Int32) (p0 : Int32) (p1 : Int32) (hb1 : p1 = 0 ∨ p1 = 1) : vx_Met l yX5_setWarm wsX5_setWarm ({ frames := 8, cells := 1, slots := 6, locals := 124 }) (va_Pc [.ref (q 0), .int p0, .int p1] (gb_Pw kS tE (va_A [(q 0, .inr (6, [.ref (q 1), .ref (q 2), .ref (q 3), .ref (q 4), .ref (q 5), .int dv, .int 0])), (q 1, .inr (0, [.int m4, .ref (q 6), .int 4])), (q 2, .inr (0, [.int 0, .ref tE, .int 0])), (q 3, .inr (0, [.int m3, .ref (q 7), .int 3])), (q 4, .inr (0, [.int 0, .ref tE, .int 0])), (q 5, .inr (1, [.int 0, .int (-1)])), (q 6, .inl (cO, 10, .inr (.inr (.inr (.inr (va_up (va_up (va_up (va_up (fun _ => none) (0 : Int32).toNatClampNeg (some (q 8))) (1 : Int32).toNatClampNeg (some (q 9))) (2 : Int32).toNatClampNeg (some (q 10))) (3 : Int32).toNatClampNeg (some (q 11)))))))), (q 7, .inl (cO2, 10, .inr (.inr (.inr (.inr (va_up (va_up (va_up (fun _ => none) (0 : Int32).toNatClampNeg (some (q 16))) (1 : Int32).toNatClampNeg (some (q 17))) (2 : Int32).toNatClampNeg (some (q 18)))))))), (q 8, .inr (2, [.int 0, .ref (q 12), .int 1])), (q 9, .inr (2, [.int 1, .ref (q 13), .int 0])), (q 10, .inr (2, [.int 2, .ref (q 14), .int 0])), (q 11, .inr (2, [.int 3, .ref (q 15), .int 0])), (q 12, .inr (1, [.int 0, .int (-1)])), (q 13, .inr (1, [.int 0, .int (-1)])), (q 14, .inr (1, [.int 0, .int (-1)])), (q 15, .inr (1, [.int 0, .int (-1)])), (q 16, .inr (5, [.int 2, .int 0, .int 0, .int 0])), (q 17, .inr (5, [.int 3, .int 0, .int 0, .int 0])), (q 18, .inr (5, [.int 4, .int 0, .int 0, .int 0]))] sz) (dC, dI) [(cO, .object "java/lang/Object"), (cO2, .object "java/lang/Object")] [(q 0, .inr (6, [.ref (q 1), .ref (q 2), .ref (q 3), .ref (q 4), .ref (q 5), .int dv, .int 0])), (q 1, .inr (0, [.int m4, .ref (q 6), .int 4])), (q 2, .inr (0, [.int 0, .ref tE, .int 0])), (q 3, .inr (0, [.int m3, .ref (q 7), .int 3])), (q 4, .inr (0, [.int 0, .ref tE, .int 0])), (q 5, .inr (1, [.int 0, .int (-1)])), (q 6, .inl (cO, 10, .inr (.inr (.inr (.inr (va_up (va_up (va_up (va_up (fun _ => none) (0 : Int32).toNatClampNeg (some (q 8))) (1 : Int32).toNatClampNeg (some (q 9))) (2 : Int32).toNatClampNeg (some (q 10))) (3 : Int32).toNatClampNeg (some (q 11)))))))), (q 7, .inl (cO2, 10, .inr (.inr (.inr (.inr (va_up (va_up (va_up (fun _ => none) (0 : Int32).toNatClampNeg (some (q 16))) (1 : Int32).toNatClampNeg (some (q 17))) (2 : Int32).toNatClampNeg (some (q 18)))))))), (q 8, .inr (2, [.int 0, .ref (q 12), .int 1])), (q 9, .inr (2, [.int 1, .ref (q 13), .int 0])), (q 10, .inr (2, [.int 2, .ref (q 14), .int 0])), (q 11, .inr (2, [.int 3, .ref (q 15), .int 0])), (q 12, .inr (1, [.int 0, .int (-1)])), (q 13, .inr (1, [.int 0, .int (-1)])), (q 14, .inr (1, [.int 0, .int (-1)])), (q 15, .inr (1, [.int 0, .int (-1)])), (q 16, .inr (5, [.int 2, .int 0, .int 0, .int 0])), (q 17, .inr (5, [.int 3, .int 0, .int 0, .int 0])), (q 18, .inr (5, [.int 4, .int 0, .int 0, .int 0]))] sz)) (va_Qi (fun (r : Int32) (_ : Unit) => sp_setWarm p0 0 r) (fun _ _ => True) (va_A [(q 0, .inr (6, [.ref (q 1), .ref (q 2), .ref (q 3), .ref (q 4), .ref (q 5), .int dv, .int 0])), (q 1, .inr (0, [.int m4, .ref (q 6), .int 4])), (q 2, .inr (0, [.int 0, .ref tE, .int 0])), (q 3, .inr (0, [.int m3, .ref (q 7), .int 3])), (q 4, .inr (0, [.int 0, .ref tE, .int 0])), (q 5, .inr (1, [.int 0, .int (-1)])), (q 6, .inl (cO, 10, .inr (.inr (.inr (.inr (va_up (va_up (va_up (va_up (fun _ => none) (0 : Int32).toNatClampNeg (some (q 8))) (1 : Int32).toNatClampNeg (some (q 9))) (2 : Int32).toNatClampNeg (some (q 10))) (3 : Int32).toNatClampNeg (some (q 11)))))))), (q 7, .inl (cO2, 10, .inr (.inr (.inr (.inr (va_up (va_up (va_up (fun _ => none) (0 : Int32).toNatClampNeg (some (q 16))) (1 : Int32).toNatClampNeg (some (q 17))) (2 : Int32).toNatClampNeg (some (q 18)))))))), (q 8, .inr (2, [.int 0, .ref (q 12), .int 1])), (q 9, .inr (2, [.int 1, .ref (q 13), .int 0])), (q 10, .inr (2, [.int 2, .ref (q 14), .int 0])), (q 11, .inr (2, [.int 3, .ref (q 15), .int 0])), (q 12, .inr (1, [.int 0, .int (-1)])), (q 13, .inr (1, [.int 0, .int (-1)])), (q 14, .inr (1, [.int 0, .int (-1)])), (q 15, .inr (1, [.int 0, .int (-1)])), (q 16, .inr (5, [.int 2, .int 0, .int 0, .int 0])), (q 17, .inr (5, [.int 3, .int 0, .int 0, .int 0])), (q 18, .inr (5, [.int 4, .int 0, .int 0, .int 0]))] sz)) (vx_X (fun _ : Unit => True) (fun E _ _ => (E = "java/lang/IndexOutOfBoundsException" ∧ (sp_setWarm p0 1 0))) (va_A [(q 0, .inr (6, [.ref (q 1), .ref (q 2), .ref (q 3), .ref (q 4), .ref (q 5), .int dv, .int 0])), (q 1, .inr (0, [.int m4, .ref (q 6), .int 4])), (q 2, .inr (0, [.int 0, .ref tE, .int 0])), (q 3, .inr (0, [.int m3, .ref (q 7), .int 3])), (q 4, .inr (0, [.int 0, .ref tE, .int 0])), (q 5, .inr (1, [.int 0, .int (-1)])), (q 6, .inl (cO, 10, .inr (.inr (.inr (.inr (va_up (va_up (va_up (va_up (fun _ => none) (0 : Int32).toNatClampNeg (some (q 8))) (1 : Int32).toNatClampNeg (some (q 9))) (2 : Int32).toNatClampNeg (some (q 10))) (3 : Int32).toNatClampNeg (some (q 11)))))))), (q 7, .inl (cO2, 10, .inr (.inr (.inr (.inr (va_up (va_up (va_up (fun _ => none) (0 : Int32).toNatClampNeg (some (q 16))) (1 : Int32).toNatClampNeg (some (q 17))) (2 : Int32).toNatClampNeg (some (q 18)))))))), (q 8, .inr (2, [.int 0, .ref (q 12), .int 1])), (q 9, .inr (2, [.int 1, .ref (q 13), .int 0])), (q 10, .inr (2, [.int 2, .ref (q 14), .int 0])), (q 11, .inr (2, [.int 3, .ref (q 15), .int 0])), (q 12, .inr (1, [.int 0, .int (-1)])), (q 13, .inr (1, [.int 0, .int (-1)])), (q 14, .inr (1, [.int 0, .int (-1)])), (q 15, .inr (1, [.int 0, .int (-1)])), (q 16, .inr (5, [.int 2, .int 0, .int 0, .int 0])), (q 17, .inr (5, [.int 3, .int 0, .int 0, .int 0])), (q 18, .inr (5, [.int 4, .int 0, .int 0, .int 0]))] sz)) 1 6 (va_A [(q 0, .inr (6, [.ref (q 1), .ref (q 2), .ref (q 3), .ref (q 4), .ref (q 5), .int dv, .int 0])), (q 1, .inr (0, [.int m4, .ref (q 6), .int 4])), (q 2, .inr (0, [.int 0, .ref tE, .int 0])), (q 3, .inr (0, [.int m3, .ref (q 7), .int 3])), (q 4, .inr (0, [.int 0, .ref tE, .int 0])), (q 5, .inr (1, [.int 0, .int (-1)])), (q 6, .inl (cO, 10, .inr (.inr (.inr (.inr (va_up (va_up (va_up (va_up (fun _ => none) (0 : Int32).toNatClampNeg (some (q 8))) (1 : Int32).toNatClampNeg (some (q 9))) (2 : Int32).toNatClampNeg (some (q 10))) (3 : Int32).toNatClampNeg (some (q 11)))))))), (q 7, .inl (cO2, 10, .inr (.inr (.inr (.inr (va_up (va_up (va_up (fun _ => none) (0 : Int32).toNatClampNeg (some (q 16))) (1 : Int32).toNatClampNeg (some (q 17))) (2 : Int32).toNatClampNeg (some (q 18)))))))), (q 8, .inr (2, [.int 0, .ref (q 12), .int 1])), (q 9, .inr (2, [.int 1, .ref (q 13), .int 0])), (q 10, .inr (2, [.int 2, .ref (q 14), .int 0])), (q 11, .inr (2, [.int 3, .ref (q 15), .int 0])), (q 12, .inr (1, [.int 0, .int (-1)])), (q 13, .inr (1, [.int 0, .int (-1)])), (q 14, .inr (1, [.int 0, .int (-1)])), (q 15, .inr (1, [.int 0, .int (-1)])), (q 16, .inr (5, [.int 2, .int 0, .int 0, .int 0])), (q 17, .inr (5, [.int 3, .int 0, .int 0, .int 0])), (q 18, .inr (5, [.int 4, .int 0, .int 0, .int 0]))] sz) := by
  refine vx_ofW (cc := cX5_setWarm) (maxL := 5) (ret := (some .boolean)) (by decide) rfl ?_
  intro p e s m args below meth c s₁ B hml hno hv
  obtain ⟨rfl, hsz, hZT, hZ, hP, hK, hD0⟩ := hv
  have hx := B.exec
  have hb := B.bytes
  have hr := B.returns
  have hts := atoms_spec (ws := wsX5_setWarm) B.pre
  have hown : s.vm.findClass RX5 = some m.cls := findClass_of_methodNamed B.named
  have hlocks := B.notSynchronized
  subst hsz
  have hi2 : ∀ w ∈ u_ws RX1 TX1 3, w ∈ wsX5_setWarm := by decide +kernel
  have hi6 : ∀ w ∈ u_ws RX5 TX5 7, w ∈ wsX5_setWarm := by decide +kernel
  have hD := hD0.self (sz := s.heap.size)
  generalize hAe : va_A [(q 0, .inr (6, [.ref (q 1), .ref (q 2), .ref (q 3), .ref (q 4), .ref (q 5), .int dv, .int 0])), (q 1, .inr (0, [.int m4, .ref (q 6), .int 4])), (q 2, .inr (0, [.int 0, .ref tE, .int 0])), (q 3, .inr (0, [.int m3, .ref (q 7), .int 3])), (q 4, .inr (0, [.int 0, .ref tE, .int 0])), (q 5, .inr (1, [.int 0, .int (-1)])), (q 6, .inl (cO, 10, .inr (.inr (.inr (.inr (va_up (va_up (va_up (va_up (fun _ => none) (0 : Int32).toNatClampNeg (some (q 8))) (1 : Int32).toNatClampNeg (some (q 9))) (2 : Int32).toNatClampNeg (some (q 10))) (3 : Int32).toNatClampNeg (some (q 11)))))))), (q 7, .inl (cO2, 10, .inr (.inr (.inr (.inr (va_up (va_up (va_up (fun _ => none) (0 : Int32).toNatClampNeg (some (q 16))) (1 : Int32).toNatClampNeg (some (q 17))) (2 : Int32).toNatClampNeg (some (q 18)))))))), (q 8, .inr (2, [.int 0, .ref (q 12), .int 1])), (q 9, .inr (2, [.int 1, .ref (q 13), .int 0])), (q 10, .inr (2, [.int 2, .ref (q 14), .int 0])), (q 11, .inr (2, [.int 3, .ref (q 15), .int 0])), (q 12, .inr (1, [.int 0, .int (-1)])), (q 13, .inr (1, [.int 0, .int (-1)])), (q 14, .inr (1, [.int 0, .int (-1)])), (q 15, .inr (1, [.int 0, .int (-1)])), (q 16, .inr (5, [.int 2, .int 0, .int 0, .int 0])), (q 17, .inr (5, [.int 3, .int 0, .int 0, .int 0])), (q 18, .inr (5, [.int 4, .int 0, .int 0, .int 0]))] s.heap.size = A at hZ hD ⊢
  have hA : ∀ q : Nat, s.heap.size ≤ q → A q := fun q h => by rw [← hAe]; exact Or.inr h
  have hS : va_S A s.heap s.heap [] := va_S.rf
  have hP : va_P (dC, dI) vwCl [(q 0, .inr (6, [.ref (q 1), .ref (q 2), .ref (q 3), .ref (q 4), .ref (q 5), .int dv, .int 0])), (q 1, .inr (0, [.int m4, .ref (q 6), .int 4])), (q 2, .inr (0, [.int 0, .ref tE, .int 0])), (q 3, .inr (0, [.int m3, .ref (q 7), .int 3])), (q 4, .inr (0, [.int 0, .ref tE, .int 0])), (q 5, .inr (1, [.int 0, .int (-1)])), (q 6, .inl (cO, 10, .inr (.inr (.inr (.inr (va_up (va_up (va_up (va_up (fun _ => none) (0 : Int32).toNatClampNeg (some (q 8))) (1 : Int32).toNatClampNeg (some (q 9))) (2 : Int32).toNatClampNeg (some (q 10))) (3 : Int32).toNatClampNeg (some (q 11)))))))), (q 7, .inl (cO2, 10, .inr (.inr (.inr (.inr (va_up (va_up (va_up (fun _ => none) (0 : Int32).toNatClampNeg (some (q 16))) (1 : Int32).toNatClampNeg (some (q 17))) (2 : Int32).toNatClampNeg (some (q 18)))))))), (q 8, .inr (2, [.int 0, .ref (q 12), .int 1])), (q 9, .inr (2, [.int 1, .ref (q 13), .int 0])), (q 10, .inr (2, [.int 2, .ref (q 14), .int 0])), (q 11, .inr (2, [.int 3, .ref (q 15), .int 0])), (q 12, .inr (1, [.int 0, .int (-1)])), (q 13, .inr (1, [.int 0, .int (-1)])), (q 14, .inr (1, [.int 0, .int (-1)])), (q 15, .inr (1, [.int 0, .int (-1)])), (q 16, .inr (5, [.int 2, .int 0, .int 0, .int 0])), (q 17, .inr (5, [.int 3, .int 0, .int 0, .int 0])), (q 18, .inr (5, [.int 4, .int 0, .int 0, .int 0]))] s.heap := hP
  have hl := lv_entry ([.ref (q 0), .int p0, .int p1]) (n := 5) (Nat.le_of_ble_eq_true rfl)
  rw [lg_entry_eq]
  generalize (lg_sl ([.ref (q 0), .int p0, .int p1]) ++ List.replicate (5 - (lg_sl ([.ref (q 0), .int p0, .int p1])).length) Slot.unset).toArray = ls at hl ⊢
  have hl : lv_has ls 5 [(0, .ref (q 0)), (1, .int p0), (2, .int p1)] := hl
  refine lv_aload_n hx hb dX5_setWarm_0 rfl (lv_at hl 0 rfl) ?_
  refine lv_iload_n hx hb dX5_setWarm_1 rfl (lv_at hl 1 rfl) ?_
  have hFc := gb_free hA hS
  refine vx_callv (vx_runV (As := [.int p0]) (rest := []) ⟨hx, hb, hml, hown, hts⟩ (c_X5_requireDepot l hl9 kS tE dC dI s.heap.size q cO cO2 m4 m3 dv p0) (cwV 1 hts gX5_setWarm_X5_requireDepot rfl rfl rfl (by decide +kernel) ⟨Nat.le_of_ble_eq_true rfl, Nat.le_of_ble_eq_true rfl⟩) (gb_preV hZT hZ hS hFc hP hD hK (va_recv hK hP (ci := 6) (q0 := 0) rfl rfl)) rfl rfl hl.1 rfl (lv_room (Nat.le_of_ble_eq_true rfl)) dX5_setWarm_2 ⟨Nat.le_of_ble_eq_true rfl, Nat.le_of_ble_eq_true rfl⟩) hS (fun q _ h => hFc q h) hFc (fun q _ h => hFc q h) (fun E9 ce q9 u t H locs ht hvm hw hB hz1 hk1 hS hce hcv hcl => ?_) (fun u t H locs ht hvm hw hB hz1 hk1 hS => ?_)
  · obtain ⟨rfl, hq0⟩ := hB
    exact vx_out (fun x h9 => (hno x h9).elim) hlocks hce hcv hcl (fun t ht ha => ⟨(), trivial, ⟨rfl, (lb_51 p0 p1 hb1 hq0)⟩, hS.F ht⟩) hS.2.2 (Nat.le_of_ble_eq_true rfl) (Nat.le_of_ble_eq_true rfl)
  · have w_2 := hw
    have hP := gb_keep hP hk1
    refine lv_aload_n hx hb dX5_setWarm_5 rfl (lv_at hl 0 rfl) ?_
    refine va_get (D := (dC, dI)) (ci := 6) (v := .ref (q 1)) (C := RX5) (T := TX5) (N := 7) hx hb hts hi6 hown hK hP 0 rfl rfl 0 (by decide) (hts (.fieldLink RX5 10 "GlacierBook" "depots" "Ljava/util/ArrayList;") (by decide +kernel)) (fun _ h9 => h9) rfl dX5_setWarm_6 ?_
    refine lv_iload_n hx hb dX5_setWarm_9 rfl (lv_at hl 1 rfl) ?_
    obtain ⟨dd, cc, nn, ww, hfd, hvi, hPs, hDs, hww⟩ := gb_depot (D := (dC, dI)) (q := q) (cO := cO) (cO2 := cO2) (tE := tE) (m4 := m4) (m3 := m3) (dv := dv) p0 (lb_52 p0 p1 hb1 w_2)
    have hPc := hP.sub (ws' := [(q 1, .inr (0, [.int m4, .ref (q 6), .int 4])), (q 6, .inl (cO, 10, .inr (.inr (.inr (.inr (va_up (va_up (va_up (va_up (fun _ => none) (0 : Int32).toNatClampNeg (some (q 8))) (1 : Int32).toNatClampNeg (some (q 9))) (2 : Int32).toNatClampNeg (some (q 10))) (3 : Int32).toNatClampNeg (some (q 11))))))))]) [1, 6] rfl
    have hDc := hD.sub (ws' := [(q 1, .inr (0, [.int m4, .ref (q 6), .int 4])), (q 6, .inl (cO, 10, .inr (.inr (.inr (.inr (va_up (va_up (va_up (va_up (fun _ => none) (0 : Int32).toNatClampNeg (some (q 8))) (1 : Int32).toNatClampNeg (some (q 9))) (2 : Int32).toNatClampNeg (some (q 10))) (3 : Int32).toNatClampNeg (some (q 11))))))))]) [1, 6] (by decide) rfl
    have hKc := hK.sub (tys' := [(cO, .object "java/lang/Object")]) [0] rfl
    have hFc := gb_free hA hS
    refine va_callr (va_runV (As := [.int p0]) (rest := []) ⟨hx, hb, hml, hown, hts⟩ (c_Jx4a65c_get_915e3 l hl9 kS tE dC dI H.size (q 1) m4 (q 6) (4 : Int32) cO (va_up (va_up (va_up (va_up (fun _ => none) (0 : Int32).toNatClampNeg (some (q 8))) (1 : Int32).toNatClampNeg (some (q 9))) (2 : Int32).toNatClampNeg (some (q 10))) (3 : Int32).toNatClampNeg (some (q 11))) p0 dd (lb_53 p0 p1 ww hb1 w_2 hww) (lb_54 p0 p1 ww hb1 w_2 hww) hvi hfd) (cwV 1 hts gX5_setWarm_Jx4a65c_get_915e3 rfl rfl rfl (by decide +kernel) ⟨Nat.le_of_ble_eq_true rfl, Nat.le_of_ble_eq_true rfl⟩) (gb_preV hZT hZ hS hFc hPc hDc hKc (va_recv hK hP (ci := 0) (q0 := 1) rfl rfl)) rfl rfl hl.1 rfl (lv_room (Nat.le_of_ble_eq_true rfl)) dX5_setWarm_10 ⟨Nat.le_of_ble_eq_true rfl, Nat.le_of_ble_eq_true rfl⟩) hS (fun q _ h => hFc q h) hFc (fun u ra t H locs ht hvm hw hB hz1 hk1 hS => ?_)
    have hB : ra = dd := hB
    rw [hB]
    have hP := gb_keep hP hk1
    have hP := hPs _ hP
    have hD := hDs _ hD
    refine va_castS (nm := RX1) hx hb hown (hts (.classLink RX5 39 "GlacierBook$Depot") (by decide +kernel)) (hK.1 2 _ rfl).2 (va_recv hK hP (ci := 2) (q0 := 1) rfl rfl) dX5_setWarm_13 ?_
    refine lv_astore_n (lv' := [(3, .ref dd), (0, .ref (q 0)), (1, .int p0), (2, .int p1)]) hx hb dX5_setWarm_16 rfl hl (by decide) rfl (fun ls hl => ?_)
    refine lv_aload_n hx hb dX5_setWarm_17 rfl (lv_at hl 0 rfl) ?_
    refine va_get (D := (dC, dI)) (ci := 2) (v := .int ww) (C := RX1) (T := TX1) (N := 3) hx hb hts hi2 hown hK hP 1 rfl rfl 2 (by decide) (hts (.fieldLink RX5 74 "GlacierBook$Depot" "warm" "Z") (by decide +kernel)) (fun _ h9 => h9) rfl dX5_setWarm_18 ?_
    refine lv_istore (lv' := [(4, .int ww), (3, .ref dd), (0, .ref (q 0)), (1, .int p0), (2, .int p1)]) hx hb dX5_setWarm_21 hl (by decide) rfl (fun ls hl => ?_)
    refine lv_aload_n hx hb dX5_setWarm_23 rfl (lv_at hl 1 rfl) ?_
    refine lv_iload_n hx hb dX5_setWarm_24 rfl (lv_at hl 4 rfl) ?_
    refine va_put (D := (dC, dI)) (ci := 2) (v := .int p1) (ty := .boolean) (C := RX1) (T := TX1) (N := 3) hx hb hts hi2 tyX1 tyX1_ok nmX1 hown hK hP hD hS 1 rfl rfl 2 (by decide) (hts (.fieldLink RX5 74 "GlacierBook$Depot" "warm" "Z") (by decide +kernel)) (fun _ h9 => h9) rfl (by decide +kernel) (gb_nb hb1) (gb_fb hb1) (Nat.le_of_ble_eq_true rfl) dX5_setWarm_25 (fun H locs hP hD hS => ?_)
    have hP : va_P (dC, dI) vwCl [(q 0, .inr (6, [.ref (q 1), .ref (q 2), .ref (q 3), .ref (q 4), .ref (q 5), .int dv, .int 0])), (dd, .inr (2, [.int nn, .ref cc, .int p1])), (cc, .inr (1, [.int 0, .int (-1)]))] H := hP
    have hD : va_D A [(q 0, .inr (6, [.ref (q 1), .ref (q 2), .ref (q 3), .ref (q 4), .ref (q 5), .int dv, .int 0])), (dd, .inr (2, [.int nn, .ref cc, .int p1])), (cc, .inr (1, [.int 0, .int (-1)]))] := hD
    refine lv_iload hx hb dX5_setWarm_28 (lv_at hl 0 rfl) ?_
    refine vx_ret ?_
    refine W.widen (k := 1) (n := 6) (Nat.le_of_ble_eq_true rfl) (Nat.le_of_ble_eq_true rfl) ?_
    exact W.zret (v := ww) hx hb hr (gb_nb (lb_56 p0 p1 ww hb1 w_2 hww)) (fun t ht hW => ⟨⟨ww, (), rfl, (lb_55 p0 p1 ww hb1 w_2 hww), trivial⟩, hS.F ht⟩) hS.2.2 dX5_setWarm_30

theorem lb_57 (p0 : Int32) (p1 : Int32) (hq0 : ¬ gb_days p0 p1) : sp_setFrost p0 p1 1 0 := by
  (try simp only [sp_hunger, sp_setCut, sp_setWarm, sp_setFrost, sp_setPeople, sp_stock, sp_changed, sp_fill, sp_pass, gb_okD, gb_okG, gb_okW, gb_days, gb_in, gb_lt, gb_le, gb_eq, gb_l0, gb_l1, gb_l2, gb_l3, gb_l4, gb_l5, gb_l10, gb_l19, gb_l20, gb_l40, gb_l60, gb_l1000, gb_l1500, gb_lm1, gb_l65536, true_and, and_true, false_and, and_false, true_or, or_true, false_or, or_false, not_true_eq_false, not_false_eq_true, ne_eq] at *) <;> omega
theorem lb_58 (p0 : Int32) (p1 : Int32) (r_4 : Int32) (w_2 : gb_days p0 p1) (w_5 : (r_4 = 1 ∧ p0 ≤ (0 : Int32) ∧ (0 : Int32) ≤ p1) ∨ (r_4 = 0 ∧ ¬ (p0 ≤ (0 : Int32) ∧ (0 : Int32) ≤ p1))) : sp_setFrost p0 p1 0 r_4 := by
  (try simp only [sp_hunger, sp_setCut, sp_setWarm, sp_setFrost, sp_setPeople, sp_stock, sp_changed, sp_fill, sp_pass, gb_okD, gb_okG, gb_okW, gb_days, gb_in, gb_lt, gb_le, gb_eq, gb_l0, gb_l1, gb_l2, gb_l3, gb_l4, gb_l5, gb_l10, gb_l19, gb_l20, gb_l40, gb_l60, gb_l1000, gb_l1500, gb_lm1, gb_l65536, true_and, and_true, false_and, and_false, true_or, or_true, false_or, or_false, not_true_eq_false, not_false_eq_true, ne_eq] at *) <;> omega
theorem lb_59 (p0 : Int32) (p1 : Int32) (r_4 : Int32) (w_2 : gb_days p0 p1) (w_5 : (r_4 = 1 ∧ p0 ≤ (0 : Int32) ∧ (0 : Int32) ≤ p1) ∨ (r_4 = 0 ∧ ¬ (p0 ≤ (0 : Int32) ∧ (0 : Int32) ≤ p1))) : r_4 = 0 ∨ r_4 = 1 := by
  (try simp only [sp_hunger, sp_setCut, sp_setWarm, sp_setFrost, sp_setPeople, sp_stock, sp_changed, sp_fill, sp_pass, gb_okD, gb_okG, gb_okW, gb_days, gb_in, gb_lt, gb_le, gb_eq, gb_l0, gb_l1, gb_l2, gb_l3, gb_l4, gb_l5, gb_l10, gb_l19, gb_l20, gb_l40, gb_l60, gb_l1000, gb_l1500, gb_lm1, gb_l65536, true_and, and_true, false_and, and_false, true_or, or_true, false_or, or_false, not_true_eq_false, not_false_eq_true, ne_eq] at *) <;> omega
set_option maxHeartbeats 4000000 in
set_option maxRecDepth 100000 in
theorem c_X5_setFrost (l : Launch) (hl9 : l.stackTraces = false) (kS : Nat → Nat) (tE : Nat) (dC : Nat → ClassId) (dI : Nat → Nat → Nat) (sz : Nat) (q : Nat → Nat) (cO : ClassId) (cO2 : ClassId) (m4 : Int32) (m3 : Int32) (p0 : Int32) (p1 : Int32) : vx_Met l yX5_setFrost wsX5_setFrost ({ frames := 8, cells := 2, slots := 12, locals := 125 }) (va_Pc [.ref (q 0), .int p0, .int p1] (gb_Pw kS tE (va_A [(q 0, .inr (6, [.ref (q 1), .ref (q 2), .ref (q 3), .ref (q 4), .ref (q 5), .int 0, .int 0])), (q 1, .inr (0, [.int m4, .ref (q 6), .int 4])), (q 2, .inr (0, [.int 0, .ref tE, .int 0])), (q 3, .inr (0, [.int m3, .ref (q 7), .int 3])), (q 4, .inr (0, [.int 0, .ref tE, .int 0])), (q 5, .inr (1, [.int 0, .int (-1)])), (q 6, .inl (cO, 10, .inr (.inr (.inr (.inr (va_up (va_up (va_up (va_up (fun _ => none) (0 : Int32).toNatClampNeg (some (q 8))) (1 : Int32).toNatClampNeg (some (q 9))) (2 : Int32).toNatClampNeg (some (q 10))) (3 : Int32).toNatClampNeg (some (q 11)))))))), (q 7, .inl (cO2, 10, .inr (.inr (.inr (.inr (va_up (va_up (va_up (fun _ => none) (0 : Int32).toNatClampNeg (some (q 16))) (1 : Int32).toNatClampNeg (some (q 17))) (2 : Int32).toNatClampNeg (some (q 18)))))))), (q 8, .inr (2, [.int 0, .ref (q 12), .int 1])), (q 9, .inr (2, [.int 1, .ref (q 13), .int 0])), (q 10, .inr (2, [.int 2, .ref (q 14), .int 0])), (q 11, .inr (2, [.int 3, .ref (q 15), .int 0])), (q 12, .inr (1, [.int 0, .int (-1)])), (q 13, .inr (1, [.int 0, .int (-1)])), (q 14, .inr (1, [.int 0, .int (-1)])), (q 15, .inr (1, [.int 0, .int (-1)])), (q 16, .inr (5, [.int 2, .int 0, .int 0, .int 0])), (q 17, .inr (5, [.int 3, .int 0, .int 0, .int 0])), (q 18, .inr (5, [.int 4, .int 0, .int 0, .int 0]))] sz) (dC, dI) [(cO, .object "java/lang/Object"), (cO2, .object "java/lang/Object")] [(q 0, .inr (6, [.ref (q 1), .ref (q 2), .ref (q 3), .ref (q 4), .ref (q 5), .int 0, .int 0])), (q 1, .inr (0, [.int m4, .ref (q 6), .int 4])), (q 2, .inr (0, [.int 0, .ref tE, .int 0])), (q 3, .inr (0, [.int m3, .ref (q 7), .int 3])), (q 4, .inr (0, [.int 0, .ref tE, .int 0])), (q 5, .inr (1, [.int 0, .int (-1)])), (q 6, .inl (cO, 10, .inr (.inr (.inr (.inr (va_up (va_up (va_up (va_up (fun _ => none) (0 : Int32).toNatClampNeg (some (q 8))) (1 : Int32).toNatClampNeg (some (q 9))) (2 : Int32).toNatClampNeg (some (q 10))) (3 : Int32).toNatClampNeg (some (q 11)))))))), (q 7, .inl (cO2, 10, .inr (.inr (.inr (.inr (va_up (va_up (va_up (fun _ => none) (0 : Int32).toNatClampNeg (some (q 16))) (1 : Int32).toNatClampNeg (some (q 17))) (2 : Int32).toNatClampNeg (some (q 18)))))))), (q 8, .inr (2, [.int 0, .ref (q 12), .int 1])), (q 9, .inr (2, [.int 1, .ref (q 13), .int 0])), (q 10, .inr (2, [.int 2, .ref (q 14), .int 0])), (q 11, .inr (2, [.int 3, .ref (q 15), .int 0])), (q 12, .inr (1, [.int 0, .int (-1)])), (q 13, .inr (1, [.int 0, .int (-1)])), (q 14, .inr (1, [.int 0, .int (-1)])), (q 15, .inr (1, [.int 0, .int (-1)])), (q 16, .inr (5, [.int 2, .int 0, .int 0, .int 0])), (q 17, .inr (5, [.int 3, .int 0, .int 0, .int 0])), (q 18, .inr (5, [.int 4, .int 0, .int 0, .int 0]))] sz)) (va_Qi (fun (r : Int32) (_ : Unit) => sp_setFrost p0 p1 0 r) (fun _ _ => True) (va_A [(q 0, .inr (6, [.ref (q 1), .ref (q 2), .ref (q 3), .ref (q 4), .ref (q 5), .int 0, .int 0])), (q 1, .inr (0, [.int m4, .ref (q 6), .int 4])), (q 2, .inr (0, [.int 0, .ref tE, .int 0])), (q 3, .inr (0, [.int m3, .ref (q 7), .int 3])), (q 4, .inr (0, [.int 0, .ref tE, .int 0])), (q 5, .inr (1, [.int 0, .int (-1)])), (q 6, .inl (cO, 10, .inr (.inr (.inr (.inr (va_up (va_up (va_up (va_up (fun _ => none) (0 : Int32).toNatClampNeg (some (q 8))) (1 : Int32).toNatClampNeg (some (q 9))) (2 : Int32).toNatClampNeg (some (q 10))) (3 : Int32).toNatClampNeg (some (q 11)))))))), (q 7, .inl (cO2, 10, .inr (.inr (.inr (.inr (va_up (va_up (va_up (fun _ => none) (0 : Int32).toNatClampNeg (some (q 16))) (1 : Int32).toNatClampNeg (some (q 17))) (2 : Int32).toNatClampNeg (some (q 18)))))))), (q 8, .inr (2, [.int 0, .ref (q 12), .int 1])), (q 9, .inr (2, [.int 1, .ref (q 13), .int 0])), (q 10, .inr (2, [.int 2, .ref (q 14), .int 0])), (q 11, .inr (2, [.int 3, .ref (q 15), .int 0])), (q 12, .inr (1, [.int 0, .int (-1)])), (q 13, .inr (1, [.int 0, .int (-1)])), (q 14, .inr (1, [.int 0, .int (-1)])), (q 15, .inr (1, [.int 0, .int (-1)])), (q 16, .inr (5, [.int 2, .int 0, .int 0, .int 0])), (q 17, .inr (5, [.int 3, .int 0, .int 0, .int 0])), (q 18, .inr (5, [.int 4, .int 0, .int 0, .int 0]))] sz)) (vx_X (fun _ : Unit => True) (fun E _ _ => (E = "java/lang/IllegalArgumentException" ∧ (sp_setFrost p0 p1 1 0))) (va_A [(q 0, .inr (6, [.ref (q 1), .ref (q 2), .ref (q 3), .ref (q 4), .ref (q 5), .int 0, .int 0])), (q 1, .inr (0, [.int m4, .ref (q 6), .int 4])), (q 2, .inr (0, [.int 0, .ref tE, .int 0])), (q 3, .inr (0, [.int m3, .ref (q 7), .int 3])), (q 4, .inr (0, [.int 0, .ref tE, .int 0])), (q 5, .inr (1, [.int 0, .int (-1)])), (q 6, .inl (cO, 10, .inr (.inr (.inr (.inr (va_up (va_up (va_up (va_up (fun _ => none) (0 : Int32).toNatClampNeg (some (q 8))) (1 : Int32).toNatClampNeg (some (q 9))) (2 : Int32).toNatClampNeg (some (q 10))) (3 : Int32).toNatClampNeg (some (q 11)))))))), (q 7, .inl (cO2, 10, .inr (.inr (.inr (.inr (va_up (va_up (va_up (fun _ => none) (0 : Int32).toNatClampNeg (some (q 16))) (1 : Int32).toNatClampNeg (some (q 17))) (2 : Int32).toNatClampNeg (some (q 18)))))))), (q 8, .inr (2, [.int 0, .ref (q 12), .int 1])), (q 9, .inr (2, [.int 1, .ref (q 13), .int 0])), (q 10, .inr (2, [.int 2, .ref (q 14), .int 0])), (q 11, .inr (2, [.int 3, .ref (q 15), .int 0])), (q 12, .inr (1, [.int 0, .int (-1)])), (q 13, .inr (1, [.int 0, .int (-1)])), (q 14, .inr (1, [.int 0, .int (-1)])), (q 15, .inr (1, [.int 0, .int (-1)])), (q 16, .inr (5, [.int 2, .int 0, .int 0, .int 0])), (q 17, .inr (5, [.int 3, .int 0, .int 0, .int 0])), (q 18, .inr (5, [.int 4, .int 0, .int 0, .int 0]))] sz)) 2 12 (va_A [(q 0, .inr (6, [.ref (q 1), .ref (q 2), .ref (q 3), .ref (q 4), .ref (q 5), .int 0, .int 0])), (q 1, .inr (0, [.int m4, .ref (q 6), .int 4])), (q 2, .inr (0, [.int 0, .ref tE, .int 0])), (q 3, .inr (0, [.int m3, .ref (q 7), .int 3])), (q 4, .inr (0, [.int 0, .ref tE, .int 0])), (q 5, .inr (1, [.int 0, .int (-1)])), (q 6, .inl (cO, 10, .inr (.inr (.inr (.inr (va_up (va_up (va_up (va_up (fun _ => none) (0 : Int32).toNatClampNeg (some (q 8))) (1 : Int32).toNatClampNeg (some (q 9))) (2 : Int32).toNatClampNeg (some (q 10))) (3 : Int32).toNatClampNeg (some (q 11)))))))), (q 7, .inl (cO2, 10, .inr (.inr (.inr (.inr (va_up (va_up (va_up (fun _ => none) (0 : Int32).toNatClampNeg (some (q 16))) (1 : Int32).toNatClampNeg (some (q 17))) (2 : Int32).toNatClampNeg (some (q 18)))))))), (q 8, .inr (2, [.int 0, .ref (q 12), .int 1])), (q 9, .inr (2, [.int 1, .ref (q 13), .int 0])), (q 10, .inr (2, [.int 2, .ref (q 14), .int 0])), (q 11, .inr (2, [.int 3, .ref (q 15), .int 0])), (q 12, .inr (1, [.int 0, .int (-1)])), (q 13, .inr (1, [.int 0, .int (-1)])), (q 14, .inr (1, [.int 0, .int (-1)])), (q 15, .inr (1, [.int 0, .int (-1)])), (q 16, .inr (5, [.int 2, .int 0, .int 0, .int 0])), (q 17, .inr (5, [.int 3, .int 0, .int 0, .int 0])), (q 18, .inr (5, [.int 4, .int 0, .int 0, .int 0]))] sz) := by
  refine vx_ofW (cc := cX5_setFrost) (maxL := 3) (ret := (some .boolean)) (by decide) rfl ?_
  intro p e s m args below meth c s₁ B hml hno hv
  obtain ⟨rfl, hsz, hZT, hZ, hP, hK, hD0⟩ := hv
  have hx := B.exec
  have hb := B.bytes
  have hr := B.returns
  have hts := atoms_spec (ws := wsX5_setFrost) B.pre
  have hown : s.vm.findClass RX5 = some m.cls := findClass_of_methodNamed B.named
  have hlocks := B.notSynchronized
  subst hsz
  have hi6 : ∀ w ∈ u_ws RX5 TX5 7, w ∈ wsX5_setFrost := by decide +kernel
  have hD := hD0.self (sz := s.heap.size)
  generalize hAe : va_A [(q 0, .inr (6, [.ref (q 1), .ref (q 2), .ref (q 3), .ref (q 4), .ref (q 5), .int 0, .int 0])), (q 1, .inr (0, [.int m4, .ref (q 6), .int 4])), (q 2, .inr (0, [.int 0, .ref tE, .int 0])), (q 3, .inr (0, [.int m3, .ref (q 7), .int 3])), (q 4, .inr (0, [.int 0, .ref tE, .int 0])), (q 5, .inr (1, [.int 0, .int (-1)])), (q 6, .inl (cO, 10, .inr (.inr (.inr (.inr (va_up (va_up (va_up (va_up (fun _ => none) (0 : Int32).toNatClampNeg (some (q 8))) (1 : Int32).toNatClampNeg (some (q 9))) (2 : Int32).toNatClampNeg (some (q 10))) (3 : Int32).toNatClampNeg (some (q 11)))))))), (q 7, .inl (cO2, 10, .inr (.inr (.inr (.inr (va_up (va_up (va_up (fun _ => none) (0 : Int32).toNatClampNeg (some (q 16))) (1 : Int32).toNatClampNeg (some (q 17))) (2 : Int32).toNatClampNeg (some (q 18)))))))), (q 8, .inr (2, [.int 0, .ref (q 12), .int 1])), (q 9, .inr (2, [.int 1, .ref (q 13), .int 0])), (q 10, .inr (2, [.int 2, .ref (q 14), .int 0])), (q 11, .inr (2, [.int 3, .ref (q 15), .int 0])), (q 12, .inr (1, [.int 0, .int (-1)])), (q 13, .inr (1, [.int 0, .int (-1)])), (q 14, .inr (1, [.int 0, .int (-1)])), (q 15, .inr (1, [.int 0, .int (-1)])), (q 16, .inr (5, [.int 2, .int 0, .int 0, .int 0])), (q 17, .inr (5, [.int 3, .int 0, .int 0, .int 0])), (q 18, .inr (5, [.int 4, .int 0, .int 0, .int 0]))] s.heap.size = A at hZ hD ⊢
  have hA : ∀ q : Nat, s.heap.size ≤ q → A q := fun q h => by rw [← hAe]; exact Or.inr h
  have hS : va_S A s.heap s.heap [] := va_S.rf
  have hP : va_P (dC, dI) vwCl [(q 0, .inr (6, [.ref (q 1), .ref (q 2), .ref (q 3), .ref (q 4), .ref (q 5), .int 0, .int 0])), (q 1, .inr (0, [.int m4, .ref (q 6), .int 4])), (q 2, .inr (0, [.int 0, .ref tE, .int 0])), (q 3, .inr (0, [.int m3, .ref (q 7), .int 3])), (q 4, .inr (0, [.int 0, .ref tE, .int 0])), (q 5, .inr (1, [.int 0, .int (-1)])), (q 6, .inl (cO, 10, .inr (.inr (.inr (.inr (va_up (va_up (va_up (va_up (fun _ => none) (0 : Int32).toNatClampNeg (some (q 8))) (1 : Int32).toNatClampNeg (some (q 9))) (2 : Int32).toNatClampNeg (some (q 10))) (3 : Int32).toNatClampNeg (some (q 11)))))))), (q 7, .inl (cO2, 10, .inr (.inr (.inr (.inr (va_up (va_up (va_up (fun _ => none) (0 : Int32).toNatClampNeg (some (q 16))) (1 : Int32).toNatClampNeg (some (q 17))) (2 : Int32).toNatClampNeg (some (q 18)))))))), (q 8, .inr (2, [.int 0, .ref (q 12), .int 1])), (q 9, .inr (2, [.int 1, .ref (q 13), .int 0])), (q 10, .inr (2, [.int 2, .ref (q 14), .int 0])), (q 11, .inr (2, [.int 3, .ref (q 15), .int 0])), (q 12, .inr (1, [.int 0, .int (-1)])), (q 13, .inr (1, [.int 0, .int (-1)])), (q 14, .inr (1, [.int 0, .int (-1)])), (q 15, .inr (1, [.int 0, .int (-1)])), (q 16, .inr (5, [.int 2, .int 0, .int 0, .int 0])), (q 17, .inr (5, [.int 3, .int 0, .int 0, .int 0])), (q 18, .inr (5, [.int 4, .int 0, .int 0, .int 0]))] s.heap := hP
  have hl := lv_entry ([.ref (q 0), .int p0, .int p1]) (n := 3) (Nat.le_of_ble_eq_true rfl)
  rw [lg_entry_eq]
  generalize (lg_sl ([.ref (q 0), .int p0, .int p1]) ++ List.replicate (3 - (lg_sl ([.ref (q 0), .int p0, .int p1])).length) Slot.unset).toArray = ls at hl ⊢
  have hl : lv_has ls 3 [(0, .ref (q 0)), (1, .int p0), (2, .int p1)] := hl
  refine lv_iload_n hx hb dX5_setFrost_0 rfl (lv_at hl 1 rfl) ?_
  refine lv_iload_n hx hb dX5_setFrost_1 rfl (lv_at hl 2 rfl) ?_
  have hPc := hP.sub (ws' := []) [] rfl
  have hDc := hD.sub (ws' := []) [] (by decide) rfl
  have hKc := hK.sub (tys' := []) [] rfl
  have hFc := gb_free hA hS
  refine vx_callv (vx_runS (As := [.int p0, .int p1]) (rest := []) ⟨hx, hb, hml, hown, hts⟩ (c_X5_requireDays l hl9 kS tE dC dI s.heap.size p0 p1) (va_cwS 2 hts gX5_setFrost_X5_requireDays rfl rfl rfl (by decide +kernel) ⟨Nat.le_of_ble_eq_true rfl, Nat.le_of_ble_eq_true rfl⟩) (gb_preS hZT hZ hS hFc hPc hDc hKc) rfl rfl hl.1 rfl (lv_room (Nat.le_of_ble_eq_true rfl)) dX5_setFrost_2 ⟨Nat.le_of_ble_eq_true rfl, Nat.le_of_ble_eq_true rfl⟩) hS (fun q _ h => hFc q h) hFc (fun q _ h => hFc q h) (fun E9 ce q9 u t H locs ht hvm hw hB hz1 hk1 hS hce hcv hcl => ?_) (fun u t H locs ht hvm hw hB hz1 hk1 hS => ?_)
  · obtain ⟨rfl, hq0⟩ := hB
    exact vx_out (fun x h9 => (hno x h9).elim) hlocks hce hcv hcl (fun t ht ha => ⟨(), trivial, ⟨rfl, (lb_57 p0 p1 hq0)⟩, hS.F ht⟩) hS.2.2 (Nat.le_of_ble_eq_true rfl) (Nat.le_of_ble_eq_true rfl)
  · have w_2 := hw
    have hP := gb_keep hP hk1
    refine lv_aload_n hx hb dX5_setFrost_5 rfl (lv_at hl 0 rfl) ?_
    refine va_get (D := (dC, dI)) (ci := 6) (v := .ref (q 5)) (C := RX5) (T := TX5) (N := 7) hx hb hts hi6 hown hK hP 0 rfl rfl 4 (by decide) (hts (.fieldLink RX5 28 "GlacierBook" "frost" "LGlacierBook$Days;") (by decide +kernel)) (fun _ h9 => h9) rfl dX5_setFrost_6 ?_
    refine lv_iload_n hx hb dX5_setFrost_9 rfl (lv_at hl 1 rfl) ?_
    refine lv_iload_n hx hb dX5_setFrost_10 rfl (lv_at hl 2 rfl) ?_
    have hPc := hP.sub (ws' := [(q 5, .inr (1, [.int 0, .int (-1)]))]) [5] rfl
    have hDc := hD.sub (ws' := [(q 5, .inr (1, [.int 0, .int (-1)]))]) [5] (by decide) rfl
    have hKc := hK.sub (tys' := []) [] rfl
    have hFc := va_free (wc := [(q 5, .inr (1, [.int 0, .int (-1)]))]) hD hS hA [5] rfl
    refine va_callv (va_runV (As := [.int p0, .int p1]) (rest := []) ⟨hx, hb, hml, hown, hts⟩ (c_X0_become l hl9 kS tE dC dI H.size (q 5) (0 : Int32) ((-1) : Int32) p0 p1) (cwV 2 hts gX5_setFrost_X0_become rfl rfl rfl (by decide +kernel) ⟨Nat.le_of_ble_eq_true rfl, Nat.le_of_ble_eq_true rfl⟩) (gb_preV hZT hZ hS hFc hPc hDc hKc (va_recv hK hP (ci := 1) (q0 := 5) rfl rfl)) rfl rfl hl.1 rfl (lv_room (Nat.le_of_ble_eq_true rfl)) dX5_setFrost_11 ⟨Nat.le_of_ble_eq_true rfl, Nat.le_of_ble_eq_true rfl⟩) hS (fun q _ h => hFc q h) hFc (fun u t H locs ht hvm hw hB hz1 hk1 hS => ?_)
    obtain ⟨hP1, hK1, hD1⟩ := hB
    rw [ht] at hP1
    have hK1 := va_K.moved hvm.symm hK1
    obtain ⟨hP, hD⟩ := va_join (wr := [(q 0, .inr (6, [.ref (q 1), .ref (q 2), .ref (q 3), .ref (q 4), .ref (q 5), .int 0, .int 0])), (q 1, .inr (0, [.int m4, .ref (q 6), .int 4])), (q 2, .inr (0, [.int 0, .ref tE, .int 0])), (q 3, .inr (0, [.int m3, .ref (q 7), .int 3])), (q 4, .inr (0, [.int 0, .ref tE, .int 0])), (q 6, .inl (cO, 10, .inr (.inr (.inr (.inr (va_up (va_up (va_up (va_up (fun _ => none) (0 : Int32).toNatClampNeg (some (q 8))) (1 : Int32).toNatClampNeg (some (q 9))) (2 : Int32).toNatClampNeg (some (q 10))) (3 : Int32).toNatClampNeg (some (q 11)))))))), (q 7, .inl (cO2, 10, .inr (.inr (.inr (.inr (va_up (va_up (va_up (fun _ => none) (0 : Int32).toNatClampNeg (some (q 16))) (1 : Int32).toNatClampNeg (some (q 17))) (2 : Int32).toNatClampNeg (some (q 18)))))))), (q 8, .inr (2, [.int 0, .ref (q 12), .int 1])), (q 9, .inr (2, [.int 1, .ref (q 13), .int 0])), (q 10, .inr (2, [.int 2, .ref (q 14), .int 0])), (q 11, .inr (2, [.int 3, .ref (q 15), .int 0])), (q 12, .inr (1, [.int 0, .int (-1)])), (q 13, .inr (1, [.int 0, .int (-1)])), (q 14, .inr (1, [.int 0, .int (-1)])), (q 15, .inr (1, [.int 0, .int (-1)])), (q 16, .inr (5, [.int 2, .int 0, .int 0, .int 0])), (q 17, .inr (5, [.int 3, .int 0, .int 0, .int 0])), (q 18, .inr (5, [.int 4, .int 0, .int 0, .int 0]))]) (w1 := [(q 5, .inr (1, [.int p0, .int p1]))]) hP hD [5] [0, 1, 2, 3, 4, 6, 7, 8, 9, 10, 11, 12, 13, 14, 15, 16, 17, 18] rfl rfl (by decide) (by decide) hk1 hFc hP1 hD1
    have hP : va_P (dC, dI) vwCl [(q 0, .inr (6, [.ref (q 1), .ref (q 2), .ref (q 3), .ref (q 4), .ref (q 5), .int 0, .int 0])), (q 1, .inr (0, [.int m4, .ref (q 6), .int 4])), (q 2, .inr (0, [.int 0, .ref tE, .int 0])), (q 3, .inr (0, [.int m3, .ref (q 7), .int 3])), (q 4, .inr (0, [.int 0, .ref tE, .int 0])), (q 6, .inl (cO, 10, .inr (.inr (.inr (.inr (va_up (va_up (va_up (va_up (fun _ => none) (0 : Int32).toNatClampNeg (some (q 8))) (1 : Int32).toNatClampNeg (some (q 9))) (2 : Int32).toNatClampNeg (some (q 10))) (3 : Int32).toNatClampNeg (some (q 11)))))))), (q 7, .inl (cO2, 10, .inr (.inr (.inr (.inr (va_up (va_up (va_up (fun _ => none) (0 : Int32).toNatClampNeg (some (q 16))) (1 : Int32).toNatClampNeg (some (q 17))) (2 : Int32).toNatClampNeg (some (q 18)))))))), (q 8, .inr (2, [.int 0, .ref (q 12), .int 1])), (q 9, .inr (2, [.int 1, .ref (q 13), .int 0])), (q 10, .inr (2, [.int 2, .ref (q 14), .int 0])), (q 11, .inr (2, [.int 3, .ref (q 15), .int 0])), (q 12, .inr (1, [.int 0, .int (-1)])), (q 13, .inr (1, [.int 0, .int (-1)])), (q 14, .inr (1, [.int 0, .int (-1)])), (q 15, .inr (1, [.int 0, .int (-1)])), (q 16, .inr (5, [.int 2, .int 0, .int 0, .int 0])), (q 17, .inr (5, [.int 3, .int 0, .int 0, .int 0])), (q 18, .inr (5, [.int 4, .int 0, .int 0, .int 0])), (q 5, .inr (1, [.int p0, .int p1]))] H := hP
    have hD : va_D A [(q 0, .inr (6, [.ref (q 1), .ref (q 2), .ref (q 3), .ref (q 4), .ref (q 5), .int 0, .int 0])), (q 1, .inr (0, [.int m4, .ref (q 6), .int 4])), (q 2, .inr (0, [.int 0, .ref tE, .int 0])), (q 3, .inr (0, [.int m3, .ref (q 7), .int 3])), (q 4, .inr (0, [.int 0, .ref tE, .int 0])), (q 6, .inl (cO, 10, .inr (.inr (.inr (.inr (va_up (va_up (va_up (va_up (fun _ => none) (0 : Int32).toNatClampNeg (some (q 8))) (1 : Int32).toNatClampNeg (some (q 9))) (2 : Int32).toNatClampNeg (some (q 10))) (3 : Int32).toNatClampNeg (some (q 11)))))))), (q 7, .inl (cO2, 10, .inr (.inr (.inr (.inr (va_up (va_up (va_up (fun _ => none) (0 : Int32).toNatClampNeg (some (q 16))) (1 : Int32).toNatClampNeg (some (q 17))) (2 : Int32).toNatClampNeg (some (q 18)))))))), (q 8, .inr (2, [.int 0, .ref (q 12), .int 1])), (q 9, .inr (2, [.int 1, .ref (q 13), .int 0])), (q 10, .inr (2, [.int 2, .ref (q 14), .int 0])), (q 11, .inr (2, [.int 3, .ref (q 15), .int 0])), (q 12, .inr (1, [.int 0, .int (-1)])), (q 13, .inr (1, [.int 0, .int (-1)])), (q 14, .inr (1, [.int 0, .int (-1)])), (q 15, .inr (1, [.int 0, .int (-1)])), (q 16, .inr (5, [.int 2, .int 0, .int 0, .int 0])), (q 17, .inr (5, [.int 3, .int 0, .int 0, .int 0])), (q 18, .inr (5, [.int 4, .int 0, .int 0, .int 0])), (q 5, .inr (1, [.int p0, .int p1]))] := hD
    refine lv_aload_n hx hb dX5_setFrost_14 rfl (lv_at hl 0 rfl) ?_
    refine va_get (D := (dC, dI)) (ci := 6) (v := .ref (q 5)) (C := RX5) (T := TX5) (N := 7) hx hb hts hi6 hown hK hP 0 rfl rfl 4 (by decide) (hts (.fieldLink RX5 28 "GlacierBook" "frost" "LGlacierBook$Days;") (by decide +kernel)) (fun _ h9 => h9) rfl dX5_setFrost_15 ?_
    refine lv_aload_n hx hb dX5_setFrost_18 rfl (lv_at hl 0 rfl) ?_
    refine va_get (D := (dC, dI)) (ci := 6) (v := .int 0) (C := RX5) (T := TX5) (N := 7) hx hb hts hi6 hown hK hP 0 rfl rfl 5 (by decide) (hts (.fieldLink RX5 32 "GlacierBook" "day" "I") (by decide +kernel)) (fun _ h9 => h9) rfl dX5_setFrost_19 ?_
    have hPc := hP.sub (ws' := [(q 5, .inr (1, [.int p0, .int p1]))]) [18] rfl
    have hDc := hD.sub (ws' := [(q 5, .inr (1, [.int p0, .int p1]))]) [18] (by decide) rfl
    have hKc := hK.sub (tys' := []) [] rfl
    have hFc := gb_free hA hS
    refine va_calli (va_runV (As := [.int 0]) (rest := []) ⟨hx, hb, hml, hown, hts⟩ (c_X0_include l hl9 kS tE dC dI H.size (q 5) p0 p1 (0 : Int32)) (cwV 1 hts gX5_setFrost_X0_include rfl rfl rfl (by decide +kernel) ⟨Nat.le_of_ble_eq_true rfl, Nat.le_of_ble_eq_true rfl⟩) (gb_preV hZT hZ hS hFc hPc hDc hKc (va_recv hK hP (ci := 1) (q0 := 18) rfl rfl)) rfl rfl hl.1 rfl (lv_room (Nat.le_of_ble_eq_true rfl)) dX5_setFrost_22 ⟨Nat.le_of_ble_eq_true rfl, Nat.le_of_ble_eq_true rfl⟩) hS (fun q _ h => hFc q h) hFc (fun r_4 u t H locs ht hvm hw hB hz1 hk1 hS => ?_)
    have hP := gb_keep hP hk1
    have w_5 := hw
    refine vx_ret ?_
    refine W.widen (k := 2) (n := 12) (Nat.le_of_ble_eq_true rfl) (Nat.le_of_ble_eq_true rfl) ?_
    exact W.zret (v := r_4) hx hb hr (gb_nb (lb_59 p0 p1 r_4 w_2 w_5)) (fun t ht hW => ⟨⟨r_4, (), rfl, (lb_58 p0 p1 r_4 w_2 w_5), trivial⟩, hS.F ht⟩) hS.2.2 dX5_setFrost_25

theorem lb_60 (p0 : Int32) (p1 : Int32) (hq0 : p0 < 0 ∨ ¬ p0 < 3) : sp_setPeople p0 p1 1 0 := by
  (try simp only [sp_hunger, sp_setCut, sp_setWarm, sp_setFrost, sp_setPeople, sp_stock, sp_changed, sp_fill, sp_pass, gb_okD, gb_okG, gb_okW, gb_days, gb_in, gb_lt, gb_le, gb_eq, gb_l0, gb_l1, gb_l2, gb_l3, gb_l4, gb_l5, gb_l10, gb_l19, gb_l20, gb_l40, gb_l60, gb_l1000, gb_l1500, gb_lm1, gb_l65536, true_and, and_true, false_and, and_false, true_or, or_true, false_or, or_false, not_true_eq_false, not_false_eq_true, ne_eq] at *) <;> omega
theorem lb_61 (p0 : Int32) (p1 : Int32) (w_2 : ¬ p0 < 0 ∧ p0 < 3) (hq0 : p1 < (0 : Int32) ∨ ¬ p1 ≤ (20 : Int32)) : sp_setPeople p0 p1 2 0 := by
  (try simp only [sp_hunger, sp_setCut, sp_setWarm, sp_setFrost, sp_setPeople, sp_stock, sp_changed, sp_fill, sp_pass, gb_okD, gb_okG, gb_okW, gb_days, gb_in, gb_lt, gb_le, gb_eq, gb_l0, gb_l1, gb_l2, gb_l3, gb_l4, gb_l5, gb_l10, gb_l19, gb_l20, gb_l40, gb_l60, gb_l1000, gb_l1500, gb_lm1, gb_l65536, true_and, and_true, false_and, and_false, true_or, or_true, false_or, or_false, not_true_eq_false, not_false_eq_true, ne_eq] at *) <;> omega
theorem lb_62 (p0 : Int32) (p1 : Int32) (w_2 : ¬ p0 < 0 ∧ p0 < 3) (w_4 : ¬ p1 < (0 : Int32) ∧ p1 ≤ (20 : Int32)) : ¬ p0 < 0 ∧ p0 < 3 := by
  (try simp only [sp_hunger, sp_setCut, sp_setWarm, sp_setFrost, sp_setPeople, sp_stock, sp_changed, sp_fill, sp_pass, gb_okD, gb_okG, gb_okW, gb_days, gb_in, gb_lt, gb_le, gb_eq, gb_l0, gb_l1, gb_l2, gb_l3, gb_l4, gb_l5, gb_l10, gb_l19, gb_l20, gb_l40, gb_l60, gb_l1000, gb_l1500, gb_lm1, gb_l65536, true_and, and_true, false_and, and_false, true_or, or_true, false_or, or_false, not_true_eq_false, not_false_eq_true, ne_eq] at *) <;> omega
theorem lb_63 (p0 : Int32) (p1 : Int32) (w_2 : ¬ p0 < 0 ∧ p0 < 3) (w_4 : ¬ p1 < (0 : Int32) ∧ p1 ≤ (20 : Int32)) : ¬ p0 < 0 := by
  (try simp only [sp_hunger, sp_setCut, sp_setWarm, sp_setFrost, sp_setPeople, sp_stock, sp_changed, sp_fill, sp_pass, gb_okD, gb_okG, gb_okW, gb_days, gb_in, gb_lt, gb_le, gb_eq, gb_l0, gb_l1, gb_l2, gb_l3, gb_l4, gb_l5, gb_l10, gb_l19, gb_l20, gb_l40, gb_l60, gb_l1000, gb_l1500, gb_lm1, gb_l65536, true_and, and_true, false_and, and_false, true_or, or_true, false_or, or_false, not_true_eq_false, not_false_eq_true, ne_eq] at *) <;> omega
theorem lb_64 (p0 : Int32) (p1 : Int32) (w_2 : ¬ p0 < 0 ∧ p0 < 3) (w_4 : ¬ p1 < (0 : Int32) ∧ p1 ≤ (20 : Int32)) : p0 < (3 : Int32) := by
  (try simp only [sp_hunger, sp_setCut, sp_setWarm, sp_setFrost, sp_setPeople, sp_stock, sp_changed, sp_fill, sp_pass, gb_okD, gb_okG, gb_okW, gb_days, gb_in, gb_lt, gb_le, gb_eq, gb_l0, gb_l1, gb_l2, gb_l3, gb_l4, gb_l5, gb_l10, gb_l19, gb_l20, gb_l40, gb_l60, gb_l1000, gb_l1500, gb_lm1, gb_l65536, true_and, and_true, false_and, and_false, true_or, or_true, false_or, or_false, not_true_eq_false, not_false_eq_true, ne_eq] at *) <;> omega
theorem lb_65 (p0 : Int32) (p1 : Int32) (w_2 : ¬ p0 < 0 ∧ p0 < 3) (w_4 : ¬ p1 < (0 : Int32) ∧ p1 ≤ (20 : Int32)) : sp_setPeople p0 p1 0 (0 : Int32) := by
  (try simp only [sp_hunger, sp_setCut, sp_setWarm, sp_setFrost, sp_setPeople, sp_stock, sp_changed, sp_fill, sp_pass, gb_okD, gb_okG, gb_okW, gb_days, gb_in, gb_lt, gb_le, gb_eq, gb_l0, gb_l1, gb_l2, gb_l3, gb_l4, gb_l5, gb_l10, gb_l19, gb_l20, gb_l40, gb_l60, gb_l1000, gb_l1500, gb_lm1, gb_l65536, true_and, and_true, false_and, and_false, true_or, or_true, false_or, or_false, not_true_eq_false, not_false_eq_true, ne_eq] at *) <;> omega
set_option maxHeartbeats 4000000 in
set_option maxRecDepth 100000 in
theorem c_X5_setPeople (l : Launch) (hl9 : l.stackTraces = false) (kS : Nat → Nat) (tE : Nat) (dC : Nat → ClassId) (dI : Nat → Nat → Nat) (sz : Nat) (q : Nat → Nat) (cO : ClassId) (cO2 : ClassId) (m4 : Int32) (m3 : Int32) (dv : Int32) (p0 : Int32) (p1 : Int32) : vx_Met l yX5_setPeople wsX5_setPeople ({ frames := 8, cells := 2, slots := 12, locals := 124 }) (va_Pc [.ref (q 0), .int p0, .int p1] (gb_Pw kS tE (va_A [(q 0, .inr (6, [.ref (q 1), .ref (q 2), .ref (q 3), .ref (q 4), .ref (q 5), .int dv, .int 0])), (q 1, .inr (0, [.int m4, .ref (q 6), .int 4])), (q 2, .inr (0, [.int 0, .ref tE, .int 0])), (q 3, .inr (0, [.int m3, .ref (q 7), .int 3])), (q 4, .inr (0, [.int 0, .ref tE, .int 0])), (q 5, .inr (1, [.int 0, .int (-1)])), (q 6, .inl (cO, 10, .inr (.inr (.inr (.inr (va_up (va_up (va_up (va_up (fun _ => none) (0 : Int32).toNatClampNeg (some (q 8))) (1 : Int32).toNatClampNeg (some (q 9))) (2 : Int32).toNatClampNeg (some (q 10))) (3 : Int32).toNatClampNeg (some (q 11)))))))), (q 7, .inl (cO2, 10, .inr (.inr (.inr (.inr (va_up (va_up (va_up (fun _ => none) (0 : Int32).toNatClampNeg (some (q 16))) (1 : Int32).toNatClampNeg (some (q 17))) (2 : Int32).toNatClampNeg (some (q 18)))))))), (q 8, .inr (2, [.int 0, .ref (q 12), .int 1])), (q 9, .inr (2, [.int 1, .ref (q 13), .int 0])), (q 10, .inr (2, [.int 2, .ref (q 14), .int 0])), (q 11, .inr (2, [.int 3, .ref (q 15), .int 0])), (q 12, .inr (1, [.int 0, .int (-1)])), (q 13, .inr (1, [.int 0, .int (-1)])), (q 14, .inr (1, [.int 0, .int (-1)])), (q 15, .inr (1, [.int 0, .int (-1)])), (q 16, .inr (5, [.int 2, .int 0, .int 0, .int 0])), (q 17, .inr (5, [.int 3, .int 0, .int 0, .int 0])), (q 18, .inr (5, [.int 4, .int 0, .int 0, .int 0]))] sz) (dC, dI) [(cO, .object "java/lang/Object"), (cO2, .object "java/lang/Object")] [(q 0, .inr (6, [.ref (q 1), .ref (q 2), .ref (q 3), .ref (q 4), .ref (q 5), .int dv, .int 0])), (q 1, .inr (0, [.int m4, .ref (q 6), .int 4])), (q 2, .inr (0, [.int 0, .ref tE, .int 0])), (q 3, .inr (0, [.int m3, .ref (q 7), .int 3])), (q 4, .inr (0, [.int 0, .ref tE, .int 0])), (q 5, .inr (1, [.int 0, .int (-1)])), (q 6, .inl (cO, 10, .inr (.inr (.inr (.inr (va_up (va_up (va_up (va_up (fun _ => none) (0 : Int32).toNatClampNeg (some (q 8))) (1 : Int32).toNatClampNeg (some (q 9))) (2 : Int32).toNatClampNeg (some (q 10))) (3 : Int32).toNatClampNeg (some (q 11)))))))), (q 7, .inl (cO2, 10, .inr (.inr (.inr (.inr (va_up (va_up (va_up (fun _ => none) (0 : Int32).toNatClampNeg (some (q 16))) (1 : Int32).toNatClampNeg (some (q 17))) (2 : Int32).toNatClampNeg (some (q 18)))))))), (q 8, .inr (2, [.int 0, .ref (q 12), .int 1])), (q 9, .inr (2, [.int 1, .ref (q 13), .int 0])), (q 10, .inr (2, [.int 2, .ref (q 14), .int 0])), (q 11, .inr (2, [.int 3, .ref (q 15), .int 0])), (q 12, .inr (1, [.int 0, .int (-1)])), (q 13, .inr (1, [.int 0, .int (-1)])), (q 14, .inr (1, [.int 0, .int (-1)])), (q 15, .inr (1, [.int 0, .int (-1)])), (q 16, .inr (5, [.int 2, .int 0, .int 0, .int 0])), (q 17, .inr (5, [.int 3, .int 0, .int 0, .int 0])), (q 18, .inr (5, [.int 4, .int 0, .int 0, .int 0]))] sz)) (va_Qi (fun (r : Int32) (_ : Unit) => sp_setPeople p0 p1 0 r) (fun _ _ => True) (va_A [(q 0, .inr (6, [.ref (q 1), .ref (q 2), .ref (q 3), .ref (q 4), .ref (q 5), .int dv, .int 0])), (q 1, .inr (0, [.int m4, .ref (q 6), .int 4])), (q 2, .inr (0, [.int 0, .ref tE, .int 0])), (q 3, .inr (0, [.int m3, .ref (q 7), .int 3])), (q 4, .inr (0, [.int 0, .ref tE, .int 0])), (q 5, .inr (1, [.int 0, .int (-1)])), (q 6, .inl (cO, 10, .inr (.inr (.inr (.inr (va_up (va_up (va_up (va_up (fun _ => none) (0 : Int32).toNatClampNeg (some (q 8))) (1 : Int32).toNatClampNeg (some (q 9))) (2 : Int32).toNatClampNeg (some (q 10))) (3 : Int32).toNatClampNeg (some (q 11)))))))), (q 7, .inl (cO2, 10, .inr (.inr (.inr (.inr (va_up (va_up (va_up (fun _ => none) (0 : Int32).toNatClampNeg (some (q 16))) (1 : Int32).toNatClampNeg (some (q 17))) (2 : Int32).toNatClampNeg (some (q 18)))))))), (q 8, .inr (2, [.int 0, .ref (q 12), .int 1])), (q 9, .inr (2, [.int 1, .ref (q 13), .int 0])), (q 10, .inr (2, [.int 2, .ref (q 14), .int 0])), (q 11, .inr (2, [.int 3, .ref (q 15), .int 0])), (q 12, .inr (1, [.int 0, .int (-1)])), (q 13, .inr (1, [.int 0, .int (-1)])), (q 14, .inr (1, [.int 0, .int (-1)])), (q 15, .inr (1, [.int 0, .int (-1)])), (q 16, .inr (5, [.int 2, .int 0, .int 0, .int 0])), (q 17, .inr (5, [.int 3, .int 0, .int 0, .int 0])), (q 18, .inr (5, [.int 4, .int 0, .int 0, .int 0]))] sz)) (vx_X (fun _ : Unit => True) (fun E _ _ => (E = "java/lang/IndexOutOfBoundsException" ∧ (sp_setPeople p0 p1 1 0)) ∨ (E = "java/lang/IllegalArgumentException" ∧ (sp_setPeople p0 p1 2 0))) (va_A [(q 0, .inr (6, [.ref (q 1), .ref (q 2), .ref (q 3), .ref (q 4), .ref (q 5), .int dv, .int 0])), (q 1, .inr (0, [.int m4, .ref (q 6), .int 4])), (q 2, .inr (0, [.int 0, .ref tE, .int 0])), (q 3, .inr (0, [.int m3, .ref (q 7), .int 3])), (q 4, .inr (0, [.int 0, .ref tE, .int 0])), (q 5, .inr (1, [.int 0, .int (-1)])), (q 6, .inl (cO, 10, .inr (.inr (.inr (.inr (va_up (va_up (va_up (va_up (fun _ => none) (0 : Int32).toNatClampNeg (some (q 8))) (1 : Int32).toNatClampNeg (some (q 9))) (2 : Int32).toNatClampNeg (some (q 10))) (3 : Int32).toNatClampNeg (some (q 11)))))))), (q 7, .inl (cO2, 10, .inr (.inr (.inr (.inr (va_up (va_up (va_up (fun _ => none) (0 : Int32).toNatClampNeg (some (q 16))) (1 : Int32).toNatClampNeg (some (q 17))) (2 : Int32).toNatClampNeg (some (q 18)))))))), (q 8, .inr (2, [.int 0, .ref (q 12), .int 1])), (q 9, .inr (2, [.int 1, .ref (q 13), .int 0])), (q 10, .inr (2, [.int 2, .ref (q 14), .int 0])), (q 11, .inr (2, [.int 3, .ref (q 15), .int 0])), (q 12, .inr (1, [.int 0, .int (-1)])), (q 13, .inr (1, [.int 0, .int (-1)])), (q 14, .inr (1, [.int 0, .int (-1)])), (q 15, .inr (1, [.int 0, .int (-1)])), (q 16, .inr (5, [.int 2, .int 0, .int 0, .int 0])), (q 17, .inr (5, [.int 3, .int 0, .int 0, .int 0])), (q 18, .inr (5, [.int 4, .int 0, .int 0, .int 0]))] sz)) 2 12 (va_A [(q 0, .inr (6, [.ref (q 1), .ref (q 2), .ref (q 3), .ref (q 4), .ref (q 5), .int dv, .int 0])), (q 1, .inr (0, [.int m4, .ref (q 6), .int 4])), (q 2, .inr (0, [.int 0, .ref tE, .int 0])), (q 3, .inr (0, [.int m3, .ref (q 7), .int 3])), (q 4, .inr (0, [.int 0, .ref tE, .int 0])), (q 5, .inr (1, [.int 0, .int (-1)])), (q 6, .inl (cO, 10, .inr (.inr (.inr (.inr (va_up (va_up (va_up (va_up (fun _ => none) (0 : Int32).toNatClampNeg (some (q 8))) (1 : Int32).toNatClampNeg (some (q 9))) (2 : Int32).toNatClampNeg (some (q 10))) (3 : Int32).toNatClampNeg (some (q 11)))))))), (q 7, .inl (cO2, 10, .inr (.inr (.inr (.inr (va_up (va_up (va_up (fun _ => none) (0 : Int32).toNatClampNeg (some (q 16))) (1 : Int32).toNatClampNeg (some (q 17))) (2 : Int32).toNatClampNeg (some (q 18)))))))), (q 8, .inr (2, [.int 0, .ref (q 12), .int 1])), (q 9, .inr (2, [.int 1, .ref (q 13), .int 0])), (q 10, .inr (2, [.int 2, .ref (q 14), .int 0])), (q 11, .inr (2, [.int 3, .ref (q 15), .int 0])), (q 12, .inr (1, [.int 0, .int (-1)])), (q 13, .inr (1, [.int 0, .int (-1)])), (q 14, .inr (1, [.int 0, .int (-1)])), (q 15, .inr (1, [.int 0, .int (-1)])), (q 16, .inr (5, [.int 2, .int 0, .int 0, .int 0])), (q 17, .inr (5, [.int 3, .int 0, .int 0, .int 0])), (q 18, .inr (5, [.int 4, .int 0, .int 0, .int 0]))] sz) := by
  refine vx_ofW (cc := cX5_setPeople) (maxL := 5) (ret := (some .int)) (by decide) rfl ?_
  intro p e s m args below meth c s₁ B hml hno hv
  obtain ⟨rfl, hsz, hZT, hZ, hP, hK, hD0⟩ := hv
  have hx := B.exec
  have hb := B.bytes
  have hr := B.returns
  have hts := atoms_spec (ws := wsX5_setPeople) B.pre
  have hown : s.vm.findClass RX5 = some m.cls := findClass_of_methodNamed B.named
  have hlocks := B.notSynchronized
  subst hsz
  have hi5 : ∀ w ∈ u_ws RX4 TX4 4, w ∈ wsX5_setPeople := by decide +kernel
  have hi6 : ∀ w ∈ u_ws RX5 TX5 7, w ∈ wsX5_setPeople := by decide +kernel
  have hD := hD0.self (sz := s.heap.size)
  generalize hAe : va_A [(q 0, .inr (6, [.ref (q 1), .ref (q 2), .ref (q 3), .ref (q 4), .ref (q 5), .int dv, .int 0])), (q 1, .inr (0, [.int m4, .ref (q 6), .int 4])), (q 2, .inr (0, [.int 0, .ref tE, .int 0])), (q 3, .inr (0, [.int m3, .ref (q 7), .int 3])), (q 4, .inr (0, [.int 0, .ref tE, .int 0])), (q 5, .inr (1, [.int 0, .int (-1)])), (q 6, .inl (cO, 10, .inr (.inr (.inr (.inr (va_up (va_up (va_up (va_up (fun _ => none) (0 : Int32).toNatClampNeg (some (q 8))) (1 : Int32).toNatClampNeg (some (q 9))) (2 : Int32).toNatClampNeg (some (q 10))) (3 : Int32).toNatClampNeg (some (q 11)))))))), (q 7, .inl (cO2, 10, .inr (.inr (.inr (.inr (va_up (va_up (va_up (fun _ => none) (0 : Int32).toNatClampNeg (some (q 16))) (1 : Int32).toNatClampNeg (some (q 17))) (2 : Int32).toNatClampNeg (some (q 18)))))))), (q 8, .inr (2, [.int 0, .ref (q 12), .int 1])), (q 9, .inr (2, [.int 1, .ref (q 13), .int 0])), (q 10, .inr (2, [.int 2, .ref (q 14), .int 0])), (q 11, .inr (2, [.int 3, .ref (q 15), .int 0])), (q 12, .inr (1, [.int 0, .int (-1)])), (q 13, .inr (1, [.int 0, .int (-1)])), (q 14, .inr (1, [.int 0, .int (-1)])), (q 15, .inr (1, [.int 0, .int (-1)])), (q 16, .inr (5, [.int 2, .int 0, .int 0, .int 0])), (q 17, .inr (5, [.int 3, .int 0, .int 0, .int 0])), (q 18, .inr (5, [.int 4, .int 0, .int 0, .int 0]))] s.heap.size = A at hZ hD ⊢
  have hA : ∀ q : Nat, s.heap.size ≤ q → A q := fun q h => by rw [← hAe]; exact Or.inr h
  have hS : va_S A s.heap s.heap [] := va_S.rf
  have hP : va_P (dC, dI) vwCl [(q 0, .inr (6, [.ref (q 1), .ref (q 2), .ref (q 3), .ref (q 4), .ref (q 5), .int dv, .int 0])), (q 1, .inr (0, [.int m4, .ref (q 6), .int 4])), (q 2, .inr (0, [.int 0, .ref tE, .int 0])), (q 3, .inr (0, [.int m3, .ref (q 7), .int 3])), (q 4, .inr (0, [.int 0, .ref tE, .int 0])), (q 5, .inr (1, [.int 0, .int (-1)])), (q 6, .inl (cO, 10, .inr (.inr (.inr (.inr (va_up (va_up (va_up (va_up (fun _ => none) (0 : Int32).toNatClampNeg (some (q 8))) (1 : Int32).toNatClampNeg (some (q 9))) (2 : Int32).toNatClampNeg (some (q 10))) (3 : Int32).toNatClampNeg (some (q 11)))))))), (q 7, .inl (cO2, 10, .inr (.inr (.inr (.inr (va_up (va_up (va_up (fun _ => none) (0 : Int32).toNatClampNeg (some (q 16))) (1 : Int32).toNatClampNeg (some (q 17))) (2 : Int32).toNatClampNeg (some (q 18)))))))), (q 8, .inr (2, [.int 0, .ref (q 12), .int 1])), (q 9, .inr (2, [.int 1, .ref (q 13), .int 0])), (q 10, .inr (2, [.int 2, .ref (q 14), .int 0])), (q 11, .inr (2, [.int 3, .ref (q 15), .int 0])), (q 12, .inr (1, [.int 0, .int (-1)])), (q 13, .inr (1, [.int 0, .int (-1)])), (q 14, .inr (1, [.int 0, .int (-1)])), (q 15, .inr (1, [.int 0, .int (-1)])), (q 16, .inr (5, [.int 2, .int 0, .int 0, .int 0])), (q 17, .inr (5, [.int 3, .int 0, .int 0, .int 0])), (q 18, .inr (5, [.int 4, .int 0, .int 0, .int 0]))] s.heap := hP
  have hl := lv_entry ([.ref (q 0), .int p0, .int p1]) (n := 5) (Nat.le_of_ble_eq_true rfl)
  rw [lg_entry_eq]
  generalize (lg_sl ([.ref (q 0), .int p0, .int p1]) ++ List.replicate (5 - (lg_sl ([.ref (q 0), .int p0, .int p1])).length) Slot.unset).toArray = ls at hl ⊢
  have hl : lv_has ls 5 [(0, .ref (q 0)), (1, .int p0), (2, .int p1)] := hl
  refine lv_aload_n hx hb dX5_setPeople_0 rfl (lv_at hl 0 rfl) ?_
  refine lv_iload_n hx hb dX5_setPeople_1 rfl (lv_at hl 1 rfl) ?_
  have hFc := gb_free hA hS
  refine vx_callv (vx_runV (As := [.int p0]) (rest := []) ⟨hx, hb, hml, hown, hts⟩ (c_X5_requireWork l hl9 kS tE dC dI s.heap.size q cO cO2 m4 m3 dv p0) (cwV 1 hts gX5_setPeople_X5_requireWork rfl rfl rfl (by decide +kernel) ⟨Nat.le_of_ble_eq_true rfl, Nat.le_of_ble_eq_true rfl⟩) (gb_preV hZT hZ hS hFc hP hD hK (va_recv hK hP (ci := 6) (q0 := 0) rfl rfl)) rfl rfl hl.1 rfl (lv_room (Nat.le_of_ble_eq_true rfl)) dX5_setPeople_2 ⟨Nat.le_of_ble_eq_true rfl, Nat.le_of_ble_eq_true rfl⟩) hS (fun q _ h => hFc q h) hFc (fun q _ h => hFc q h) (fun E9 ce q9 u t H locs ht hvm hw hB hz1 hk1 hS hce hcv hcl => ?_) (fun u t H locs ht hvm hw hB hz1 hk1 hS => ?_)
  · obtain ⟨rfl, hq0⟩ := hB
    exact vx_out (fun x h9 => (hno x h9).elim) hlocks hce hcv hcl (fun t ht ha => ⟨(), trivial, (Or.inl ⟨rfl, (lb_60 p0 p1 hq0)⟩), hS.F ht⟩) hS.2.2 (Nat.le_of_ble_eq_true rfl) (Nat.le_of_ble_eq_true rfl)
  · have w_2 := hw
    have hP := gb_keep hP hk1
    refine lv_iload_n hx hb dX5_setPeople_5 rfl (lv_at hl 2 rfl) ?_
    refine lv_iconst (v := 0) hx hb dX5_setPeople_6 (by decide) ?_
    refine lv_bipush (v := 20) hx hb dX5_setPeople_7 (by decide) ?_
    have hPc := hP.sub (ws' := []) [] rfl
    have hDc := hD.sub (ws' := []) [] (by decide) rfl
    have hKc := hK.sub (tys' := []) [] rfl
    have hFc := gb_free hA hS
    refine vx_callv (vx_runS (As := [.int p1, .int 0, .int 20]) (rest := []) ⟨hx, hb, hml, hown, hts⟩ (c_X5_requireRange l hl9 kS tE dC dI H.size p1 (0 : Int32) (20 : Int32)) (va_cwS 3 hts gX5_setPeople_X5_requireRange rfl rfl rfl (by decide +kernel) ⟨Nat.le_of_ble_eq_true rfl, Nat.le_of_ble_eq_true rfl⟩) (gb_preS hZT hZ hS hFc hPc hDc hKc) rfl rfl hl.1 rfl (lv_room (Nat.le_of_ble_eq_true rfl)) dX5_setPeople_9 ⟨Nat.le_of_ble_eq_true rfl, Nat.le_of_ble_eq_true rfl⟩) hS (fun q _ h => hFc q h) hFc (fun q _ h => hFc q h) (fun E9 ce q9 u t H locs ht hvm hw hB hz1 hk1 hS hce hcv hcl => ?_) (fun u t H locs ht hvm hw hB hz1 hk1 hS => ?_)
    · obtain ⟨rfl, hq0⟩ := hB
      exact vx_out (fun x h9 => (hno x h9).elim) hlocks hce hcv hcl (fun t ht ha => ⟨(), trivial, (Or.inr ⟨rfl, (lb_61 p0 p1 w_2 hq0)⟩), hS.F ht⟩) hS.2.2 (Nat.le_of_ble_eq_true rfl) (Nat.le_of_ble_eq_true rfl)
    · have w_4 := hw
      have hP := gb_keep hP hk1
      refine lv_aload_n hx hb dX5_setPeople_12 rfl (lv_at hl 0 rfl) ?_
      refine va_get (D := (dC, dI)) (ci := 6) (v := .ref (q 3)) (C := RX5) (T := TX5) (N := 7) hx hb hts hi6 hown hK hP 0 rfl rfl 2 (by decide) (hts (.fieldLink RX5 19 "GlacierBook" "workers" "Ljava/util/ArrayList;") (by decide +kernel)) (fun _ h9 => h9) rfl dX5_setPeople_13 ?_
      refine lv_iload_n hx hb dX5_setPeople_16 rfl (lv_at hl 1 rfl) ?_
      obtain ⟨dd, un, hfd, hvi, hPs, hDs⟩ := gb_worker (D := (dC, dI)) (q := q) (cO := cO) (cO2 := cO2) (tE := tE) (m4 := m4) (m3 := m3) (dv := dv) p0 (lb_62 p0 p1 w_2 w_4)
      have hPc := hP.sub (ws' := [(q 3, .inr (0, [.int m3, .ref (q 7), .int 3])), (q 7, .inl (cO2, 10, .inr (.inr (.inr (.inr (va_up (va_up (va_up (fun _ => none) (0 : Int32).toNatClampNeg (some (q 16))) (1 : Int32).toNatClampNeg (some (q 17))) (2 : Int32).toNatClampNeg (some (q 18))))))))]) [3, 7] rfl
      have hDc := hD.sub (ws' := [(q 3, .inr (0, [.int m3, .ref (q 7), .int 3])), (q 7, .inl (cO2, 10, .inr (.inr (.inr (.inr (va_up (va_up (va_up (fun _ => none) (0 : Int32).toNatClampNeg (some (q 16))) (1 : Int32).toNatClampNeg (some (q 17))) (2 : Int32).toNatClampNeg (some (q 18))))))))]) [3, 7] (by decide) rfl
      have hKc := hK.sub (tys' := [(cO2, .object "java/lang/Object")]) [1] rfl
      have hFc := gb_free hA hS
      refine va_callr (va_runV (As := [.int p0]) (rest := []) ⟨hx, hb, hml, hown, hts⟩ (c_Jx4a65c_get_915e3 l hl9 kS tE dC dI H.size (q 3) m3 (q 7) (3 : Int32) cO2 (va_up (va_up (va_up (fun _ => none) (0 : Int32).toNatClampNeg (some (q 16))) (1 : Int32).toNatClampNeg (some (q 17))) (2 : Int32).toNatClampNeg (some (q 18))) p0 dd (lb_63 p0 p1 w_2 w_4) (lb_64 p0 p1 w_2 w_4) hvi hfd) (cwV 1 hts gX5_setPeople_Jx4a65c_get_915e3 rfl rfl rfl (by decide +kernel) ⟨Nat.le_of_ble_eq_true rfl, Nat.le_of_ble_eq_true rfl⟩) (gb_preV hZT hZ hS hFc hPc hDc hKc (va_recv hK hP (ci := 0) (q0 := 3) rfl rfl)) rfl rfl hl.1 rfl (lv_room (Nat.le_of_ble_eq_true rfl)) dX5_setPeople_17 ⟨Nat.le_of_ble_eq_true rfl, Nat.le_of_ble_eq_true rfl⟩) hS (fun q _ h => hFc q h) hFc (fun u ra t H locs ht hvm hw hB hz1 hk1 hS => ?_)
      have hB : ra = dd := hB
      rw [hB]
      have hP := gb_keep hP hk1
      have hP := hPs _ hP
      have hD := hDs _ hD
      refine va_castS (nm := RX4) hx hb hown (hts (.classLink RX5 48 "GlacierBook$Workers") (by decide +kernel)) (hK.1 5 _ rfl).2 (va_recv hK hP (ci := 5) (q0 := 1) rfl rfl) dX5_setPeople_20 ?_
      refine lv_astore_n (lv' := [(3, .ref dd), (0, .ref (q 0)), (1, .int p0), (2, .int p1)]) hx hb dX5_setPeople_23 rfl hl (by decide) rfl (fun ls hl => ?_)
      refine lv_aload_n hx hb dX5_setPeople_24 rfl (lv_at hl 0 rfl) ?_
      refine va_get (D := (dC, dI)) (ci := 5) (v := .int 0) (C := RX4) (T := TX4) (N := 4) hx hb hts hi5 hown hK hP 1 rfl rfl 1 (by decide) (hts (.fieldLink RX5 140 "GlacierBook$Workers" "people" "I") (by decide +kernel)) (fun _ h9 => h9) rfl dX5_setPeople_25 ?_
      refine lv_istore (lv' := [(4, .int 0), (3, .ref dd), (0, .ref (q 0)), (1, .int p0), (2, .int p1)]) hx hb dX5_setPeople_28 hl (by decide) rfl (fun ls hl => ?_)
      refine lv_aload_n hx hb dX5_setPeople_30 rfl (lv_at hl 1 rfl) ?_
      refine lv_iload_n hx hb dX5_setPeople_31 rfl (lv_at hl 4 rfl) ?_
      refine va_put (D := (dC, dI)) (ci := 5) (v := .int p1) (ty := .int) (C := RX4) (T := TX4) (N := 4) hx hb hts hi5 tyX4 tyX4_ok nmX4 hown hK hP hD hS 1 rfl rfl 1 (by decide) (hts (.fieldLink RX5 140 "GlacierBook$Workers" "people" "I") (by decide +kernel)) (fun _ h9 => h9) rfl (by decide +kernel) rfl rfl (Nat.le_of_ble_eq_true rfl) dX5_setPeople_32 (fun H locs hP hD hS => ?_)
      have hP : va_P (dC, dI) vwCl [(q 0, .inr (6, [.ref (q 1), .ref (q 2), .ref (q 3), .ref (q 4), .ref (q 5), .int dv, .int 0])), (dd, .inr (5, [.int un, .int p1, .int 0, .int 0]))] H := hP
      have hD : va_D A [(q 0, .inr (6, [.ref (q 1), .ref (q 2), .ref (q 3), .ref (q 4), .ref (q 5), .int dv, .int 0])), (dd, .inr (5, [.int un, .int p1, .int 0, .int 0]))] := hD
      refine lv_iload hx hb dX5_setPeople_35 (lv_at hl 0 rfl) ?_
      refine vx_ret ?_
      refine W.widen (k := 2) (n := 12) (Nat.le_of_ble_eq_true rfl) (Nat.le_of_ble_eq_true rfl) ?_
      exact W.iret (v := 0) hx hb hr (fun t ht hW => ⟨⟨0, (), rfl, (lb_65 p0 p1 w_2 w_4), trivial⟩, hS.F ht⟩) hS.2.2 dX5_setPeople_37

theorem lb_66 : (1 : Int32) = 1 := by
  (try simp only [sp_hunger, sp_setCut, sp_setWarm, sp_setFrost, sp_setPeople, sp_stock, sp_changed, sp_fill, sp_pass, gb_okD, gb_okG, gb_okW, gb_days, gb_in, gb_lt, gb_le, gb_eq, gb_l0, gb_l1, gb_l2, gb_l3, gb_l4, gb_l5, gb_l10, gb_l19, gb_l20, gb_l40, gb_l60, gb_l1000, gb_l1500, gb_lm1, gb_l65536, true_and, and_true, false_and, and_false, true_or, or_true, false_or, or_false, not_true_eq_false, not_false_eq_true, ne_eq] at *) <;> omega
set_option maxHeartbeats 4000000 in
set_option maxRecDepth 100000 in
theorem c_X5_nextCrew (l : Launch) (hl9 : l.stackTraces = false) (kS : Nat → Nat) (tE : Nat) (dC : Nat → ClassId) (dI : Nat → Nat → Nat) (sz : Nat) (q : Nat → Nat) (cO : ClassId) (cO2 : ClassId) (m4 : Int32) (m3 : Int32) (dv : Int32) : Met l yX5_nextCrew wsX5_nextCrew ({ frames := 0, cells := 0, slots := 0, locals := 0 }) (va_Pc [.ref (q 0)] (gb_Pw kS tE (va_A [(q 0, .inr (6, [.ref (q 1), .ref (q 2), .ref (q 3), .ref (q 4), .ref (q 5), .int dv, .int 0])), (q 1, .inr (0, [.int m4, .ref (q 6), .int 4])), (q 2, .inr (0, [.int 0, .ref tE, .int 0])), (q 3, .inr (0, [.int m3, .ref (q 7), .int 3])), (q 4, .inr (0, [.int 0, .ref tE, .int 0])), (q 5, .inr (1, [.int 0, .int (-1)])), (q 6, .inl (cO, 10, .inr (.inr (.inr (.inr (va_up (va_up (va_up (va_up (fun _ => none) (0 : Int32).toNatClampNeg (some (q 8))) (1 : Int32).toNatClampNeg (some (q 9))) (2 : Int32).toNatClampNeg (some (q 10))) (3 : Int32).toNatClampNeg (some (q 11)))))))), (q 7, .inl (cO2, 10, .inr (.inr (.inr (.inr (va_up (va_up (va_up (fun _ => none) (0 : Int32).toNatClampNeg (some (q 16))) (1 : Int32).toNatClampNeg (some (q 17))) (2 : Int32).toNatClampNeg (some (q 18)))))))), (q 8, .inr (2, [.int 0, .ref (q 12), .int 1])), (q 9, .inr (2, [.int 1, .ref (q 13), .int 0])), (q 10, .inr (2, [.int 2, .ref (q 14), .int 0])), (q 11, .inr (2, [.int 3, .ref (q 15), .int 0])), (q 12, .inr (1, [.int 0, .int (-1)])), (q 13, .inr (1, [.int 0, .int (-1)])), (q 14, .inr (1, [.int 0, .int (-1)])), (q 15, .inr (1, [.int 0, .int (-1)])), (q 16, .inr (5, [.int 2, .int 0, .int 0, .int 0])), (q 17, .inr (5, [.int 3, .int 0, .int 0, .int 0])), (q 18, .inr (5, [.int 4, .int 0, .int 0, .int 0]))] sz) (dC, dI) [(cO, .object "java/lang/Object"), (cO2, .object "java/lang/Object")] [(q 0, .inr (6, [.ref (q 1), .ref (q 2), .ref (q 3), .ref (q 4), .ref (q 5), .int dv, .int 0])), (q 1, .inr (0, [.int m4, .ref (q 6), .int 4])), (q 2, .inr (0, [.int 0, .ref tE, .int 0])), (q 3, .inr (0, [.int m3, .ref (q 7), .int 3])), (q 4, .inr (0, [.int 0, .ref tE, .int 0])), (q 5, .inr (1, [.int 0, .int (-1)])), (q 6, .inl (cO, 10, .inr (.inr (.inr (.inr (va_up (va_up (va_up (va_up (fun _ => none) (0 : Int32).toNatClampNeg (some (q 8))) (1 : Int32).toNatClampNeg (some (q 9))) (2 : Int32).toNatClampNeg (some (q 10))) (3 : Int32).toNatClampNeg (some (q 11)))))))), (q 7, .inl (cO2, 10, .inr (.inr (.inr (.inr (va_up (va_up (va_up (fun _ => none) (0 : Int32).toNatClampNeg (some (q 16))) (1 : Int32).toNatClampNeg (some (q 17))) (2 : Int32).toNatClampNeg (some (q 18)))))))), (q 8, .inr (2, [.int 0, .ref (q 12), .int 1])), (q 9, .inr (2, [.int 1, .ref (q 13), .int 0])), (q 10, .inr (2, [.int 2, .ref (q 14), .int 0])), (q 11, .inr (2, [.int 3, .ref (q 15), .int 0])), (q 12, .inr (1, [.int 0, .int (-1)])), (q 13, .inr (1, [.int 0, .int (-1)])), (q 14, .inr (1, [.int 0, .int (-1)])), (q 15, .inr (1, [.int 0, .int (-1)])), (q 16, .inr (5, [.int 2, .int 0, .int 0, .int 0])), (q 17, .inr (5, [.int 3, .int 0, .int 0, .int 0])), (q 18, .inr (5, [.int 4, .int 0, .int 0, .int 0]))] sz)) (va_Qi (fun (r : Int32) (_ : Unit) => r = 1) (fun _ _ => True) (va_A [(q 0, .inr (6, [.ref (q 1), .ref (q 2), .ref (q 3), .ref (q 4), .ref (q 5), .int dv, .int 0])), (q 1, .inr (0, [.int m4, .ref (q 6), .int 4])), (q 2, .inr (0, [.int 0, .ref tE, .int 0])), (q 3, .inr (0, [.int m3, .ref (q 7), .int 3])), (q 4, .inr (0, [.int 0, .ref tE, .int 0])), (q 5, .inr (1, [.int 0, .int (-1)])), (q 6, .inl (cO, 10, .inr (.inr (.inr (.inr (va_up (va_up (va_up (va_up (fun _ => none) (0 : Int32).toNatClampNeg (some (q 8))) (1 : Int32).toNatClampNeg (some (q 9))) (2 : Int32).toNatClampNeg (some (q 10))) (3 : Int32).toNatClampNeg (some (q 11)))))))), (q 7, .inl (cO2, 10, .inr (.inr (.inr (.inr (va_up (va_up (va_up (fun _ => none) (0 : Int32).toNatClampNeg (some (q 16))) (1 : Int32).toNatClampNeg (some (q 17))) (2 : Int32).toNatClampNeg (some (q 18)))))))), (q 8, .inr (2, [.int 0, .ref (q 12), .int 1])), (q 9, .inr (2, [.int 1, .ref (q 13), .int 0])), (q 10, .inr (2, [.int 2, .ref (q 14), .int 0])), (q 11, .inr (2, [.int 3, .ref (q 15), .int 0])), (q 12, .inr (1, [.int 0, .int (-1)])), (q 13, .inr (1, [.int 0, .int (-1)])), (q 14, .inr (1, [.int 0, .int (-1)])), (q 15, .inr (1, [.int 0, .int (-1)])), (q 16, .inr (5, [.int 2, .int 0, .int 0, .int 0])), (q 17, .inr (5, [.int 3, .int 0, .int 0, .int 0])), (q 18, .inr (5, [.int 4, .int 0, .int 0, .int 0]))] sz)) 0 0 (va_A [(q 0, .inr (6, [.ref (q 1), .ref (q 2), .ref (q 3), .ref (q 4), .ref (q 5), .int dv, .int 0])), (q 1, .inr (0, [.int m4, .ref (q 6), .int 4])), (q 2, .inr (0, [.int 0, .ref tE, .int 0])), (q 3, .inr (0, [.int m3, .ref (q 7), .int 3])), (q 4, .inr (0, [.int 0, .ref tE, .int 0])), (q 5, .inr (1, [.int 0, .int (-1)])), (q 6, .inl (cO, 10, .inr (.inr (.inr (.inr (va_up (va_up (va_up (va_up (fun _ => none) (0 : Int32).toNatClampNeg (some (q 8))) (1 : Int32).toNatClampNeg (some (q 9))) (2 : Int32).toNatClampNeg (some (q 10))) (3 : Int32).toNatClampNeg (some (q 11)))))))), (q 7, .inl (cO2, 10, .inr (.inr (.inr (.inr (va_up (va_up (va_up (fun _ => none) (0 : Int32).toNatClampNeg (some (q 16))) (1 : Int32).toNatClampNeg (some (q 17))) (2 : Int32).toNatClampNeg (some (q 18)))))))), (q 8, .inr (2, [.int 0, .ref (q 12), .int 1])), (q 9, .inr (2, [.int 1, .ref (q 13), .int 0])), (q 10, .inr (2, [.int 2, .ref (q 14), .int 0])), (q 11, .inr (2, [.int 3, .ref (q 15), .int 0])), (q 12, .inr (1, [.int 0, .int (-1)])), (q 13, .inr (1, [.int 0, .int (-1)])), (q 14, .inr (1, [.int 0, .int (-1)])), (q 15, .inr (1, [.int 0, .int (-1)])), (q 16, .inr (5, [.int 2, .int 0, .int 0, .int 0])), (q 17, .inr (5, [.int 3, .int 0, .int 0, .int 0])), (q 18, .inr (5, [.int 4, .int 0, .int 0, .int 0]))] sz) := by
  refine Met.ofW (cc := cX5_nextCrew) (maxL := 1) (ret := (some .int)) (by decide) rfl ?_
  intro p e s m args below meth c s₁ B hml hv
  obtain ⟨rfl, hsz, hZT, hZ, hP, hK, hD0⟩ := hv
  have hx := B.exec
  have hb := B.bytes
  have hr := B.returns
  have hts := atoms_spec (ws := wsX5_nextCrew) B.pre
  have hown : s.vm.findClass RX5 = some m.cls := findClass_of_methodNamed B.named
  have hlocks := B.notSynchronized
  subst hsz
  have hi6 : ∀ w ∈ u_ws RX5 TX5 7, w ∈ wsX5_nextCrew := by decide +kernel
  have hD := hD0.self (sz := s.heap.size)
  generalize hAe : va_A [(q 0, .inr (6, [.ref (q 1), .ref (q 2), .ref (q 3), .ref (q 4), .ref (q 5), .int dv, .int 0])), (q 1, .inr (0, [.int m4, .ref (q 6), .int 4])), (q 2, .inr (0, [.int 0, .ref tE, .int 0])), (q 3, .inr (0, [.int m3, .ref (q 7), .int 3])), (q 4, .inr (0, [.int 0, .ref tE, .int 0])), (q 5, .inr (1, [.int 0, .int (-1)])), (q 6, .inl (cO, 10, .inr (.inr (.inr (.inr (va_up (va_up (va_up (va_up (fun _ => none) (0 : Int32).toNatClampNeg (some (q 8))) (1 : Int32).toNatClampNeg (some (q 9))) (2 : Int32).toNatClampNeg (some (q 10))) (3 : Int32).toNatClampNeg (some (q 11)))))))), (q 7, .inl (cO2, 10, .inr (.inr (.inr (.inr (va_up (va_up (va_up (fun _ => none) (0 : Int32).toNatClampNeg (some (q 16))) (1 : Int32).toNatClampNeg (some (q 17))) (2 : Int32).toNatClampNeg (some (q 18)))))))), (q 8, .inr (2, [.int 0, .ref (q 12), .int 1])), (q 9, .inr (2, [.int 1, .ref (q 13), .int 0])), (q 10, .inr (2, [.int 2, .ref (q 14), .int 0])), (q 11, .inr (2, [.int 3, .ref (q 15), .int 0])), (q 12, .inr (1, [.int 0, .int (-1)])), (q 13, .inr (1, [.int 0, .int (-1)])), (q 14, .inr (1, [.int 0, .int (-1)])), (q 15, .inr (1, [.int 0, .int (-1)])), (q 16, .inr (5, [.int 2, .int 0, .int 0, .int 0])), (q 17, .inr (5, [.int 3, .int 0, .int 0, .int 0])), (q 18, .inr (5, [.int 4, .int 0, .int 0, .int 0]))] s.heap.size = A at hZ hD ⊢
  have hA : ∀ q : Nat, s.heap.size ≤ q → A q := fun q h => by rw [← hAe]; exact Or.inr h
  have hS : va_S A s.heap s.heap [] := va_S.rf
  have hP : va_P (dC, dI) vwCl [(q 0, .inr (6, [.ref (q 1), .ref (q 2), .ref (q 3), .ref (q 4), .ref (q 5), .int dv, .int 0])), (q 1, .inr (0, [.int m4, .ref (q 6), .int 4])), (q 2, .inr (0, [.int 0, .ref tE, .int 0])), (q 3, .inr (0, [.int m3, .ref (q 7), .int 3])), (q 4, .inr (0, [.int 0, .ref tE, .int 0])), (q 5, .inr (1, [.int 0, .int (-1)])), (q 6, .inl (cO, 10, .inr (.inr (.inr (.inr (va_up (va_up (va_up (va_up (fun _ => none) (0 : Int32).toNatClampNeg (some (q 8))) (1 : Int32).toNatClampNeg (some (q 9))) (2 : Int32).toNatClampNeg (some (q 10))) (3 : Int32).toNatClampNeg (some (q 11)))))))), (q 7, .inl (cO2, 10, .inr (.inr (.inr (.inr (va_up (va_up (va_up (fun _ => none) (0 : Int32).toNatClampNeg (some (q 16))) (1 : Int32).toNatClampNeg (some (q 17))) (2 : Int32).toNatClampNeg (some (q 18)))))))), (q 8, .inr (2, [.int 0, .ref (q 12), .int 1])), (q 9, .inr (2, [.int 1, .ref (q 13), .int 0])), (q 10, .inr (2, [.int 2, .ref (q 14), .int 0])), (q 11, .inr (2, [.int 3, .ref (q 15), .int 0])), (q 12, .inr (1, [.int 0, .int (-1)])), (q 13, .inr (1, [.int 0, .int (-1)])), (q 14, .inr (1, [.int 0, .int (-1)])), (q 15, .inr (1, [.int 0, .int (-1)])), (q 16, .inr (5, [.int 2, .int 0, .int 0, .int 0])), (q 17, .inr (5, [.int 3, .int 0, .int 0, .int 0])), (q 18, .inr (5, [.int 4, .int 0, .int 0, .int 0]))] s.heap := hP
  have hl := lv_entry ([.ref (q 0)]) (n := 1) (Nat.le_of_ble_eq_true rfl)
  rw [lg_entry_eq]
  generalize (lg_sl ([.ref (q 0)]) ++ List.replicate (1 - (lg_sl ([.ref (q 0)])).length) Slot.unset).toArray = ls at hl ⊢
  have hl : lv_has ls 1 [(0, .ref (q 0))] := hl
  refine lv_aload_n hx hb dX5_nextCrew_0 rfl (lv_at hl 0 rfl) ?_
  refine va_get (D := (dC, dI)) (ci := 6) (v := .int 0) (C := RX5) (T := TX5) (N := 7) hx hb hts hi6 hown hK hP 0 rfl rfl 6 (by decide) (hts (.fieldLink RX5 36 "GlacierBook" "crew" "I") (by decide +kernel)) (fun _ h9 => h9) rfl dX5_nextCrew_1 ?_
  refine lv_bipush (v := 19) hx hb dX5_nextCrew_4 (by decide) ?_
  refine lv_icmp_lt (tgt := 19) hx hb dX5_nextCrew_6 (by decide) (fun _ => ?_) (fun c9 => absurd c9 (by decide))
  refine lv_aload_n hx hb dX5_nextCrew_19 rfl (lv_at hl 0 rfl) ?_
  refine lv_dup hx hb dX5_nextCrew_20 rfl ?_
  refine va_get (D := (dC, dI)) (ci := 6) (v := .int 0) (C := RX5) (T := TX5) (N := 7) hx hb hts hi6 hown hK hP 0 rfl rfl 6 (by decide) (hts (.fieldLink RX5 36 "GlacierBook" "crew" "I") (by decide +kernel)) (fun _ h9 => h9) rfl dX5_nextCrew_21 ?_
  refine lv_iconst (v := 1) hx hb dX5_nextCrew_24 (by decide) ?_
  refine lv_iadd hx hb dX5_nextCrew_25 ?_
  refine lv_topi (fun y9 e9 => ?_)
  obtain rfl : y9 = 1 := e9.trans (by decide)
  refine va_put (D := (dC, dI)) (ci := 6) (v := .int 1) (ty := .int) (C := RX5) (T := TX5) (N := 7) hx hb hts hi6 tyX5 tyX5_ok nmX5 hown hK hP hD hS 0 rfl rfl 6 (by decide) (hts (.fieldLink RX5 36 "GlacierBook" "crew" "I") (by decide +kernel)) (fun _ h9 => h9) rfl (by decide +kernel) rfl rfl (Nat.le_of_ble_eq_true rfl) dX5_nextCrew_26 (fun H locs hP hD hS => ?_)
  have hP : va_P (dC, dI) vwCl [(q 0, .inr (6, [.ref (q 1), .ref (q 2), .ref (q 3), .ref (q 4), .ref (q 5), .int dv, .int 1])), (q 1, .inr (0, [.int m4, .ref (q 6), .int 4])), (q 2, .inr (0, [.int 0, .ref tE, .int 0])), (q 3, .inr (0, [.int m3, .ref (q 7), .int 3])), (q 4, .inr (0, [.int 0, .ref tE, .int 0])), (q 5, .inr (1, [.int 0, .int (-1)])), (q 6, .inl (cO, 10, .inr (.inr (.inr (.inr (va_up (va_up (va_up (va_up (fun _ => none) (0 : Int32).toNatClampNeg (some (q 8))) (1 : Int32).toNatClampNeg (some (q 9))) (2 : Int32).toNatClampNeg (some (q 10))) (3 : Int32).toNatClampNeg (some (q 11)))))))), (q 7, .inl (cO2, 10, .inr (.inr (.inr (.inr (va_up (va_up (va_up (fun _ => none) (0 : Int32).toNatClampNeg (some (q 16))) (1 : Int32).toNatClampNeg (some (q 17))) (2 : Int32).toNatClampNeg (some (q 18)))))))), (q 8, .inr (2, [.int 0, .ref (q 12), .int 1])), (q 9, .inr (2, [.int 1, .ref (q 13), .int 0])), (q 10, .inr (2, [.int 2, .ref (q 14), .int 0])), (q 11, .inr (2, [.int 3, .ref (q 15), .int 0])), (q 12, .inr (1, [.int 0, .int (-1)])), (q 13, .inr (1, [.int 0, .int (-1)])), (q 14, .inr (1, [.int 0, .int (-1)])), (q 15, .inr (1, [.int 0, .int (-1)])), (q 16, .inr (5, [.int 2, .int 0, .int 0, .int 0])), (q 17, .inr (5, [.int 3, .int 0, .int 0, .int 0])), (q 18, .inr (5, [.int 4, .int 0, .int 0, .int 0]))] H := hP
  have hD : va_D A [(q 0, .inr (6, [.ref (q 1), .ref (q 2), .ref (q 3), .ref (q 4), .ref (q 5), .int dv, .int 1])), (q 1, .inr (0, [.int m4, .ref (q 6), .int 4])), (q 2, .inr (0, [.int 0, .ref tE, .int 0])), (q 3, .inr (0, [.int m3, .ref (q 7), .int 3])), (q 4, .inr (0, [.int 0, .ref tE, .int 0])), (q 5, .inr (1, [.int 0, .int (-1)])), (q 6, .inl (cO, 10, .inr (.inr (.inr (.inr (va_up (va_up (va_up (va_up (fun _ => none) (0 : Int32).toNatClampNeg (some (q 8))) (1 : Int32).toNatClampNeg (some (q 9))) (2 : Int32).toNatClampNeg (some (q 10))) (3 : Int32).toNatClampNeg (some (q 11)))))))), (q 7, .inl (cO2, 10, .inr (.inr (.inr (.inr (va_up (va_up (va_up (fun _ => none) (0 : Int32).toNatClampNeg (some (q 16))) (1 : Int32).toNatClampNeg (some (q 17))) (2 : Int32).toNatClampNeg (some (q 18)))))))), (q 8, .inr (2, [.int 0, .ref (q 12), .int 1])), (q 9, .inr (2, [.int 1, .ref (q 13), .int 0])), (q 10, .inr (2, [.int 2, .ref (q 14), .int 0])), (q 11, .inr (2, [.int 3, .ref (q 15), .int 0])), (q 12, .inr (1, [.int 0, .int (-1)])), (q 13, .inr (1, [.int 0, .int (-1)])), (q 14, .inr (1, [.int 0, .int (-1)])), (q 15, .inr (1, [.int 0, .int (-1)])), (q 16, .inr (5, [.int 2, .int 0, .int 0, .int 0])), (q 17, .inr (5, [.int 3, .int 0, .int 0, .int 0])), (q 18, .inr (5, [.int 4, .int 0, .int 0, .int 0]))] := hD
  refine lv_aload_n hx hb dX5_nextCrew_29 rfl (lv_at hl 0 rfl) ?_
  refine va_get (D := (dC, dI)) (ci := 6) (v := .int 1) (C := RX5) (T := TX5) (N := 7) hx hb hts hi6 hown hK hP 0 rfl rfl 6 (by decide) (hts (.fieldLink RX5 36 "GlacierBook" "crew" "I") (by decide +kernel)) (fun _ h9 => h9) rfl dX5_nextCrew_30 ?_
  refine W.widen (k := 0) (n := 0) (Nat.le_of_ble_eq_true rfl) (Nat.le_of_ble_eq_true rfl) ?_
  exact W.iret (v := 1) hx hb hr (fun t ht hW => ⟨⟨1, (), rfl, (lb_66), trivial⟩, hS.F ht⟩) hS.2.2 dX5_nextCrew_33

theorem lb_67 (p0 : Int32) (hq0 : p0 = p0) : p0 = p0 := by
  (try simp only [sp_hunger, sp_setCut, sp_setWarm, sp_setFrost, sp_setPeople, sp_stock, sp_changed, sp_fill, sp_pass, gb_okD, gb_okG, gb_okW, gb_days, gb_in, gb_lt, gb_le, gb_eq, gb_l0, gb_l1, gb_l2, gb_l3, gb_l4, gb_l5, gb_l10, gb_l19, gb_l20, gb_l40, gb_l60, gb_l1000, gb_l1500, gb_lm1, gb_l65536, true_and, and_true, false_and, and_false, true_or, or_true, false_or, or_false, not_true_eq_false, not_false_eq_true, ne_eq] at *) <;> omega
theorem lb_68 (w_2 : False) : False := by
  (try simp only [sp_hunger, sp_setCut, sp_setWarm, sp_setFrost, sp_setPeople, sp_stock, sp_changed, sp_fill, sp_pass, gb_okD, gb_okG, gb_okW, gb_days, gb_in, gb_lt, gb_le, gb_eq, gb_l0, gb_l1, gb_l2, gb_l3, gb_l4, gb_l5, gb_l10, gb_l19, gb_l20, gb_l40, gb_l60, gb_l1000, gb_l1500, gb_lm1, gb_l65536, true_and, and_true, false_and, and_false, true_or, or_true, false_or, or_false, not_true_eq_false, not_false_eq_true, ne_eq] at *) <;> omega
set_option maxHeartbeats 4000000 in
set_option maxRecDepth 100000 in
theorem c_X5_move (l : Launch) (hl9 : l.stackTraces = false) (kS : Nat → Nat) (tE : Nat) (dC : Nat → ClassId) (dI : Nat → Nat → Nat) (sz : Nat) (q : Nat → Nat) (cO : ClassId) (cO2 : ClassId) (m4 : Int32) (m3 : Int32) (dv : Int32) (p0 : Int32) (p1 : Int32) (p2 : Int32) : vx_Met l yX5_move wsX5_move ({ frames := 8, cells := 1, slots := 6, locals := 124 }) (va_Pc [.ref (q 0), .int p0, .int p1, .int p2] (gb_Pw kS tE (gb_ro sz) (dC, dI) [(cO, .object "java/lang/Object"), (cO2, .object "java/lang/Object")] [(q 0, .inr (6, [.ref (q 1), .ref (q 2), .ref (q 3), .ref (q 4), .ref (q 5), .int dv, .int 0])), (q 1, .inr (0, [.int m4, .ref (q 6), .int 4])), (q 2, .inr (0, [.int 0, .ref tE, .int 0])), (q 3, .inr (0, [.int m3, .ref (q 7), .int 3])), (q 4, .inr (0, [.int 0, .ref tE, .int 0])), (q 5, .inr (1, [.int 0, .int (-1)])), (q 6, .inl (cO, 10, .inr (.inr (.inr (.inr (va_up (va_up (va_up (va_up (fun _ => none) (0 : Int32).toNatClampNeg (some (q 8))) (1 : Int32).toNatClampNeg (some (q 9))) (2 : Int32).toNatClampNeg (some (q 10))) (3 : Int32).toNatClampNeg (some (q 11)))))))), (q 7, .inl (cO2, 10, .inr (.inr (.inr (.inr (va_up (va_up (va_up (fun _ => none) (0 : Int32).toNatClampNeg (some (q 16))) (1 : Int32).toNatClampNeg (some (q 17))) (2 : Int32).toNatClampNeg (some (q 18)))))))), (q 8, .inr (2, [.int 0, .ref (q 12), .int 1])), (q 9, .inr (2, [.int 1, .ref (q 13), .int 0])), (q 10, .inr (2, [.int 2, .ref (q 14), .int 0])), (q 11, .inr (2, [.int 3, .ref (q 15), .int 0])), (q 12, .inr (1, [.int 0, .int (-1)])), (q 13, .inr (1, [.int 0, .int (-1)])), (q 14, .inr (1, [.int 0, .int (-1)])), (q 15, .inr (1, [.int 0, .int (-1)])), (q 16, .inr (5, [.int 2, .int 0, .int 0, .int 0])), (q 17, .inr (5, [.int 3, .int 0, .int 0, .int 0])), (q 18, .inr (5, [.int 4, .int 0, .int 0, .int 0]))] sz)) (va_Qi (fun (_ : Int32) (_ : Unit) => False) (fun _ _ => True) (gb_ro sz)) (vx_X (fun _ : Unit => True) (fun E _ _ => (E = "java/lang/IndexOutOfBoundsException" ∧ (p0 = p0))) (gb_ro sz)) 1 6 (gb_ro sz) := by
  refine vx_ofW (cc := cX5_move) (maxL := 6) (ret := (some .int)) (by decide) rfl ?_
  intro p e s m args below meth c s₁ B hml hno hv
  obtain ⟨rfl, hsz, hZT, hZ, hP, hK, hD0⟩ := hv
  have hx := B.exec
  have hb := B.bytes
  have hr := B.returns
  have hts := atoms_spec (ws := wsX5_move) B.pre
  have hown : s.vm.findClass RX5 = some m.cls := findClass_of_methodNamed B.named
  have hlocks := B.notSynchronized
  subst hsz
  have hD := hD0
  generalize hAe : gb_ro s.heap.size = A at hZ ⊢
  have hA : ∀ q : Nat, s.heap.size ≤ q → A q := fun q h => by rw [← hAe]; exact h
  have hS : va_S A s.heap s.heap [] := va_S.rf
  have hP : va_P (dC, dI) vwCl [(q 0, .inr (6, [.ref (q 1), .ref (q 2), .ref (q 3), .ref (q 4), .ref (q 5), .int dv, .int 0])), (q 1, .inr (0, [.int m4, .ref (q 6), .int 4])), (q 2, .inr (0, [.int 0, .ref tE, .int 0])), (q 3, .inr (0, [.int m3, .ref (q 7), .int 3])), (q 4, .inr (0, [.int 0, .ref tE, .int 0])), (q 5, .inr (1, [.int 0, .int (-1)])), (q 6, .inl (cO, 10, .inr (.inr (.inr (.inr (va_up (va_up (va_up (va_up (fun _ => none) (0 : Int32).toNatClampNeg (some (q 8))) (1 : Int32).toNatClampNeg (some (q 9))) (2 : Int32).toNatClampNeg (some (q 10))) (3 : Int32).toNatClampNeg (some (q 11)))))))), (q 7, .inl (cO2, 10, .inr (.inr (.inr (.inr (va_up (va_up (va_up (fun _ => none) (0 : Int32).toNatClampNeg (some (q 16))) (1 : Int32).toNatClampNeg (some (q 17))) (2 : Int32).toNatClampNeg (some (q 18)))))))), (q 8, .inr (2, [.int 0, .ref (q 12), .int 1])), (q 9, .inr (2, [.int 1, .ref (q 13), .int 0])), (q 10, .inr (2, [.int 2, .ref (q 14), .int 0])), (q 11, .inr (2, [.int 3, .ref (q 15), .int 0])), (q 12, .inr (1, [.int 0, .int (-1)])), (q 13, .inr (1, [.int 0, .int (-1)])), (q 14, .inr (1, [.int 0, .int (-1)])), (q 15, .inr (1, [.int 0, .int (-1)])), (q 16, .inr (5, [.int 2, .int 0, .int 0, .int 0])), (q 17, .inr (5, [.int 3, .int 0, .int 0, .int 0])), (q 18, .inr (5, [.int 4, .int 0, .int 0, .int 0]))] s.heap := hP
  have hl := lv_entry ([.ref (q 0), .int p0, .int p1, .int p2]) (n := 6) (Nat.le_of_ble_eq_true rfl)
  rw [lg_entry_eq]
  generalize (lg_sl ([.ref (q 0), .int p0, .int p1, .int p2]) ++ List.replicate (6 - (lg_sl ([.ref (q 0), .int p0, .int p1, .int p2])).length) Slot.unset).toArray = ls at hl ⊢
  have hl : lv_has ls 6 [(0, .ref (q 0)), (1, .int p0), (2, .int p1), (3, .int p2)] := hl
  refine lv_aload_n hx hb dX5_move_0 rfl (lv_at hl 0 rfl) ?_
  refine lv_iload_n hx hb dX5_move_1 rfl (lv_at hl 1 rfl) ?_
  have hFc := gb_free hA hS
  refine vx_callv (vx_runV (As := [.int p0]) (rest := []) ⟨hx, hb, hml, hown, hts⟩ (c_X5_requireLot l hl9 kS tE dC dI s.heap.size q cO cO2 m4 m3 dv p0) (cwV 1 hts gX5_move_X5_requireLot rfl rfl rfl (by decide +kernel) ⟨Nat.le_of_ble_eq_true rfl, Nat.le_of_ble_eq_true rfl⟩) (gb_preV hZT hZ hS hFc hP hD hK (va_recv hK hP (ci := 6) (q0 := 0) rfl rfl)) rfl rfl hl.1 rfl (lv_room (Nat.le_of_ble_eq_true rfl)) dX5_move_2 ⟨Nat.le_of_ble_eq_true rfl, Nat.le_of_ble_eq_true rfl⟩) hS (fun q _ h => hFc q h) hFc (fun q _ h => hFc q h) (fun E9 ce q9 u t H locs ht hvm hw hB hz1 hk1 hS hce hcv hcl => ?_) (fun u t H locs ht hvm hw hB hz1 hk1 hS => ?_)
  · obtain ⟨rfl, hq0⟩ := hB
    exact vx_out (fun x h9 => (hno x h9).elim) hlocks hce hcv hcl (fun t ht ha => ⟨(), trivial, ⟨rfl, (lb_67 p0 hq0)⟩, hS.F ht⟩) hS.2.2 (Nat.le_of_ble_eq_true rfl) (Nat.le_of_ble_eq_true rfl)
  · have w_2 := hw
    have hP := gb_keep hP hk1
    exact (lb_68 w_2).elim

theorem lb_69 (p0 : Int32) (hq0 : p0 = p0) : p0 = p0 := by
  (try simp only [sp_hunger, sp_setCut, sp_setWarm, sp_setFrost, sp_setPeople, sp_stock, sp_changed, sp_fill, sp_pass, gb_okD, gb_okG, gb_okW, gb_days, gb_in, gb_lt, gb_le, gb_eq, gb_l0, gb_l1, gb_l2, gb_l3, gb_l4, gb_l5, gb_l10, gb_l19, gb_l20, gb_l40, gb_l60, gb_l1000, gb_l1500, gb_lm1, gb_l65536, true_and, and_true, false_and, and_false, true_or, or_true, false_or, or_false, not_true_eq_false, not_false_eq_true, ne_eq] at *) <;> omega
theorem lb_70 (w_2 : False) : False := by
  (try simp only [sp_hunger, sp_setCut, sp_setWarm, sp_setFrost, sp_setPeople, sp_stock, sp_changed, sp_fill, sp_pass, gb_okD, gb_okG, gb_okW, gb_days, gb_in, gb_lt, gb_le, gb_eq, gb_l0, gb_l1, gb_l2, gb_l3, gb_l4, gb_l5, gb_l10, gb_l19, gb_l20, gb_l40, gb_l60, gb_l1000, gb_l1500, gb_lm1, gb_l65536, true_and, and_true, false_and, and_false, true_or, or_true, false_or, or_false, not_true_eq_false, not_false_eq_true, ne_eq] at *) <;> omega
set_option maxHeartbeats 4000000 in
set_option maxRecDepth 100000 in
theorem c_X5_count (l : Launch) (hl9 : l.stackTraces = false) (kS : Nat → Nat) (tE : Nat) (dC : Nat → ClassId) (dI : Nat → Nat → Nat) (sz : Nat) (q : Nat → Nat) (cO : ClassId) (cO2 : ClassId) (m4 : Int32) (m3 : Int32) (dv : Int32) (p0 : Int32) (p1 : Int32) : vx_Met l yX5_count wsX5_count ({ frames := 8, cells := 1, slots := 6, locals := 124 }) (va_Pc [.ref (q 0), .int p0, .int p1] (gb_Pw kS tE (gb_ro sz) (dC, dI) [(cO, .object "java/lang/Object"), (cO2, .object "java/lang/Object")] [(q 0, .inr (6, [.ref (q 1), .ref (q 2), .ref (q 3), .ref (q 4), .ref (q 5), .int dv, .int 0])), (q 1, .inr (0, [.int m4, .ref (q 6), .int 4])), (q 2, .inr (0, [.int 0, .ref tE, .int 0])), (q 3, .inr (0, [.int m3, .ref (q 7), .int 3])), (q 4, .inr (0, [.int 0, .ref tE, .int 0])), (q 5, .inr (1, [.int 0, .int (-1)])), (q 6, .inl (cO, 10, .inr (.inr (.inr (.inr (va_up (va_up (va_up (va_up (fun _ => none) (0 : Int32).toNatClampNeg (some (q 8))) (1 : Int32).toNatClampNeg (some (q 9))) (2 : Int32).toNatClampNeg (some (q 10))) (3 : Int32).toNatClampNeg (some (q 11)))))))), (q 7, .inl (cO2, 10, .inr (.inr (.inr (.inr (va_up (va_up (va_up (fun _ => none) (0 : Int32).toNatClampNeg (some (q 16))) (1 : Int32).toNatClampNeg (some (q 17))) (2 : Int32).toNatClampNeg (some (q 18)))))))), (q 8, .inr (2, [.int 0, .ref (q 12), .int 1])), (q 9, .inr (2, [.int 1, .ref (q 13), .int 0])), (q 10, .inr (2, [.int 2, .ref (q 14), .int 0])), (q 11, .inr (2, [.int 3, .ref (q 15), .int 0])), (q 12, .inr (1, [.int 0, .int (-1)])), (q 13, .inr (1, [.int 0, .int (-1)])), (q 14, .inr (1, [.int 0, .int (-1)])), (q 15, .inr (1, [.int 0, .int (-1)])), (q 16, .inr (5, [.int 2, .int 0, .int 0, .int 0])), (q 17, .inr (5, [.int 3, .int 0, .int 0, .int 0])), (q 18, .inr (5, [.int 4, .int 0, .int 0, .int 0]))] sz)) (va_Qi (fun (_ : Int32) (_ : Unit) => False) (fun _ _ => True) (gb_ro sz)) (vx_X (fun _ : Unit => True) (fun E _ _ => (E = "java/lang/IndexOutOfBoundsException" ∧ (p0 = p0))) (gb_ro sz)) 1 6 (gb_ro sz) := by
  refine vx_ofW (cc := cX5_count) (maxL := 5) (ret := (some .int)) (by decide) rfl ?_
  intro p e s m args below meth c s₁ B hml hno hv
  obtain ⟨rfl, hsz, hZT, hZ, hP, hK, hD0⟩ := hv
  have hx := B.exec
  have hb := B.bytes
  have hr := B.returns
  have hts := atoms_spec (ws := wsX5_count) B.pre
  have hown : s.vm.findClass RX5 = some m.cls := findClass_of_methodNamed B.named
  have hlocks := B.notSynchronized
  subst hsz
  have hD := hD0
  generalize hAe : gb_ro s.heap.size = A at hZ ⊢
  have hA : ∀ q : Nat, s.heap.size ≤ q → A q := fun q h => by rw [← hAe]; exact h
  have hS : va_S A s.heap s.heap [] := va_S.rf
  have hP : va_P (dC, dI) vwCl [(q 0, .inr (6, [.ref (q 1), .ref (q 2), .ref (q 3), .ref (q 4), .ref (q 5), .int dv, .int 0])), (q 1, .inr (0, [.int m4, .ref (q 6), .int 4])), (q 2, .inr (0, [.int 0, .ref tE, .int 0])), (q 3, .inr (0, [.int m3, .ref (q 7), .int 3])), (q 4, .inr (0, [.int 0, .ref tE, .int 0])), (q 5, .inr (1, [.int 0, .int (-1)])), (q 6, .inl (cO, 10, .inr (.inr (.inr (.inr (va_up (va_up (va_up (va_up (fun _ => none) (0 : Int32).toNatClampNeg (some (q 8))) (1 : Int32).toNatClampNeg (some (q 9))) (2 : Int32).toNatClampNeg (some (q 10))) (3 : Int32).toNatClampNeg (some (q 11)))))))), (q 7, .inl (cO2, 10, .inr (.inr (.inr (.inr (va_up (va_up (va_up (fun _ => none) (0 : Int32).toNatClampNeg (some (q 16))) (1 : Int32).toNatClampNeg (some (q 17))) (2 : Int32).toNatClampNeg (some (q 18)))))))), (q 8, .inr (2, [.int 0, .ref (q 12), .int 1])), (q 9, .inr (2, [.int 1, .ref (q 13), .int 0])), (q 10, .inr (2, [.int 2, .ref (q 14), .int 0])), (q 11, .inr (2, [.int 3, .ref (q 15), .int 0])), (q 12, .inr (1, [.int 0, .int (-1)])), (q 13, .inr (1, [.int 0, .int (-1)])), (q 14, .inr (1, [.int 0, .int (-1)])), (q 15, .inr (1, [.int 0, .int (-1)])), (q 16, .inr (5, [.int 2, .int 0, .int 0, .int 0])), (q 17, .inr (5, [.int 3, .int 0, .int 0, .int 0])), (q 18, .inr (5, [.int 4, .int 0, .int 0, .int 0]))] s.heap := hP
  have hl := lv_entry ([.ref (q 0), .int p0, .int p1]) (n := 5) (Nat.le_of_ble_eq_true rfl)
  rw [lg_entry_eq]
  generalize (lg_sl ([.ref (q 0), .int p0, .int p1]) ++ List.replicate (5 - (lg_sl ([.ref (q 0), .int p0, .int p1])).length) Slot.unset).toArray = ls at hl ⊢
  have hl : lv_has ls 5 [(0, .ref (q 0)), (1, .int p0), (2, .int p1)] := hl
  refine lv_aload_n hx hb dX5_count_0 rfl (lv_at hl 0 rfl) ?_
  refine lv_iload_n hx hb dX5_count_1 rfl (lv_at hl 1 rfl) ?_
  have hFc := gb_free hA hS
  refine vx_callv (vx_runV (As := [.int p0]) (rest := []) ⟨hx, hb, hml, hown, hts⟩ (c_X5_requireLot l hl9 kS tE dC dI s.heap.size q cO cO2 m4 m3 dv p0) (cwV 1 hts gX5_count_X5_requireLot rfl rfl rfl (by decide +kernel) ⟨Nat.le_of_ble_eq_true rfl, Nat.le_of_ble_eq_true rfl⟩) (gb_preV hZT hZ hS hFc hP hD hK (va_recv hK hP (ci := 6) (q0 := 0) rfl rfl)) rfl rfl hl.1 rfl (lv_room (Nat.le_of_ble_eq_true rfl)) dX5_count_2 ⟨Nat.le_of_ble_eq_true rfl, Nat.le_of_ble_eq_true rfl⟩) hS (fun q _ h => hFc q h) hFc (fun q _ h => hFc q h) (fun E9 ce q9 u t H locs ht hvm hw hB hz1 hk1 hS hce hcv hcl => ?_) (fun u t H locs ht hvm hw hB hz1 hk1 hS => ?_)
  · obtain ⟨rfl, hq0⟩ := hB
    exact vx_out (fun x h9 => (hno x h9).elim) hlocks hce hcv hcl (fun t ht ha => ⟨(), trivial, ⟨rfl, (lb_69 p0 hq0)⟩, hS.F ht⟩) hS.2.2 (Nat.le_of_ble_eq_true rfl) (Nat.le_of_ble_eq_true rfl)
  · have w_2 := hw
    have hP := gb_keep hP hk1
    exact (lb_70 w_2).elim

theorem lb_71 (p0 : Int32) (hq0 : p0 = p0) : p0 = p0 := by
  (try simp only [sp_hunger, sp_setCut, sp_setWarm, sp_setFrost, sp_setPeople, sp_stock, sp_changed, sp_fill, sp_pass, gb_okD, gb_okG, gb_okW, gb_days, gb_in, gb_lt, gb_le, gb_eq, gb_l0, gb_l1, gb_l2, gb_l3, gb_l4, gb_l5, gb_l10, gb_l19, gb_l20, gb_l40, gb_l60, gb_l1000, gb_l1500, gb_lm1, gb_l65536, true_and, and_true, false_and, and_false, true_or, or_true, false_or, or_false, not_true_eq_false, not_false_eq_true, ne_eq] at *) <;> omega
theorem lb_72 (w_2 : False) : False := by
  (try simp only [sp_hunger, sp_setCut, sp_setWarm, sp_setFrost, sp_setPeople, sp_stock, sp_changed, sp_fill, sp_pass, gb_okD, gb_okG, gb_okW, gb_days, gb_in, gb_lt, gb_le, gb_eq, gb_l0, gb_l1, gb_l2, gb_l3, gb_l4, gb_l5, gb_l10, gb_l19, gb_l20, gb_l40, gb_l60, gb_l1000, gb_l1500, gb_lm1, gb_l65536, true_and, and_true, false_and, and_false, true_or, or_true, false_or, or_false, not_true_eq_false, not_false_eq_true, ne_eq] at *) <;> omega
set_option maxHeartbeats 4000000 in
set_option maxRecDepth 100000 in
theorem c_X5_amount (l : Launch) (hl9 : l.stackTraces = false) (kS : Nat → Nat) (tE : Nat) (dC : Nat → ClassId) (dI : Nat → Nat → Nat) (sz : Nat) (q : Nat → Nat) (cO : ClassId) (cO2 : ClassId) (m4 : Int32) (m3 : Int32) (dv : Int32) (p0 : Int32) : vx_Met l yX5_amount wsX5_amount ({ frames := 8, cells := 1, slots := 6, locals := 124 }) (va_Pc [.ref (q 0), .int p0] (gb_Pw kS tE (gb_ro sz) (dC, dI) [(cO, .object "java/lang/Object"), (cO2, .object "java/lang/Object")] [(q 0, .inr (6, [.ref (q 1), .ref (q 2), .ref (q 3), .ref (q 4), .ref (q 5), .int dv, .int 0])), (q 1, .inr (0, [.int m4, .ref (q 6), .int 4])), (q 2, .inr (0, [.int 0, .ref tE, .int 0])), (q 3, .inr (0, [.int m3, .ref (q 7), .int 3])), (q 4, .inr (0, [.int 0, .ref tE, .int 0])), (q 5, .inr (1, [.int 0, .int (-1)])), (q 6, .inl (cO, 10, .inr (.inr (.inr (.inr (va_up (va_up (va_up (va_up (fun _ => none) (0 : Int32).toNatClampNeg (some (q 8))) (1 : Int32).toNatClampNeg (some (q 9))) (2 : Int32).toNatClampNeg (some (q 10))) (3 : Int32).toNatClampNeg (some (q 11)))))))), (q 7, .inl (cO2, 10, .inr (.inr (.inr (.inr (va_up (va_up (va_up (fun _ => none) (0 : Int32).toNatClampNeg (some (q 16))) (1 : Int32).toNatClampNeg (some (q 17))) (2 : Int32).toNatClampNeg (some (q 18)))))))), (q 8, .inr (2, [.int 0, .ref (q 12), .int 1])), (q 9, .inr (2, [.int 1, .ref (q 13), .int 0])), (q 10, .inr (2, [.int 2, .ref (q 14), .int 0])), (q 11, .inr (2, [.int 3, .ref (q 15), .int 0])), (q 12, .inr (1, [.int 0, .int (-1)])), (q 13, .inr (1, [.int 0, .int (-1)])), (q 14, .inr (1, [.int 0, .int (-1)])), (q 15, .inr (1, [.int 0, .int (-1)])), (q 16, .inr (5, [.int 2, .int 0, .int 0, .int 0])), (q 17, .inr (5, [.int 3, .int 0, .int 0, .int 0])), (q 18, .inr (5, [.int 4, .int 0, .int 0, .int 0]))] sz)) (va_Qi (fun (_ : Int32) (_ : Unit) => False) (fun _ _ => True) (gb_ro sz)) (vx_X (fun _ : Unit => True) (fun E _ _ => (E = "java/lang/IndexOutOfBoundsException" ∧ (p0 = p0))) (gb_ro sz)) 1 6 (gb_ro sz) := by
  refine vx_ofW (cc := cX5_amount) (maxL := 2) (ret := (some .int)) (by decide) rfl ?_
  intro p e s m args below meth c s₁ B hml hno hv
  obtain ⟨rfl, hsz, hZT, hZ, hP, hK, hD0⟩ := hv
  have hx := B.exec
  have hb := B.bytes
  have hr := B.returns
  have hts := atoms_spec (ws := wsX5_amount) B.pre
  have hown : s.vm.findClass RX5 = some m.cls := findClass_of_methodNamed B.named
  have hlocks := B.notSynchronized
  subst hsz
  have hD := hD0
  generalize hAe : gb_ro s.heap.size = A at hZ ⊢
  have hA : ∀ q : Nat, s.heap.size ≤ q → A q := fun q h => by rw [← hAe]; exact h
  have hS : va_S A s.heap s.heap [] := va_S.rf
  have hP : va_P (dC, dI) vwCl [(q 0, .inr (6, [.ref (q 1), .ref (q 2), .ref (q 3), .ref (q 4), .ref (q 5), .int dv, .int 0])), (q 1, .inr (0, [.int m4, .ref (q 6), .int 4])), (q 2, .inr (0, [.int 0, .ref tE, .int 0])), (q 3, .inr (0, [.int m3, .ref (q 7), .int 3])), (q 4, .inr (0, [.int 0, .ref tE, .int 0])), (q 5, .inr (1, [.int 0, .int (-1)])), (q 6, .inl (cO, 10, .inr (.inr (.inr (.inr (va_up (va_up (va_up (va_up (fun _ => none) (0 : Int32).toNatClampNeg (some (q 8))) (1 : Int32).toNatClampNeg (some (q 9))) (2 : Int32).toNatClampNeg (some (q 10))) (3 : Int32).toNatClampNeg (some (q 11)))))))), (q 7, .inl (cO2, 10, .inr (.inr (.inr (.inr (va_up (va_up (va_up (fun _ => none) (0 : Int32).toNatClampNeg (some (q 16))) (1 : Int32).toNatClampNeg (some (q 17))) (2 : Int32).toNatClampNeg (some (q 18)))))))), (q 8, .inr (2, [.int 0, .ref (q 12), .int 1])), (q 9, .inr (2, [.int 1, .ref (q 13), .int 0])), (q 10, .inr (2, [.int 2, .ref (q 14), .int 0])), (q 11, .inr (2, [.int 3, .ref (q 15), .int 0])), (q 12, .inr (1, [.int 0, .int (-1)])), (q 13, .inr (1, [.int 0, .int (-1)])), (q 14, .inr (1, [.int 0, .int (-1)])), (q 15, .inr (1, [.int 0, .int (-1)])), (q 16, .inr (5, [.int 2, .int 0, .int 0, .int 0])), (q 17, .inr (5, [.int 3, .int 0, .int 0, .int 0])), (q 18, .inr (5, [.int 4, .int 0, .int 0, .int 0]))] s.heap := hP
  have hl := lv_entry ([.ref (q 0), .int p0]) (n := 2) (Nat.le_of_ble_eq_true rfl)
  rw [lg_entry_eq]
  generalize (lg_sl ([.ref (q 0), .int p0]) ++ List.replicate (2 - (lg_sl ([.ref (q 0), .int p0])).length) Slot.unset).toArray = ls at hl ⊢
  have hl : lv_has ls 2 [(0, .ref (q 0)), (1, .int p0)] := hl
  refine lv_aload_n hx hb dX5_amount_0 rfl (lv_at hl 0 rfl) ?_
  refine lv_iload_n hx hb dX5_amount_1 rfl (lv_at hl 1 rfl) ?_
  have hFc := gb_free hA hS
  refine vx_callv (vx_runV (As := [.int p0]) (rest := []) ⟨hx, hb, hml, hown, hts⟩ (c_X5_requireLot l hl9 kS tE dC dI s.heap.size q cO cO2 m4 m3 dv p0) (cwV 1 hts gX5_amount_X5_requireLot rfl rfl rfl (by decide +kernel) ⟨Nat.le_of_ble_eq_true rfl, Nat.le_of_ble_eq_true rfl⟩) (gb_preV hZT hZ hS hFc hP hD hK (va_recv hK hP (ci := 6) (q0 := 0) rfl rfl)) rfl rfl hl.1 rfl (lv_room (Nat.le_of_ble_eq_true rfl)) dX5_amount_2 ⟨Nat.le_of_ble_eq_true rfl, Nat.le_of_ble_eq_true rfl⟩) hS (fun q _ h => hFc q h) hFc (fun q _ h => hFc q h) (fun E9 ce q9 u t H locs ht hvm hw hB hz1 hk1 hS hce hcv hcl => ?_) (fun u t H locs ht hvm hw hB hz1 hk1 hS => ?_)
  · obtain ⟨rfl, hq0⟩ := hB
    exact vx_out (fun x h9 => (hno x h9).elim) hlocks hce hcv hcl (fun t ht ha => ⟨(), trivial, ⟨rfl, (lb_71 p0 hq0)⟩, hS.F ht⟩) hS.2.2 (Nat.le_of_ble_eq_true rfl) (Nat.le_of_ble_eq_true rfl)
  · have w_2 := hw
    have hP := gb_keep hP hk1
    exact (lb_72 w_2).elim

theorem lb_73 (p0 : Int32) (hq0 : p0 = p0) : p0 = p0 := by
  (try simp only [sp_hunger, sp_setCut, sp_setWarm, sp_setFrost, sp_setPeople, sp_stock, sp_changed, sp_fill, sp_pass, gb_okD, gb_okG, gb_okW, gb_days, gb_in, gb_lt, gb_le, gb_eq, gb_l0, gb_l1, gb_l2, gb_l3, gb_l4, gb_l5, gb_l10, gb_l19, gb_l20, gb_l40, gb_l60, gb_l1000, gb_l1500, gb_lm1, gb_l65536, true_and, and_true, false_and, and_false, true_or, or_true, false_or, or_false, not_true_eq_false, not_false_eq_true, ne_eq] at *) <;> omega
theorem lb_74 (w_2 : False) : False := by
  (try simp only [sp_hunger, sp_setCut, sp_setWarm, sp_setFrost, sp_setPeople, sp_stock, sp_changed, sp_fill, sp_pass, gb_okD, gb_okG, gb_okW, gb_days, gb_in, gb_lt, gb_le, gb_eq, gb_l0, gb_l1, gb_l2, gb_l3, gb_l4, gb_l5, gb_l10, gb_l19, gb_l20, gb_l40, gb_l60, gb_l1000, gb_l1500, gb_lm1, gb_l65536, true_and, and_true, false_and, and_false, true_or, or_true, false_or, or_false, not_true_eq_false, not_false_eq_true, ne_eq] at *) <;> omega
set_option maxHeartbeats 4000000 in
set_option maxRecDepth 100000 in
theorem c_X5_about (l : Launch) (hl9 : l.stackTraces = false) (kS : Nat → Nat) (tE : Nat) (dC : Nat → ClassId) (dI : Nat → Nat → Nat) (sz : Nat) (q : Nat → Nat) (cO : ClassId) (cO2 : ClassId) (m4 : Int32) (m3 : Int32) (dv : Int32) (p0 : Int32) : vx_Met l yX5_about wsX5_about ({ frames := 8, cells := 1, slots := 6, locals := 124 }) (va_Pc [.ref (q 0), .int p0] (gb_Pw kS tE (gb_ro sz) (dC, dI) [(cO, .object "java/lang/Object"), (cO2, .object "java/lang/Object")] [(q 0, .inr (6, [.ref (q 1), .ref (q 2), .ref (q 3), .ref (q 4), .ref (q 5), .int dv, .int 0])), (q 1, .inr (0, [.int m4, .ref (q 6), .int 4])), (q 2, .inr (0, [.int 0, .ref tE, .int 0])), (q 3, .inr (0, [.int m3, .ref (q 7), .int 3])), (q 4, .inr (0, [.int 0, .ref tE, .int 0])), (q 5, .inr (1, [.int 0, .int (-1)])), (q 6, .inl (cO, 10, .inr (.inr (.inr (.inr (va_up (va_up (va_up (va_up (fun _ => none) (0 : Int32).toNatClampNeg (some (q 8))) (1 : Int32).toNatClampNeg (some (q 9))) (2 : Int32).toNatClampNeg (some (q 10))) (3 : Int32).toNatClampNeg (some (q 11)))))))), (q 7, .inl (cO2, 10, .inr (.inr (.inr (.inr (va_up (va_up (va_up (fun _ => none) (0 : Int32).toNatClampNeg (some (q 16))) (1 : Int32).toNatClampNeg (some (q 17))) (2 : Int32).toNatClampNeg (some (q 18)))))))), (q 8, .inr (2, [.int 0, .ref (q 12), .int 1])), (q 9, .inr (2, [.int 1, .ref (q 13), .int 0])), (q 10, .inr (2, [.int 2, .ref (q 14), .int 0])), (q 11, .inr (2, [.int 3, .ref (q 15), .int 0])), (q 12, .inr (1, [.int 0, .int (-1)])), (q 13, .inr (1, [.int 0, .int (-1)])), (q 14, .inr (1, [.int 0, .int (-1)])), (q 15, .inr (1, [.int 0, .int (-1)])), (q 16, .inr (5, [.int 2, .int 0, .int 0, .int 0])), (q 17, .inr (5, [.int 3, .int 0, .int 0, .int 0])), (q 18, .inr (5, [.int 4, .int 0, .int 0, .int 0]))] sz)) (va_Qi (fun (_ : Int32) (_ : Unit) => False) (fun _ _ => True) (gb_ro sz)) (vx_X (fun _ : Unit => True) (fun E _ _ => (E = "java/lang/IndexOutOfBoundsException" ∧ (p0 = p0))) (gb_ro sz)) 1 6 (gb_ro sz) := by
  refine vx_ofW (cc := cX5_about) (maxL := 3) (ret := (some .int)) (by decide) rfl ?_
  intro p e s m args below meth c s₁ B hml hno hv
  obtain ⟨rfl, hsz, hZT, hZ, hP, hK, hD0⟩ := hv
  have hx := B.exec
  have hb := B.bytes
  have hr := B.returns
  have hts := atoms_spec (ws := wsX5_about) B.pre
  have hown : s.vm.findClass RX5 = some m.cls := findClass_of_methodNamed B.named
  have hlocks := B.notSynchronized
  subst hsz
  have hD := hD0
  generalize hAe : gb_ro s.heap.size = A at hZ ⊢
  have hA : ∀ q : Nat, s.heap.size ≤ q → A q := fun q h => by rw [← hAe]; exact h
  have hS : va_S A s.heap s.heap [] := va_S.rf
  have hP : va_P (dC, dI) vwCl [(q 0, .inr (6, [.ref (q 1), .ref (q 2), .ref (q 3), .ref (q 4), .ref (q 5), .int dv, .int 0])), (q 1, .inr (0, [.int m4, .ref (q 6), .int 4])), (q 2, .inr (0, [.int 0, .ref tE, .int 0])), (q 3, .inr (0, [.int m3, .ref (q 7), .int 3])), (q 4, .inr (0, [.int 0, .ref tE, .int 0])), (q 5, .inr (1, [.int 0, .int (-1)])), (q 6, .inl (cO, 10, .inr (.inr (.inr (.inr (va_up (va_up (va_up (va_up (fun _ => none) (0 : Int32).toNatClampNeg (some (q 8))) (1 : Int32).toNatClampNeg (some (q 9))) (2 : Int32).toNatClampNeg (some (q 10))) (3 : Int32).toNatClampNeg (some (q 11)))))))), (q 7, .inl (cO2, 10, .inr (.inr (.inr (.inr (va_up (va_up (va_up (fun _ => none) (0 : Int32).toNatClampNeg (some (q 16))) (1 : Int32).toNatClampNeg (some (q 17))) (2 : Int32).toNatClampNeg (some (q 18)))))))), (q 8, .inr (2, [.int 0, .ref (q 12), .int 1])), (q 9, .inr (2, [.int 1, .ref (q 13), .int 0])), (q 10, .inr (2, [.int 2, .ref (q 14), .int 0])), (q 11, .inr (2, [.int 3, .ref (q 15), .int 0])), (q 12, .inr (1, [.int 0, .int (-1)])), (q 13, .inr (1, [.int 0, .int (-1)])), (q 14, .inr (1, [.int 0, .int (-1)])), (q 15, .inr (1, [.int 0, .int (-1)])), (q 16, .inr (5, [.int 2, .int 0, .int 0, .int 0])), (q 17, .inr (5, [.int 3, .int 0, .int 0, .int 0])), (q 18, .inr (5, [.int 4, .int 0, .int 0, .int 0]))] s.heap := hP
  have hl := lv_entry ([.ref (q 0), .int p0]) (n := 3) (Nat.le_of_ble_eq_true rfl)
  rw [lg_entry_eq]
  generalize (lg_sl ([.ref (q 0), .int p0]) ++ List.replicate (3 - (lg_sl ([.ref (q 0), .int p0])).length) Slot.unset).toArray = ls at hl ⊢
  have hl : lv_has ls 3 [(0, .ref (q 0)), (1, .int p0)] := hl
  refine lv_aload_n hx hb dX5_about_0 rfl (lv_at hl 0 rfl) ?_
  refine lv_iload_n hx hb dX5_about_1 rfl (lv_at hl 1 rfl) ?_
  have hFc := gb_free hA hS
  refine vx_callv (vx_runV (As := [.int p0]) (rest := []) ⟨hx, hb, hml, hown, hts⟩ (c_X5_requireLot l hl9 kS tE dC dI s.heap.size q cO cO2 m4 m3 dv p0) (cwV 1 hts gX5_about_X5_requireLot rfl rfl rfl (by decide +kernel) ⟨Nat.le_of_ble_eq_true rfl, Nat.le_of_ble_eq_true rfl⟩) (gb_preV hZT hZ hS hFc hP hD hK (va_recv hK hP (ci := 6) (q0 := 0) rfl rfl)) rfl rfl hl.1 rfl (lv_room (Nat.le_of_ble_eq_true rfl)) dX5_about_2 ⟨Nat.le_of_ble_eq_true rfl, Nat.le_of_ble_eq_true rfl⟩) hS (fun q _ h => hFc q h) hFc (fun q _ h => hFc q h) (fun E9 ce q9 u t H locs ht hvm hw hB hz1 hk1 hS hce hcv hcl => ?_) (fun u t H locs ht hvm hw hB hz1 hk1 hS => ?_)
  · obtain ⟨rfl, hq0⟩ := hB
    exact vx_out (fun x h9 => (hno x h9).elim) hlocks hce hcv hcl (fun t ht ha => ⟨(), trivial, ⟨rfl, (lb_73 p0 hq0)⟩, hS.F ht⟩) hS.2.2 (Nat.le_of_ble_eq_true rfl) (Nat.le_of_ble_eq_true rfl)
  · have w_2 := hw
    have hP := gb_keep hP hk1
    exact (lb_74 w_2).elim

theorem lb_75 (p0 : Int32) (hq0 : p0 = p0) : p0 = p0 := by
  (try simp only [sp_hunger, sp_setCut, sp_setWarm, sp_setFrost, sp_setPeople, sp_stock, sp_changed, sp_fill, sp_pass, gb_okD, gb_okG, gb_okW, gb_days, gb_in, gb_lt, gb_le, gb_eq, gb_l0, gb_l1, gb_l2, gb_l3, gb_l4, gb_l5, gb_l10, gb_l19, gb_l20, gb_l40, gb_l60, gb_l1000, gb_l1500, gb_lm1, gb_l65536, true_and, and_true, false_and, and_false, true_or, or_true, false_or, or_false, not_true_eq_false, not_false_eq_true, ne_eq] at *) <;> omega
theorem lb_76 (w_2 : False) : False := by
  (try simp only [sp_hunger, sp_setCut, sp_setWarm, sp_setFrost, sp_setPeople, sp_stock, sp_changed, sp_fill, sp_pass, gb_okD, gb_okG, gb_okW, gb_days, gb_in, gb_lt, gb_le, gb_eq, gb_l0, gb_l1, gb_l2, gb_l3, gb_l4, gb_l5, gb_l10, gb_l19, gb_l20, gb_l40, gb_l60, gb_l1000, gb_l1500, gb_lm1, gb_l65536, true_and, and_true, false_and, and_false, true_or, or_true, false_or, or_false, not_true_eq_false, not_false_eq_true, ne_eq] at *) <;> omega
set_option maxHeartbeats 4000000 in
set_option maxRecDepth 100000 in
theorem c_X5_changeOf (l : Launch) (hl9 : l.stackTraces = false) (kS : Nat → Nat) (tE : Nat) (dC : Nat → ClassId) (dI : Nat → Nat → Nat) (sz : Nat) (q : Nat → Nat) (cO : ClassId) (cO2 : ClassId) (m4 : Int32) (m3 : Int32) (dv : Int32) (p0 : Int32) : vx_Met l yX5_changeOf wsX5_changeOf ({ frames := 8, cells := 1, slots := 6, locals := 124 }) (va_Pc [.ref (q 0), .int p0] (gb_Pw kS tE (gb_ro sz) (dC, dI) [(cO, .object "java/lang/Object"), (cO2, .object "java/lang/Object")] [(q 0, .inr (6, [.ref (q 1), .ref (q 2), .ref (q 3), .ref (q 4), .ref (q 5), .int dv, .int 0])), (q 1, .inr (0, [.int m4, .ref (q 6), .int 4])), (q 2, .inr (0, [.int 0, .ref tE, .int 0])), (q 3, .inr (0, [.int m3, .ref (q 7), .int 3])), (q 4, .inr (0, [.int 0, .ref tE, .int 0])), (q 5, .inr (1, [.int 0, .int (-1)])), (q 6, .inl (cO, 10, .inr (.inr (.inr (.inr (va_up (va_up (va_up (va_up (fun _ => none) (0 : Int32).toNatClampNeg (some (q 8))) (1 : Int32).toNatClampNeg (some (q 9))) (2 : Int32).toNatClampNeg (some (q 10))) (3 : Int32).toNatClampNeg (some (q 11)))))))), (q 7, .inl (cO2, 10, .inr (.inr (.inr (.inr (va_up (va_up (va_up (fun _ => none) (0 : Int32).toNatClampNeg (some (q 16))) (1 : Int32).toNatClampNeg (some (q 17))) (2 : Int32).toNatClampNeg (some (q 18)))))))), (q 8, .inr (2, [.int 0, .ref (q 12), .int 1])), (q 9, .inr (2, [.int 1, .ref (q 13), .int 0])), (q 10, .inr (2, [.int 2, .ref (q 14), .int 0])), (q 11, .inr (2, [.int 3, .ref (q 15), .int 0])), (q 12, .inr (1, [.int 0, .int (-1)])), (q 13, .inr (1, [.int 0, .int (-1)])), (q 14, .inr (1, [.int 0, .int (-1)])), (q 15, .inr (1, [.int 0, .int (-1)])), (q 16, .inr (5, [.int 2, .int 0, .int 0, .int 0])), (q 17, .inr (5, [.int 3, .int 0, .int 0, .int 0])), (q 18, .inr (5, [.int 4, .int 0, .int 0, .int 0]))] sz)) (va_Qi (fun (_ : Int32) (_ : Unit) => False) (fun _ _ => True) (gb_ro sz)) (vx_X (fun _ : Unit => True) (fun E _ _ => (E = "java/lang/IndexOutOfBoundsException" ∧ (p0 = p0))) (gb_ro sz)) 1 6 (gb_ro sz) := by
  refine vx_ofW (cc := cX5_changeOf) (maxL := 2) (ret := (some .int)) (by decide) rfl ?_
  intro p e s m args below meth c s₁ B hml hno hv
  obtain ⟨rfl, hsz, hZT, hZ, hP, hK, hD0⟩ := hv
  have hx := B.exec
  have hb := B.bytes
  have hr := B.returns
  have hts := atoms_spec (ws := wsX5_changeOf) B.pre
  have hown : s.vm.findClass RX5 = some m.cls := findClass_of_methodNamed B.named
  have hlocks := B.notSynchronized
  subst hsz
  have hD := hD0
  generalize hAe : gb_ro s.heap.size = A at hZ ⊢
  have hA : ∀ q : Nat, s.heap.size ≤ q → A q := fun q h => by rw [← hAe]; exact h
  have hS : va_S A s.heap s.heap [] := va_S.rf
  have hP : va_P (dC, dI) vwCl [(q 0, .inr (6, [.ref (q 1), .ref (q 2), .ref (q 3), .ref (q 4), .ref (q 5), .int dv, .int 0])), (q 1, .inr (0, [.int m4, .ref (q 6), .int 4])), (q 2, .inr (0, [.int 0, .ref tE, .int 0])), (q 3, .inr (0, [.int m3, .ref (q 7), .int 3])), (q 4, .inr (0, [.int 0, .ref tE, .int 0])), (q 5, .inr (1, [.int 0, .int (-1)])), (q 6, .inl (cO, 10, .inr (.inr (.inr (.inr (va_up (va_up (va_up (va_up (fun _ => none) (0 : Int32).toNatClampNeg (some (q 8))) (1 : Int32).toNatClampNeg (some (q 9))) (2 : Int32).toNatClampNeg (some (q 10))) (3 : Int32).toNatClampNeg (some (q 11)))))))), (q 7, .inl (cO2, 10, .inr (.inr (.inr (.inr (va_up (va_up (va_up (fun _ => none) (0 : Int32).toNatClampNeg (some (q 16))) (1 : Int32).toNatClampNeg (some (q 17))) (2 : Int32).toNatClampNeg (some (q 18)))))))), (q 8, .inr (2, [.int 0, .ref (q 12), .int 1])), (q 9, .inr (2, [.int 1, .ref (q 13), .int 0])), (q 10, .inr (2, [.int 2, .ref (q 14), .int 0])), (q 11, .inr (2, [.int 3, .ref (q 15), .int 0])), (q 12, .inr (1, [.int 0, .int (-1)])), (q 13, .inr (1, [.int 0, .int (-1)])), (q 14, .inr (1, [.int 0, .int (-1)])), (q 15, .inr (1, [.int 0, .int (-1)])), (q 16, .inr (5, [.int 2, .int 0, .int 0, .int 0])), (q 17, .inr (5, [.int 3, .int 0, .int 0, .int 0])), (q 18, .inr (5, [.int 4, .int 0, .int 0, .int 0]))] s.heap := hP
  have hl := lv_entry ([.ref (q 0), .int p0]) (n := 2) (Nat.le_of_ble_eq_true rfl)
  rw [lg_entry_eq]
  generalize (lg_sl ([.ref (q 0), .int p0]) ++ List.replicate (2 - (lg_sl ([.ref (q 0), .int p0])).length) Slot.unset).toArray = ls at hl ⊢
  have hl : lv_has ls 2 [(0, .ref (q 0)), (1, .int p0)] := hl
  refine lv_aload_n hx hb dX5_changeOf_0 rfl (lv_at hl 0 rfl) ?_
  refine lv_iload_n hx hb dX5_changeOf_1 rfl (lv_at hl 1 rfl) ?_
  have hFc := gb_free hA hS
  refine vx_callv (vx_runV (As := [.int p0]) (rest := []) ⟨hx, hb, hml, hown, hts⟩ (c_X5_requireEntry l hl9 kS tE dC dI s.heap.size q cO cO2 m4 m3 dv p0) (cwV 1 hts gX5_changeOf_X5_requireEntry rfl rfl rfl (by decide +kernel) ⟨Nat.le_of_ble_eq_true rfl, Nat.le_of_ble_eq_true rfl⟩) (gb_preV hZT hZ hS hFc hP hD hK (va_recv hK hP (ci := 6) (q0 := 0) rfl rfl)) rfl rfl hl.1 rfl (lv_room (Nat.le_of_ble_eq_true rfl)) dX5_changeOf_2 ⟨Nat.le_of_ble_eq_true rfl, Nat.le_of_ble_eq_true rfl⟩) hS (fun q _ h => hFc q h) hFc (fun q _ h => hFc q h) (fun E9 ce q9 u t H locs ht hvm hw hB hz1 hk1 hS hce hcv hcl => ?_) (fun u t H locs ht hvm hw hB hz1 hk1 hS => ?_)
  · obtain ⟨rfl, hq0⟩ := hB
    exact vx_out (fun x h9 => (hno x h9).elim) hlocks hce hcv hcl (fun t ht ha => ⟨(), trivial, ⟨rfl, (lb_75 p0 hq0)⟩, hS.F ht⟩) hS.2.2 (Nat.le_of_ble_eq_true rfl) (Nat.le_of_ble_eq_true rfl)
  · have w_2 := hw
    have hP := gb_keep hP hk1
    exact (lb_76 w_2).elim

theorem lb_77 (p0 : Int32) (hq0 : p0 = p0) : p0 = p0 := by
  (try simp only [sp_hunger, sp_setCut, sp_setWarm, sp_setFrost, sp_setPeople, sp_stock, sp_changed, sp_fill, sp_pass, gb_okD, gb_okG, gb_okW, gb_days, gb_in, gb_lt, gb_le, gb_eq, gb_l0, gb_l1, gb_l2, gb_l3, gb_l4, gb_l5, gb_l10, gb_l19, gb_l20, gb_l40, gb_l60, gb_l1000, gb_l1500, gb_lm1, gb_l65536, true_and, and_true, false_and, and_false, true_or, or_true, false_or, or_false, not_true_eq_false, not_false_eq_true, ne_eq] at *) <;> omega
theorem lb_78 (w_2 : False) : False := by
  (try simp only [sp_hunger, sp_setCut, sp_setWarm, sp_setFrost, sp_setPeople, sp_stock, sp_changed, sp_fill, sp_pass, gb_okD, gb_okG, gb_okW, gb_days, gb_in, gb_lt, gb_le, gb_eq, gb_l0, gb_l1, gb_l2, gb_l3, gb_l4, gb_l5, gb_l10, gb_l19, gb_l20, gb_l40, gb_l60, gb_l1000, gb_l1500, gb_lm1, gb_l65536, true_and, and_true, false_and, and_false, true_or, or_true, false_or, or_false, not_true_eq_false, not_false_eq_true, ne_eq] at *) <;> omega
set_option maxHeartbeats 4000000 in
set_option maxRecDepth 100000 in
theorem c_X5_lotOf (l : Launch) (hl9 : l.stackTraces = false) (kS : Nat → Nat) (tE : Nat) (dC : Nat → ClassId) (dI : Nat → Nat → Nat) (sz : Nat) (q : Nat → Nat) (cO : ClassId) (cO2 : ClassId) (m4 : Int32) (m3 : Int32) (dv : Int32) (p0 : Int32) : vx_Met l yX5_lotOf wsX5_lotOf ({ frames := 8, cells := 1, slots := 6, locals := 124 }) (va_Pc [.ref (q 0), .int p0] (gb_Pw kS tE (gb_ro sz) (dC, dI) [(cO, .object "java/lang/Object"), (cO2, .object "java/lang/Object")] [(q 0, .inr (6, [.ref (q 1), .ref (q 2), .ref (q 3), .ref (q 4), .ref (q 5), .int dv, .int 0])), (q 1, .inr (0, [.int m4, .ref (q 6), .int 4])), (q 2, .inr (0, [.int 0, .ref tE, .int 0])), (q 3, .inr (0, [.int m3, .ref (q 7), .int 3])), (q 4, .inr (0, [.int 0, .ref tE, .int 0])), (q 5, .inr (1, [.int 0, .int (-1)])), (q 6, .inl (cO, 10, .inr (.inr (.inr (.inr (va_up (va_up (va_up (va_up (fun _ => none) (0 : Int32).toNatClampNeg (some (q 8))) (1 : Int32).toNatClampNeg (some (q 9))) (2 : Int32).toNatClampNeg (some (q 10))) (3 : Int32).toNatClampNeg (some (q 11)))))))), (q 7, .inl (cO2, 10, .inr (.inr (.inr (.inr (va_up (va_up (va_up (fun _ => none) (0 : Int32).toNatClampNeg (some (q 16))) (1 : Int32).toNatClampNeg (some (q 17))) (2 : Int32).toNatClampNeg (some (q 18)))))))), (q 8, .inr (2, [.int 0, .ref (q 12), .int 1])), (q 9, .inr (2, [.int 1, .ref (q 13), .int 0])), (q 10, .inr (2, [.int 2, .ref (q 14), .int 0])), (q 11, .inr (2, [.int 3, .ref (q 15), .int 0])), (q 12, .inr (1, [.int 0, .int (-1)])), (q 13, .inr (1, [.int 0, .int (-1)])), (q 14, .inr (1, [.int 0, .int (-1)])), (q 15, .inr (1, [.int 0, .int (-1)])), (q 16, .inr (5, [.int 2, .int 0, .int 0, .int 0])), (q 17, .inr (5, [.int 3, .int 0, .int 0, .int 0])), (q 18, .inr (5, [.int 4, .int 0, .int 0, .int 0]))] sz)) (va_Qi (fun (_ : Int32) (_ : Unit) => False) (fun _ _ => True) (gb_ro sz)) (vx_X (fun _ : Unit => True) (fun E _ _ => (E = "java/lang/IndexOutOfBoundsException" ∧ (p0 = p0))) (gb_ro sz)) 1 6 (gb_ro sz) := by
  refine vx_ofW (cc := cX5_lotOf) (maxL := 3) (ret := (some .int)) (by decide) rfl ?_
  intro p e s m args below meth c s₁ B hml hno hv
  obtain ⟨rfl, hsz, hZT, hZ, hP, hK, hD0⟩ := hv
  have hx := B.exec
  have hb := B.bytes
  have hr := B.returns
  have hts := atoms_spec (ws := wsX5_lotOf) B.pre
  have hown : s.vm.findClass RX5 = some m.cls := findClass_of_methodNamed B.named
  have hlocks := B.notSynchronized
  subst hsz
  have hD := hD0
  generalize hAe : gb_ro s.heap.size = A at hZ ⊢
  have hA : ∀ q : Nat, s.heap.size ≤ q → A q := fun q h => by rw [← hAe]; exact h
  have hS : va_S A s.heap s.heap [] := va_S.rf
  have hP : va_P (dC, dI) vwCl [(q 0, .inr (6, [.ref (q 1), .ref (q 2), .ref (q 3), .ref (q 4), .ref (q 5), .int dv, .int 0])), (q 1, .inr (0, [.int m4, .ref (q 6), .int 4])), (q 2, .inr (0, [.int 0, .ref tE, .int 0])), (q 3, .inr (0, [.int m3, .ref (q 7), .int 3])), (q 4, .inr (0, [.int 0, .ref tE, .int 0])), (q 5, .inr (1, [.int 0, .int (-1)])), (q 6, .inl (cO, 10, .inr (.inr (.inr (.inr (va_up (va_up (va_up (va_up (fun _ => none) (0 : Int32).toNatClampNeg (some (q 8))) (1 : Int32).toNatClampNeg (some (q 9))) (2 : Int32).toNatClampNeg (some (q 10))) (3 : Int32).toNatClampNeg (some (q 11)))))))), (q 7, .inl (cO2, 10, .inr (.inr (.inr (.inr (va_up (va_up (va_up (fun _ => none) (0 : Int32).toNatClampNeg (some (q 16))) (1 : Int32).toNatClampNeg (some (q 17))) (2 : Int32).toNatClampNeg (some (q 18)))))))), (q 8, .inr (2, [.int 0, .ref (q 12), .int 1])), (q 9, .inr (2, [.int 1, .ref (q 13), .int 0])), (q 10, .inr (2, [.int 2, .ref (q 14), .int 0])), (q 11, .inr (2, [.int 3, .ref (q 15), .int 0])), (q 12, .inr (1, [.int 0, .int (-1)])), (q 13, .inr (1, [.int 0, .int (-1)])), (q 14, .inr (1, [.int 0, .int (-1)])), (q 15, .inr (1, [.int 0, .int (-1)])), (q 16, .inr (5, [.int 2, .int 0, .int 0, .int 0])), (q 17, .inr (5, [.int 3, .int 0, .int 0, .int 0])), (q 18, .inr (5, [.int 4, .int 0, .int 0, .int 0]))] s.heap := hP
  have hl := lv_entry ([.ref (q 0), .int p0]) (n := 3) (Nat.le_of_ble_eq_true rfl)
  rw [lg_entry_eq]
  generalize (lg_sl ([.ref (q 0), .int p0]) ++ List.replicate (3 - (lg_sl ([.ref (q 0), .int p0])).length) Slot.unset).toArray = ls at hl ⊢
  have hl : lv_has ls 3 [(0, .ref (q 0)), (1, .int p0)] := hl
  refine lv_aload_n hx hb dX5_lotOf_0 rfl (lv_at hl 0 rfl) ?_
  refine lv_iload_n hx hb dX5_lotOf_1 rfl (lv_at hl 1 rfl) ?_
  have hFc := gb_free hA hS
  refine vx_callv (vx_runV (As := [.int p0]) (rest := []) ⟨hx, hb, hml, hown, hts⟩ (c_X5_requireEntry l hl9 kS tE dC dI s.heap.size q cO cO2 m4 m3 dv p0) (cwV 1 hts gX5_lotOf_X5_requireEntry rfl rfl rfl (by decide +kernel) ⟨Nat.le_of_ble_eq_true rfl, Nat.le_of_ble_eq_true rfl⟩) (gb_preV hZT hZ hS hFc hP hD hK (va_recv hK hP (ci := 6) (q0 := 0) rfl rfl)) rfl rfl hl.1 rfl (lv_room (Nat.le_of_ble_eq_true rfl)) dX5_lotOf_2 ⟨Nat.le_of_ble_eq_true rfl, Nat.le_of_ble_eq_true rfl⟩) hS (fun q _ h => hFc q h) hFc (fun q _ h => hFc q h) (fun E9 ce q9 u t H locs ht hvm hw hB hz1 hk1 hS hce hcv hcl => ?_) (fun u t H locs ht hvm hw hB hz1 hk1 hS => ?_)
  · obtain ⟨rfl, hq0⟩ := hB
    exact vx_out (fun x h9 => (hno x h9).elim) hlocks hce hcv hcl (fun t ht ha => ⟨(), trivial, ⟨rfl, (lb_77 p0 hq0)⟩, hS.F ht⟩) hS.2.2 (Nat.le_of_ble_eq_true rfl) (Nat.le_of_ble_eq_true rfl)
  · have w_2 := hw
    have hP := gb_keep hP hk1
    exact (lb_78 w_2).elim

theorem lb_79 (p0 : Int32) (p1 : Int32) (hq0 : p0 < 0 ∨ ¬ p0 < 4) : sp_stock p0 p1 1 0 := by
  (try simp only [sp_hunger, sp_setCut, sp_setWarm, sp_setFrost, sp_setPeople, sp_stock, sp_changed, sp_fill, sp_pass, gb_okD, gb_okG, gb_okW, gb_days, gb_in, gb_lt, gb_le, gb_eq, gb_l0, gb_l1, gb_l2, gb_l3, gb_l4, gb_l5, gb_l10, gb_l19, gb_l20, gb_l40, gb_l60, gb_l1000, gb_l1500, gb_lm1, gb_l65536, true_and, and_true, false_and, and_false, true_or, or_true, false_or, or_false, not_true_eq_false, not_false_eq_true, ne_eq] at *) <;> omega
theorem lb_80 (p0 : Int32) (p1 : Int32) (w_2 : ¬ p0 < 0 ∧ p0 < 4) (hq0 : p1 < 0 ∨ ¬ p1 < 5) : sp_stock p0 p1 1 0 := by
  (try simp only [sp_hunger, sp_setCut, sp_setWarm, sp_setFrost, sp_setPeople, sp_stock, sp_changed, sp_fill, sp_pass, gb_okD, gb_okG, gb_okW, gb_days, gb_in, gb_lt, gb_le, gb_eq, gb_l0, gb_l1, gb_l2, gb_l3, gb_l4, gb_l5, gb_l10, gb_l19, gb_l20, gb_l40, gb_l60, gb_l1000, gb_l1500, gb_lm1, gb_l65536, true_and, and_true, false_and, and_false, true_or, or_true, false_or, or_false, not_true_eq_false, not_false_eq_true, ne_eq] at *) <;> omega
theorem lb_81 (p0 : Int32) (p1 : Int32) (w_2 : ¬ p0 < 0 ∧ p0 < 4) (w_4 : ¬ p1 < 0 ∧ p1 < 5) : sp_stock p0 p1 0 (0 : Int32) := by
  (try simp only [sp_hunger, sp_setCut, sp_setWarm, sp_setFrost, sp_setPeople, sp_stock, sp_changed, sp_fill, sp_pass, gb_okD, gb_okG, gb_okW, gb_days, gb_in, gb_lt, gb_le, gb_eq, gb_l0, gb_l1, gb_l2, gb_l3, gb_l4, gb_l5, gb_l10, gb_l19, gb_l20, gb_l40, gb_l60, gb_l1000, gb_l1500, gb_lm1, gb_l65536, true_and, and_true, false_and, and_false, true_or, or_true, false_or, or_false, not_true_eq_false, not_false_eq_true, ne_eq] at *) <;> omega
set_option maxHeartbeats 4000000 in
set_option maxRecDepth 100000 in
theorem c_X5_stock (l : Launch) (hl9 : l.stackTraces = false) (kS : Nat → Nat) (tE : Nat) (dC : Nat → ClassId) (dI : Nat → Nat → Nat) (sz : Nat) (q : Nat → Nat) (cO : ClassId) (cO2 : ClassId) (m4 : Int32) (m3 : Int32) (dv : Int32) (p0 : Int32) (p1 : Int32) : vx_Met l yX5_stock wsX5_stock ({ frames := 8, cells := 2, slots := 12, locals := 124 }) (va_Pc [.ref (q 0), .int p0, .int p1] (gb_Pw kS tE (gb_ro sz) (dC, dI) [(cO, .object "java/lang/Object"), (cO2, .object "java/lang/Object")] [(q 0, .inr (6, [.ref (q 1), .ref (q 2), .ref (q 3), .ref (q 4), .ref (q 5), .int dv, .int 0])), (q 1, .inr (0, [.int m4, .ref (q 6), .int 4])), (q 2, .inr (0, [.int 0, .ref tE, .int 0])), (q 3, .inr (0, [.int m3, .ref (q 7), .int 3])), (q 4, .inr (0, [.int 0, .ref tE, .int 0])), (q 5, .inr (1, [.int 0, .int (-1)])), (q 6, .inl (cO, 10, .inr (.inr (.inr (.inr (va_up (va_up (va_up (va_up (fun _ => none) (0 : Int32).toNatClampNeg (some (q 8))) (1 : Int32).toNatClampNeg (some (q 9))) (2 : Int32).toNatClampNeg (some (q 10))) (3 : Int32).toNatClampNeg (some (q 11)))))))), (q 7, .inl (cO2, 10, .inr (.inr (.inr (.inr (va_up (va_up (va_up (fun _ => none) (0 : Int32).toNatClampNeg (some (q 16))) (1 : Int32).toNatClampNeg (some (q 17))) (2 : Int32).toNatClampNeg (some (q 18)))))))), (q 8, .inr (2, [.int 0, .ref (q 12), .int 1])), (q 9, .inr (2, [.int 1, .ref (q 13), .int 0])), (q 10, .inr (2, [.int 2, .ref (q 14), .int 0])), (q 11, .inr (2, [.int 3, .ref (q 15), .int 0])), (q 12, .inr (1, [.int 0, .int (-1)])), (q 13, .inr (1, [.int 0, .int (-1)])), (q 14, .inr (1, [.int 0, .int (-1)])), (q 15, .inr (1, [.int 0, .int (-1)])), (q 16, .inr (5, [.int 2, .int 0, .int 0, .int 0])), (q 17, .inr (5, [.int 3, .int 0, .int 0, .int 0])), (q 18, .inr (5, [.int 4, .int 0, .int 0, .int 0]))] sz)) (va_Qi (fun (r : Int32) (_ : Unit) => sp_stock p0 p1 0 r) (fun _ _ => True) (gb_ro sz)) (vx_X (fun _ : Unit => True) (fun E _ _ => (E = "java/lang/IndexOutOfBoundsException" ∧ (sp_stock p0 p1 1 0))) (gb_ro sz)) 2 12 (gb_ro sz) := by
  refine vx_ofW (cc := cX5_stock) (maxL := 6) (ret := (some .int)) (by decide) rfl ?_
  intro p e s m args below meth c s₁ B hml hno hv
  obtain ⟨rfl, hsz, hZT, hZ, hP, hK, hD0⟩ := hv
  have hx := B.exec
  have hb := B.bytes
  have hr := B.returns
  have hts := atoms_spec (ws := wsX5_stock) B.pre
  have hown : s.vm.findClass RX5 = some m.cls := findClass_of_methodNamed B.named
  have hlocks := B.notSynchronized
  subst hsz
  have hi6 : ∀ w ∈ u_ws RX5 TX5 7, w ∈ wsX5_stock := by decide +kernel
  have hD := hD0
  generalize hAe : gb_ro s.heap.size = A at hZ ⊢
  have hA : ∀ q : Nat, s.heap.size ≤ q → A q := fun q h => by rw [← hAe]; exact h
  have hS : va_S A s.heap s.heap [] := va_S.rf
  have hP : va_P (dC, dI) vwCl [(q 0, .inr (6, [.ref (q 1), .ref (q 2), .ref (q 3), .ref (q 4), .ref (q 5), .int dv, .int 0])), (q 1, .inr (0, [.int m4, .ref (q 6), .int 4])), (q 2, .inr (0, [.int 0, .ref tE, .int 0])), (q 3, .inr (0, [.int m3, .ref (q 7), .int 3])), (q 4, .inr (0, [.int 0, .ref tE, .int 0])), (q 5, .inr (1, [.int 0, .int (-1)])), (q 6, .inl (cO, 10, .inr (.inr (.inr (.inr (va_up (va_up (va_up (va_up (fun _ => none) (0 : Int32).toNatClampNeg (some (q 8))) (1 : Int32).toNatClampNeg (some (q 9))) (2 : Int32).toNatClampNeg (some (q 10))) (3 : Int32).toNatClampNeg (some (q 11)))))))), (q 7, .inl (cO2, 10, .inr (.inr (.inr (.inr (va_up (va_up (va_up (fun _ => none) (0 : Int32).toNatClampNeg (some (q 16))) (1 : Int32).toNatClampNeg (some (q 17))) (2 : Int32).toNatClampNeg (some (q 18)))))))), (q 8, .inr (2, [.int 0, .ref (q 12), .int 1])), (q 9, .inr (2, [.int 1, .ref (q 13), .int 0])), (q 10, .inr (2, [.int 2, .ref (q 14), .int 0])), (q 11, .inr (2, [.int 3, .ref (q 15), .int 0])), (q 12, .inr (1, [.int 0, .int (-1)])), (q 13, .inr (1, [.int 0, .int (-1)])), (q 14, .inr (1, [.int 0, .int (-1)])), (q 15, .inr (1, [.int 0, .int (-1)])), (q 16, .inr (5, [.int 2, .int 0, .int 0, .int 0])), (q 17, .inr (5, [.int 3, .int 0, .int 0, .int 0])), (q 18, .inr (5, [.int 4, .int 0, .int 0, .int 0]))] s.heap := hP
  have hl := lv_entry ([.ref (q 0), .int p0, .int p1]) (n := 6) (Nat.le_of_ble_eq_true rfl)
  rw [lg_entry_eq]
  generalize (lg_sl ([.ref (q 0), .int p0, .int p1]) ++ List.replicate (6 - (lg_sl ([.ref (q 0), .int p0, .int p1])).length) Slot.unset).toArray = ls at hl ⊢
  have hl : lv_has ls 6 [(0, .ref (q 0)), (1, .int p0), (2, .int p1)] := hl
  refine lv_aload_n hx hb dX5_stock_0 rfl (lv_at hl 0 rfl) ?_
  refine lv_iload_n hx hb dX5_stock_1 rfl (lv_at hl 1 rfl) ?_
  have hFc := gb_free hA hS
  refine vx_callv (vx_runV (As := [.int p0]) (rest := []) ⟨hx, hb, hml, hown, hts⟩ (c_X5_requireDepot l hl9 kS tE dC dI s.heap.size q cO cO2 m4 m3 dv p0) (cwV 1 hts gX5_stock_X5_requireDepot rfl rfl rfl (by decide +kernel) ⟨Nat.le_of_ble_eq_true rfl, Nat.le_of_ble_eq_true rfl⟩) (gb_preV hZT hZ hS hFc hP hD hK (va_recv hK hP (ci := 6) (q0 := 0) rfl rfl)) rfl rfl hl.1 rfl (lv_room (Nat.le_of_ble_eq_true rfl)) dX5_stock_2 ⟨Nat.le_of_ble_eq_true rfl, Nat.le_of_ble_eq_true rfl⟩) hS (fun q _ h => hFc q h) hFc (fun q _ h => hFc q h) (fun E9 ce q9 u t H locs ht hvm hw hB hz1 hk1 hS hce hcv hcl => ?_) (fun u t H locs ht hvm hw hB hz1 hk1 hS => ?_)
  · obtain ⟨rfl, hq0⟩ := hB
    exact vx_out (fun x h9 => (hno x h9).elim) hlocks hce hcv hcl (fun t ht ha => ⟨(), trivial, ⟨rfl, (lb_79 p0 p1 hq0)⟩, hS.F ht⟩) hS.2.2 (Nat.le_of_ble_eq_true rfl) (Nat.le_of_ble_eq_true rfl)
  · have w_2 := hw
    have hP := gb_keep hP hk1
    refine lv_aload_n hx hb dX5_stock_5 rfl (lv_at hl 0 rfl) ?_
    refine lv_iload_n hx hb dX5_stock_6 rfl (lv_at hl 2 rfl) ?_
    have hPc := hP.sub (ws' := []) [] rfl
    have hDc := hD.sub (ws' := []) [] (by decide) rfl
    have hKc := hK.sub (tys' := []) [] rfl
    have hFc := gb_free hA hS
    refine vx_callv (vx_runV (As := [.int p1]) (rest := []) ⟨hx, hb, hml, hown, hts⟩ (c_X5_requireGood l hl9 kS tE dC dI H.size q p1) (cwV 1 hts gX5_stock_X5_requireGood rfl rfl rfl (by decide +kernel) ⟨Nat.le_of_ble_eq_true rfl, Nat.le_of_ble_eq_true rfl⟩) (gb_preV hZT hZ hS hFc hPc hDc hKc (va_recv hK hP (ci := 6) (q0 := 0) rfl rfl)) rfl rfl hl.1 rfl (lv_room (Nat.le_of_ble_eq_true rfl)) dX5_stock_7 ⟨Nat.le_of_ble_eq_true rfl, Nat.le_of_ble_eq_true rfl⟩) hS (fun q _ h => hFc q h) hFc (fun q _ h => hFc q h) (fun E9 ce q9 u t H locs ht hvm hw hB hz1 hk1 hS hce hcv hcl => ?_) (fun u t H locs ht hvm hw hB hz1 hk1 hS => ?_)
    · obtain ⟨rfl, hq0⟩ := hB
      exact vx_out (fun x h9 => (hno x h9).elim) hlocks hce hcv hcl (fun t ht ha => ⟨(), trivial, ⟨rfl, (lb_80 p0 p1 w_2 hq0)⟩, hS.F ht⟩) hS.2.2 (Nat.le_of_ble_eq_true rfl) (Nat.le_of_ble_eq_true rfl)
    · have w_4 := hw
      have hP := gb_keep hP hk1
      refine lv_iconst (v := 0) hx hb dX5_stock_10 (by decide) ?_
      refine lv_istore_n (lv' := [(3, .int 0), (0, .ref (q 0)), (1, .int p0), (2, .int p1)]) hx hb dX5_stock_11 rfl hl (by decide) rfl (fun ls hl => ?_)
      refine lv_iconst (v := 0) hx hb dX5_stock_12 (by decide) ?_
      refine lv_istore (lv' := [(4, .int 0), (3, .int 0), (0, .ref (q 0)), (1, .int p0), (2, .int p1)]) hx hb dX5_stock_13 hl (by decide) rfl (fun ls hl => ?_)
      refine lv_iload hx hb dX5_stock_15 (lv_at hl 0 rfl) ?_
      refine lv_aload_n hx hb dX5_stock_17 rfl (lv_at hl 2 rfl) ?_
      refine va_get (D := (dC, dI)) (ci := 6) (v := .ref (q 2)) (C := RX5) (T := TX5) (N := 7) hx hb hts hi6 hown hK hP 0 rfl rfl 1 (by decide) (hts (.fieldLink RX5 16 "GlacierBook" "allLots" "Ljava/util/ArrayList;") (by decide +kernel)) (fun _ h9 => h9) rfl dX5_stock_18 ?_
      have hPc := hP.sub (ws' := [(q 2, .inr (0, [.int 0, .ref tE, .int 0]))]) [2] rfl
      have hDc := hD.sub (ws' := [(q 2, .inr (0, [.int 0, .ref tE, .int 0]))]) [2] (by decide) rfl
      have hKc := hK.sub (tys' := []) [] rfl
      have hFc := gb_free hA hS
      refine va_calli (va_runV (As := []) (rest := [.int 0]) ⟨hx, hb, hml, hown, hts⟩ (c_Jx4a65c_size_8abf5 l hl9 kS tE dC dI H.size (q 2) (0 : Int32) tE (0 : Int32)) (cwV 0 hts gX5_stock_Jx4a65c_size_8abf5 rfl rfl rfl (by decide +kernel) ⟨Nat.le_of_ble_eq_true rfl, Nat.le_of_ble_eq_true rfl⟩) (gb_preV hZT hZ hS hFc hPc hDc hKc (va_recv hK hP (ci := 0) (q0 := 2) rfl rfl)) rfl rfl hl.1 rfl (lv_room (Nat.le_of_ble_eq_true rfl)) dX5_stock_21 ⟨Nat.le_of_ble_eq_true rfl, Nat.le_of_ble_eq_true rfl⟩) hS (fun q _ h => hFc q h) hFc (fun r_5 u t H locs ht hvm hw hB hz1 hk1 hS => ?_)
      have hP := gb_keep hP hk1
      subst hw
      refine lv_icmp_ge (tgt := 65) hx hb dX5_stock_24 (by decide) (fun _ => ?_) (fun c9 => absurd c9 (by decide))
      refine lv_iload_n hx hb dX5_stock_65 rfl (lv_at hl 1 rfl) ?_
      refine vx_ret ?_
      refine W.widen (k := 2) (n := 12) (Nat.le_of_ble_eq_true rfl) (Nat.le_of_ble_eq_true rfl) ?_
      exact W.iret (v := 0) hx hb hr (fun t ht hW => ⟨⟨0, (), rfl, (lb_81 p0 p1 w_2 w_4), trivial⟩, hS.F ht⟩) hS.2.2 dX5_stock_66

theorem lb_82 (p0 : Int32) (p1 : Int32) (hq0 : p0 < 0 ∨ ¬ p0 < 4) : sp_stock p0 p1 1 0 := by
  (try simp only [sp_hunger, sp_setCut, sp_setWarm, sp_setFrost, sp_setPeople, sp_stock, sp_changed, sp_fill, sp_pass, gb_okD, gb_okG, gb_okW, gb_days, gb_in, gb_lt, gb_le, gb_eq, gb_l0, gb_l1, gb_l2, gb_l3, gb_l4, gb_l5, gb_l10, gb_l19, gb_l20, gb_l40, gb_l60, gb_l1000, gb_l1500, gb_lm1, gb_l65536, true_and, and_true, false_and, and_false, true_or, or_true, false_or, or_false, not_true_eq_false, not_false_eq_true, ne_eq] at *) <;> omega
theorem lb_83 (p0 : Int32) (p1 : Int32) (w_2 : ¬ p0 < 0 ∧ p0 < 4) (hq0 : p1 < 0 ∨ ¬ p1 < 5) : sp_stock p0 p1 1 0 := by
  (try simp only [sp_hunger, sp_setCut, sp_setWarm, sp_setFrost, sp_setPeople, sp_stock, sp_changed, sp_fill, sp_pass, gb_okD, gb_okG, gb_okW, gb_days, gb_in, gb_lt, gb_le, gb_eq, gb_l0, gb_l1, gb_l2, gb_l3, gb_l4, gb_l5, gb_l10, gb_l19, gb_l20, gb_l40, gb_l60, gb_l1000, gb_l1500, gb_lm1, gb_l65536, true_and, and_true, false_and, and_false, true_or, or_true, false_or, or_false, not_true_eq_false, not_false_eq_true, ne_eq] at *) <;> omega
theorem lb_84 (p0 : Int32) (p1 : Int32) (w_2 : ¬ p0 < 0 ∧ p0 < 4) (w_4 : ¬ p1 < 0 ∧ p1 < 5) : sp_stock p0 p1 0 (0 : Int32) := by
  (try simp only [sp_hunger, sp_setCut, sp_setWarm, sp_setFrost, sp_setPeople, sp_stock, sp_changed, sp_fill, sp_pass, gb_okD, gb_okG, gb_okW, gb_days, gb_in, gb_lt, gb_le, gb_eq, gb_l0, gb_l1, gb_l2, gb_l3, gb_l4, gb_l5, gb_l10, gb_l19, gb_l20, gb_l40, gb_l60, gb_l1000, gb_l1500, gb_lm1, gb_l65536, true_and, and_true, false_and, and_false, true_or, or_true, false_or, or_false, not_true_eq_false, not_false_eq_true, ne_eq] at *) <;> omega
set_option maxHeartbeats 4000000 in
set_option maxRecDepth 100000 in
theorem c_X5_stockByJournal (l : Launch) (hl9 : l.stackTraces = false) (kS : Nat → Nat) (tE : Nat) (dC : Nat → ClassId) (dI : Nat → Nat → Nat) (sz : Nat) (q : Nat → Nat) (cO : ClassId) (cO2 : ClassId) (m4 : Int32) (m3 : Int32) (dv : Int32) (p0 : Int32) (p1 : Int32) : vx_Met l yX5_stockByJournal wsX5_stockByJournal ({ frames := 8, cells := 2, slots := 12, locals := 124 }) (va_Pc [.ref (q 0), .int p0, .int p1] (gb_Pw kS tE (gb_ro sz) (dC, dI) [(cO, .object "java/lang/Object"), (cO2, .object "java/lang/Object")] [(q 0, .inr (6, [.ref (q 1), .ref (q 2), .ref (q 3), .ref (q 4), .ref (q 5), .int dv, .int 0])), (q 1, .inr (0, [.int m4, .ref (q 6), .int 4])), (q 2, .inr (0, [.int 0, .ref tE, .int 0])), (q 3, .inr (0, [.int m3, .ref (q 7), .int 3])), (q 4, .inr (0, [.int 0, .ref tE, .int 0])), (q 5, .inr (1, [.int 0, .int (-1)])), (q 6, .inl (cO, 10, .inr (.inr (.inr (.inr (va_up (va_up (va_up (va_up (fun _ => none) (0 : Int32).toNatClampNeg (some (q 8))) (1 : Int32).toNatClampNeg (some (q 9))) (2 : Int32).toNatClampNeg (some (q 10))) (3 : Int32).toNatClampNeg (some (q 11)))))))), (q 7, .inl (cO2, 10, .inr (.inr (.inr (.inr (va_up (va_up (va_up (fun _ => none) (0 : Int32).toNatClampNeg (some (q 16))) (1 : Int32).toNatClampNeg (some (q 17))) (2 : Int32).toNatClampNeg (some (q 18)))))))), (q 8, .inr (2, [.int 0, .ref (q 12), .int 1])), (q 9, .inr (2, [.int 1, .ref (q 13), .int 0])), (q 10, .inr (2, [.int 2, .ref (q 14), .int 0])), (q 11, .inr (2, [.int 3, .ref (q 15), .int 0])), (q 12, .inr (1, [.int 0, .int (-1)])), (q 13, .inr (1, [.int 0, .int (-1)])), (q 14, .inr (1, [.int 0, .int (-1)])), (q 15, .inr (1, [.int 0, .int (-1)])), (q 16, .inr (5, [.int 2, .int 0, .int 0, .int 0])), (q 17, .inr (5, [.int 3, .int 0, .int 0, .int 0])), (q 18, .inr (5, [.int 4, .int 0, .int 0, .int 0]))] sz)) (va_Qi (fun (r : Int32) (_ : Unit) => sp_stock p0 p1 0 r) (fun _ _ => True) (gb_ro sz)) (vx_X (fun _ : Unit => True) (fun E _ _ => (E = "java/lang/IndexOutOfBoundsException" ∧ (sp_stock p0 p1 1 0))) (gb_ro sz)) 2 12 (gb_ro sz) := by
  refine vx_ofW (cc := cX5_stockByJournal) (maxL := 6) (ret := (some .int)) (by decide) rfl ?_
  intro p e s m args below meth c s₁ B hml hno hv
  obtain ⟨rfl, hsz, hZT, hZ, hP, hK, hD0⟩ := hv
  have hx := B.exec
  have hb := B.bytes
  have hr := B.returns
  have hts := atoms_spec (ws := wsX5_stockByJournal) B.pre
  have hown : s.vm.findClass RX5 = some m.cls := findClass_of_methodNamed B.named
  have hlocks := B.notSynchronized
  subst hsz
  have hi6 : ∀ w ∈ u_ws RX5 TX5 7, w ∈ wsX5_stockByJournal := by decide +kernel
  have hD := hD0
  generalize hAe : gb_ro s.heap.size = A at hZ ⊢
  have hA : ∀ q : Nat, s.heap.size ≤ q → A q := fun q h => by rw [← hAe]; exact h
  have hS : va_S A s.heap s.heap [] := va_S.rf
  have hP : va_P (dC, dI) vwCl [(q 0, .inr (6, [.ref (q 1), .ref (q 2), .ref (q 3), .ref (q 4), .ref (q 5), .int dv, .int 0])), (q 1, .inr (0, [.int m4, .ref (q 6), .int 4])), (q 2, .inr (0, [.int 0, .ref tE, .int 0])), (q 3, .inr (0, [.int m3, .ref (q 7), .int 3])), (q 4, .inr (0, [.int 0, .ref tE, .int 0])), (q 5, .inr (1, [.int 0, .int (-1)])), (q 6, .inl (cO, 10, .inr (.inr (.inr (.inr (va_up (va_up (va_up (va_up (fun _ => none) (0 : Int32).toNatClampNeg (some (q 8))) (1 : Int32).toNatClampNeg (some (q 9))) (2 : Int32).toNatClampNeg (some (q 10))) (3 : Int32).toNatClampNeg (some (q 11)))))))), (q 7, .inl (cO2, 10, .inr (.inr (.inr (.inr (va_up (va_up (va_up (fun _ => none) (0 : Int32).toNatClampNeg (some (q 16))) (1 : Int32).toNatClampNeg (some (q 17))) (2 : Int32).toNatClampNeg (some (q 18)))))))), (q 8, .inr (2, [.int 0, .ref (q 12), .int 1])), (q 9, .inr (2, [.int 1, .ref (q 13), .int 0])), (q 10, .inr (2, [.int 2, .ref (q 14), .int 0])), (q 11, .inr (2, [.int 3, .ref (q 15), .int 0])), (q 12, .inr (1, [.int 0, .int (-1)])), (q 13, .inr (1, [.int 0, .int (-1)])), (q 14, .inr (1, [.int 0, .int (-1)])), (q 15, .inr (1, [.int 0, .int (-1)])), (q 16, .inr (5, [.int 2, .int 0, .int 0, .int 0])), (q 17, .inr (5, [.int 3, .int 0, .int 0, .int 0])), (q 18, .inr (5, [.int 4, .int 0, .int 0, .int 0]))] s.heap := hP
  have hl := lv_entry ([.ref (q 0), .int p0, .int p1]) (n := 6) (Nat.le_of_ble_eq_true rfl)
  rw [lg_entry_eq]
  generalize (lg_sl ([.ref (q 0), .int p0, .int p1]) ++ List.replicate (6 - (lg_sl ([.ref (q 0), .int p0, .int p1])).length) Slot.unset).toArray = ls at hl ⊢
  have hl : lv_has ls 6 [(0, .ref (q 0)), (1, .int p0), (2, .int p1)] := hl
  refine lv_aload_n hx hb dX5_stockByJournal_0 rfl (lv_at hl 0 rfl) ?_
  refine lv_iload_n hx hb dX5_stockByJournal_1 rfl (lv_at hl 1 rfl) ?_
  have hFc := gb_free hA hS
  refine vx_callv (vx_runV (As := [.int p0]) (rest := []) ⟨hx, hb, hml, hown, hts⟩ (c_X5_requireDepot l hl9 kS tE dC dI s.heap.size q cO cO2 m4 m3 dv p0) (cwV 1 hts gX5_stockByJournal_X5_requireDepot rfl rfl rfl (by decide +kernel) ⟨Nat.le_of_ble_eq_true rfl, Nat.le_of_ble_eq_true rfl⟩) (gb_preV hZT hZ hS hFc hP hD hK (va_recv hK hP (ci := 6) (q0 := 0) rfl rfl)) rfl rfl hl.1 rfl (lv_room (Nat.le_of_ble_eq_true rfl)) dX5_stockByJournal_2 ⟨Nat.le_of_ble_eq_true rfl, Nat.le_of_ble_eq_true rfl⟩) hS (fun q _ h => hFc q h) hFc (fun q _ h => hFc q h) (fun E9 ce q9 u t H locs ht hvm hw hB hz1 hk1 hS hce hcv hcl => ?_) (fun u t H locs ht hvm hw hB hz1 hk1 hS => ?_)
  · obtain ⟨rfl, hq0⟩ := hB
    exact vx_out (fun x h9 => (hno x h9).elim) hlocks hce hcv hcl (fun t ht ha => ⟨(), trivial, ⟨rfl, (lb_82 p0 p1 hq0)⟩, hS.F ht⟩) hS.2.2 (Nat.le_of_ble_eq_true rfl) (Nat.le_of_ble_eq_true rfl)
  · have w_2 := hw
    have hP := gb_keep hP hk1
    refine lv_aload_n hx hb dX5_stockByJournal_5 rfl (lv_at hl 0 rfl) ?_
    refine lv_iload_n hx hb dX5_stockByJournal_6 rfl (lv_at hl 2 rfl) ?_
    have hPc := hP.sub (ws' := []) [] rfl
    have hDc := hD.sub (ws' := []) [] (by decide) rfl
    have hKc := hK.sub (tys' := []) [] rfl
    have hFc := gb_free hA hS
    refine vx_callv (vx_runV (As := [.int p1]) (rest := []) ⟨hx, hb, hml, hown, hts⟩ (c_X5_requireGood l hl9 kS tE dC dI H.size q p1) (cwV 1 hts gX5_stockByJournal_X5_requireGood rfl rfl rfl (by decide +kernel) ⟨Nat.le_of_ble_eq_true rfl, Nat.le_of_ble_eq_true rfl⟩) (gb_preV hZT hZ hS hFc hPc hDc hKc (va_recv hK hP (ci := 6) (q0 := 0) rfl rfl)) rfl rfl hl.1 rfl (lv_room (Nat.le_of_ble_eq_true rfl)) dX5_stockByJournal_7 ⟨Nat.le_of_ble_eq_true rfl, Nat.le_of_ble_eq_true rfl⟩) hS (fun q _ h => hFc q h) hFc (fun q _ h => hFc q h) (fun E9 ce q9 u t H locs ht hvm hw hB hz1 hk1 hS hce hcv hcl => ?_) (fun u t H locs ht hvm hw hB hz1 hk1 hS => ?_)
    · obtain ⟨rfl, hq0⟩ := hB
      exact vx_out (fun x h9 => (hno x h9).elim) hlocks hce hcv hcl (fun t ht ha => ⟨(), trivial, ⟨rfl, (lb_83 p0 p1 w_2 hq0)⟩, hS.F ht⟩) hS.2.2 (Nat.le_of_ble_eq_true rfl) (Nat.le_of_ble_eq_true rfl)
    · have w_4 := hw
      have hP := gb_keep hP hk1
      refine lv_iconst (v := 0) hx hb dX5_stockByJournal_10 (by decide) ?_
      refine lv_istore_n (lv' := [(3, .int 0), (0, .ref (q 0)), (1, .int p0), (2, .int p1)]) hx hb dX5_stockByJournal_11 rfl hl (by decide) rfl (fun ls hl => ?_)
      refine lv_iconst (v := 0) hx hb dX5_stockByJournal_12 (by decide) ?_
      refine lv_istore (lv' := [(4, .int 0), (3, .int 0), (0, .ref (q 0)), (1, .int p0), (2, .int p1)]) hx hb dX5_stockByJournal_13 hl (by decide) rfl (fun ls hl => ?_)
      refine lv_iload hx hb dX5_stockByJournal_15 (lv_at hl 0 rfl) ?_
      refine lv_aload_n hx hb dX5_stockByJournal_17 rfl (lv_at hl 2 rfl) ?_
      refine va_get (D := (dC, dI)) (ci := 6) (v := .ref (q 4)) (C := RX5) (T := TX5) (N := 7) hx hb hts hi6 hown hK hP 0 rfl rfl 3 (by decide) (hts (.fieldLink RX5 22 "GlacierBook" "journal" "Ljava/util/ArrayList;") (by decide +kernel)) (fun _ h9 => h9) rfl dX5_stockByJournal_18 ?_
      have hPc := hP.sub (ws' := [(q 4, .inr (0, [.int 0, .ref tE, .int 0]))]) [4] rfl
      have hDc := hD.sub (ws' := [(q 4, .inr (0, [.int 0, .ref tE, .int 0]))]) [4] (by decide) rfl
      have hKc := hK.sub (tys' := []) [] rfl
      have hFc := gb_free hA hS
      refine va_calli (va_runV (As := []) (rest := [.int 0]) ⟨hx, hb, hml, hown, hts⟩ (c_Jx4a65c_size_8abf5 l hl9 kS tE dC dI H.size (q 4) (0 : Int32) tE (0 : Int32)) (cwV 0 hts gX5_stockByJournal_Jx4a65c_size_8abf5 rfl rfl rfl (by decide +kernel) ⟨Nat.le_of_ble_eq_true rfl, Nat.le_of_ble_eq_true rfl⟩) (gb_preV hZT hZ hS hFc hPc hDc hKc (va_recv hK hP (ci := 0) (q0 := 4) rfl rfl)) rfl rfl hl.1 rfl (lv_room (Nat.le_of_ble_eq_true rfl)) dX5_stockByJournal_21 ⟨Nat.le_of_ble_eq_true rfl, Nat.le_of_ble_eq_true rfl⟩) hS (fun q _ h => hFc q h) hFc (fun r_5 u t H locs ht hvm hw hB hz1 hk1 hS => ?_)
      have hP := gb_keep hP hk1
      subst hw
      refine lv_icmp_ge (tgt := 68) hx hb dX5_stockByJournal_24 (by decide) (fun _ => ?_) (fun c9 => absurd c9 (by decide))
      refine lv_iload_n hx hb dX5_stockByJournal_68 rfl (lv_at hl 1 rfl) ?_
      refine vx_ret ?_
      refine W.widen (k := 2) (n := 12) (Nat.le_of_ble_eq_true rfl) (Nat.le_of_ble_eq_true rfl) ?_
      exact W.iret (v := 0) hx hb hr (fun t ht hW => ⟨⟨0, (), rfl, (lb_84 p0 p1 w_2 w_4), trivial⟩, hS.F ht⟩) hS.2.2 dX5_stockByJournal_69

theorem lb_85 (p0 : Int32) (p1 : Int32) (c_1 : 0 ≤ p0) (hq0 : p1 < (0 : Int32) ∨ ¬ p1 ≤ (5 : Int32)) : sp_changed p0 p1 1 0 := by
  (try simp only [sp_hunger, sp_setCut, sp_setWarm, sp_setFrost, sp_setPeople, sp_stock, sp_changed, sp_fill, sp_pass, gb_okD, gb_okG, gb_okW, gb_days, gb_in, gb_lt, gb_le, gb_eq, gb_l0, gb_l1, gb_l2, gb_l3, gb_l4, gb_l5, gb_l10, gb_l19, gb_l20, gb_l40, gb_l60, gb_l1000, gb_l1500, gb_lm1, gb_l65536, true_and, and_true, false_and, and_false, true_or, or_true, false_or, or_false, not_true_eq_false, not_false_eq_true, ne_eq] at *) <;> omega
theorem lb_86 (p0 : Int32) (p1 : Int32) (c_1 : 0 ≤ p0) (w_3 : ¬ p1 < (0 : Int32) ∧ p1 ≤ (5 : Int32)) : sp_changed p0 p1 0 (0 : Int32) := by
  (try simp only [sp_hunger, sp_setCut, sp_setWarm, sp_setFrost, sp_setPeople, sp_stock, sp_changed, sp_fill, sp_pass, gb_okD, gb_okG, gb_okW, gb_days, gb_in, gb_lt, gb_le, gb_eq, gb_l0, gb_l1, gb_l2, gb_l3, gb_l4, gb_l5, gb_l10, gb_l19, gb_l20, gb_l40, gb_l60, gb_l1000, gb_l1500, gb_lm1, gb_l65536, true_and, and_true, false_and, and_false, true_or, or_true, false_or, or_false, not_true_eq_false, not_false_eq_true, ne_eq] at *) <;> omega
theorem lb_87 (p0 : Int32) (p1 : Int32) (c_1 : ¬ 0 ≤ p0) : sp_changed p0 p1 1 0 := by
  (try simp only [sp_hunger, sp_setCut, sp_setWarm, sp_setFrost, sp_setPeople, sp_stock, sp_changed, sp_fill, sp_pass, gb_okD, gb_okG, gb_okW, gb_days, gb_in, gb_lt, gb_le, gb_eq, gb_l0, gb_l1, gb_l2, gb_l3, gb_l4, gb_l5, gb_l10, gb_l19, gb_l20, gb_l40, gb_l60, gb_l1000, gb_l1500, gb_lm1, gb_l65536, true_and, and_true, false_and, and_false, true_or, or_true, false_or, or_false, not_true_eq_false, not_false_eq_true, ne_eq] at *) <;> omega
set_option maxHeartbeats 4000000 in
set_option maxRecDepth 100000 in
theorem c_X5_changed (l : Launch) (hl9 : l.stackTraces = false) (kS : Nat → Nat) (tE : Nat) (dC : Nat → ClassId) (dI : Nat → Nat → Nat) (sz : Nat) (q : Nat → Nat) (cO : ClassId) (cO2 : ClassId) (m4 : Int32) (m3 : Int32) (dv : Int32) (p0 : Int32) (p1 : Int32) : vx_Met l yX5_changed wsX5_changed ({ frames := 7, cells := 1, slots := 6, locals := 104 }) (va_Pc [.ref (q 0), .int p0, .int p1] (gb_Pw kS tE (gb_ro sz) (dC, dI) [(cO, .object "java/lang/Object"), (cO2, .object "java/lang/Object")] [(q 0, .inr (6, [.ref (q 1), .ref (q 2), .ref (q 3), .ref (q 4), .ref (q 5), .int dv, .int 0])), (q 1, .inr (0, [.int m4, .ref (q 6), .int 4])), (q 2, .inr (0, [.int 0, .ref tE, .int 0])), (q 3, .inr (0, [.int m3, .ref (q 7), .int 3])), (q 4, .inr (0, [.int 0, .ref tE, .int 0])), (q 5, .inr (1, [.int 0, .int (-1)])), (q 6, .inl (cO, 10, .inr (.inr (.inr (.inr (va_up (va_up (va_up (va_up (fun _ => none) (0 : Int32).toNatClampNeg (some (q 8))) (1 : Int32).toNatClampNeg (some (q 9))) (2 : Int32).toNatClampNeg (some (q 10))) (3 : Int32).toNatClampNeg (some (q 11)))))))), (q 7, .inl (cO2, 10, .inr (.inr (.inr (.inr (va_up (va_up (va_up (fun _ => none) (0 : Int32).toNatClampNeg (some (q 16))) (1 : Int32).toNatClampNeg (some (q 17))) (2 : Int32).toNatClampNeg (some (q 18)))))))), (q 8, .inr (2, [.int 0, .ref (q 12), .int 1])), (q 9, .inr (2, [.int 1, .ref (q 13), .int 0])), (q 10, .inr (2, [.int 2, .ref (q 14), .int 0])), (q 11, .inr (2, [.int 3, .ref (q 15), .int 0])), (q 12, .inr (1, [.int 0, .int (-1)])), (q 13, .inr (1, [.int 0, .int (-1)])), (q 14, .inr (1, [.int 0, .int (-1)])), (q 15, .inr (1, [.int 0, .int (-1)])), (q 16, .inr (5, [.int 2, .int 0, .int 0, .int 0])), (q 17, .inr (5, [.int 3, .int 0, .int 0, .int 0])), (q 18, .inr (5, [.int 4, .int 0, .int 0, .int 0]))] sz)) (va_Qi (fun (r : Int32) (_ : Unit) => sp_changed p0 p1 0 r) (fun _ _ => True) (gb_ro sz)) (vx_X (fun _ : Unit => True) (fun E _ _ => (E = "java/lang/IllegalArgumentException" ∧ (sp_changed p0 p1 1 0))) (gb_ro sz)) 1 6 (gb_ro sz) := by
  refine vx_ofW (cc := cX5_changed) (maxL := 6) (ret := (some .int)) (by decide) rfl ?_
  intro p e s m args below meth c s₁ B hml hno hv
  obtain ⟨rfl, hsz, hZT, hZ, hP, hK, hD0⟩ := hv
  have hx := B.exec
  have hb := B.bytes
  have hr := B.returns
  have hts := atoms_spec (ws := wsX5_changed) B.pre
  have hown : s.vm.findClass RX5 = some m.cls := findClass_of_methodNamed B.named
  have hlocks := B.notSynchronized
  subst hsz
  have hi6 : ∀ w ∈ u_ws RX5 TX5 7, w ∈ wsX5_changed := by decide +kernel
  have hD := hD0
  generalize hAe : gb_ro s.heap.size = A at hZ ⊢
  have hA : ∀ q : Nat, s.heap.size ≤ q → A q := fun q h => by rw [← hAe]; exact h
  have hS : va_S A s.heap s.heap [] := va_S.rf
  have hP : va_P (dC, dI) vwCl [(q 0, .inr (6, [.ref (q 1), .ref (q 2), .ref (q 3), .ref (q 4), .ref (q 5), .int dv, .int 0])), (q 1, .inr (0, [.int m4, .ref (q 6), .int 4])), (q 2, .inr (0, [.int 0, .ref tE, .int 0])), (q 3, .inr (0, [.int m3, .ref (q 7), .int 3])), (q 4, .inr (0, [.int 0, .ref tE, .int 0])), (q 5, .inr (1, [.int 0, .int (-1)])), (q 6, .inl (cO, 10, .inr (.inr (.inr (.inr (va_up (va_up (va_up (va_up (fun _ => none) (0 : Int32).toNatClampNeg (some (q 8))) (1 : Int32).toNatClampNeg (some (q 9))) (2 : Int32).toNatClampNeg (some (q 10))) (3 : Int32).toNatClampNeg (some (q 11)))))))), (q 7, .inl (cO2, 10, .inr (.inr (.inr (.inr (va_up (va_up (va_up (fun _ => none) (0 : Int32).toNatClampNeg (some (q 16))) (1 : Int32).toNatClampNeg (some (q 17))) (2 : Int32).toNatClampNeg (some (q 18)))))))), (q 8, .inr (2, [.int 0, .ref (q 12), .int 1])), (q 9, .inr (2, [.int 1, .ref (q 13), .int 0])), (q 10, .inr (2, [.int 2, .ref (q 14), .int 0])), (q 11, .inr (2, [.int 3, .ref (q 15), .int 0])), (q 12, .inr (1, [.int 0, .int (-1)])), (q 13, .inr (1, [.int 0, .int (-1)])), (q 14, .inr (1, [.int 0, .int (-1)])), (q 15, .inr (1, [.int 0, .int (-1)])), (q 16, .inr (5, [.int 2, .int 0, .int 0, .int 0])), (q 17, .inr (5, [.int 3, .int 0, .int 0, .int 0])), (q 18, .inr (5, [.int 4, .int 0, .int 0, .int 0]))] s.heap := hP
  have hl := lv_entry ([.ref (q 0), .int p0, .int p1]) (n := 6) (Nat.le_of_ble_eq_true rfl)
  rw [lg_entry_eq]
  generalize (lg_sl ([.ref (q 0), .int p0, .int p1]) ++ List.replicate (6 - (lg_sl ([.ref (q 0), .int p0, .int p1])).length) Slot.unset).toArray = ls at hl ⊢
  have hl : lv_has ls 6 [(0, .ref (q 0)), (1, .int p0), (2, .int p1)] := hl
  refine lv_iload_n hx hb dX5_changed_0 rfl (lv_at hl 1 rfl) ?_
  refine lv_if_ge (tgt := 14) hx hb dX5_changed_1 (by decide) (fun c_1 => ?_) (fun c_1 => ?_)
  · refine lv_iload_n hx hb dX5_changed_14 rfl (lv_at hl 2 rfl) ?_
    refine lv_iconst (v := 0) hx hb dX5_changed_15 (by decide) ?_
    refine lv_iconst (v := 5) hx hb dX5_changed_16 (by decide) ?_
    have hPc := hP.sub (ws' := []) [] rfl
    have hDc := hD.sub (ws' := []) [] (by decide) rfl
    have hKc := hK.sub (tys' := []) [] rfl
    have hFc := gb_free hA hS
    refine vx_callv (vx_runS (As := [.int p1, .int 0, .int 5]) (rest := []) ⟨hx, hb, hml, hown, hts⟩ (c_X5_requireRange l hl9 kS tE dC dI s.heap.size p1 (0 : Int32) (5 : Int32)) (va_cwS 3 hts gX5_changed_X5_requireRange rfl rfl rfl (by decide +kernel) ⟨Nat.le_of_ble_eq_true rfl, Nat.le_of_ble_eq_true rfl⟩) (gb_preS hZT hZ hS hFc hPc hDc hKc) rfl rfl hl.1 rfl (lv_room (Nat.le_of_ble_eq_true rfl)) dX5_changed_17 ⟨Nat.le_of_ble_eq_true rfl, Nat.le_of_ble_eq_true rfl⟩) hS (fun q _ h => hFc q h) hFc (fun q _ h => hFc q h) (fun E9 ce q9 u t H locs ht hvm hw hB hz1 hk1 hS hce hcv hcl => ?_) (fun u t H locs ht hvm hw hB hz1 hk1 hS => ?_)
    · obtain ⟨rfl, hq0⟩ := hB
      exact vx_out (fun x h9 => (hno x h9).elim) hlocks hce hcv hcl (fun t ht ha => ⟨(), trivial, ⟨rfl, (lb_85 p0 p1 c_1 hq0)⟩, hS.F ht⟩) hS.2.2 (Nat.le_of_ble_eq_true rfl) (Nat.le_of_ble_eq_true rfl)
    · have w_3 := hw
      have hP := gb_keep hP hk1
      refine lv_iconst (v := 0) hx hb dX5_changed_20 (by decide) ?_
      refine lv_istore_n (lv' := [(3, .int 0), (0, .ref (q 0)), (1, .int p0), (2, .int p1)]) hx hb dX5_changed_21 rfl hl (by decide) rfl (fun ls hl => ?_)
      refine lv_iconst (v := 0) hx hb dX5_changed_22 (by decide) ?_
      refine lv_istore (lv' := [(4, .int 0), (3, .int 0), (0, .ref (q 0)), (1, .int p0), (2, .int p1)]) hx hb dX5_changed_23 hl (by decide) rfl (fun ls hl => ?_)
      refine lv_iload hx hb dX5_changed_25 (lv_at hl 0 rfl) ?_
      refine lv_aload_n hx hb dX5_changed_27 rfl (lv_at hl 2 rfl) ?_
      refine va_get (D := (dC, dI)) (ci := 6) (v := .ref (q 4)) (C := RX5) (T := TX5) (N := 7) hx hb hts hi6 hown hK hP 0 rfl rfl 3 (by decide) (hts (.fieldLink RX5 22 "GlacierBook" "journal" "Ljava/util/ArrayList;") (by decide +kernel)) (fun _ h9 => h9) rfl dX5_changed_28 ?_
      have hPc := hP.sub (ws' := [(q 4, .inr (0, [.int 0, .ref tE, .int 0]))]) [4] rfl
      have hDc := hD.sub (ws' := [(q 4, .inr (0, [.int 0, .ref tE, .int 0]))]) [4] (by decide) rfl
      have hKc := hK.sub (tys' := []) [] rfl
      have hFc := gb_free hA hS
      refine va_calli (va_runV (As := []) (rest := [.int 0]) ⟨hx, hb, hml, hown, hts⟩ (c_Jx4a65c_size_8abf5 l hl9 kS tE dC dI H.size (q 4) (0 : Int32) tE (0 : Int32)) (cwV 0 hts gX5_changed_Jx4a65c_size_8abf5 rfl rfl rfl (by decide +kernel) ⟨Nat.le_of_ble_eq_true rfl, Nat.le_of_ble_eq_true rfl⟩) (gb_preV hZT hZ hS hFc hPc hDc hKc (va_recv hK hP (ci := 0) (q0 := 4) rfl rfl)) rfl rfl hl.1 rfl (lv_room (Nat.le_of_ble_eq_true rfl)) dX5_changed_31 ⟨Nat.le_of_ble_eq_true rfl, Nat.le_of_ble_eq_true rfl⟩) hS (fun q _ h => hFc q h) hFc (fun r_4 u t H locs ht hvm hw hB hz1 hk1 hS => ?_)
      have hP := gb_keep hP hk1
      subst hw
      refine lv_icmp_ge (tgt := 83) hx hb dX5_changed_34 (by decide) (fun _ => ?_) (fun c9 => absurd c9 (by decide))
      refine lv_iload_n hx hb dX5_changed_83 rfl (lv_at hl 1 rfl) ?_
      refine vx_ret ?_
      refine W.widen (k := 1) (n := 6) (Nat.le_of_ble_eq_true rfl) (Nat.le_of_ble_eq_true rfl) ?_
      exact W.iret (v := 0) hx hb hr (fun t ht hW => ⟨⟨0, (), rfl, (lb_86 p0 p1 c_1 w_3), trivial⟩, hS.F ht⟩) hS.2.2 dX5_changed_84
  · exact vx_throwS hx hb hl9 (own := RX5) (cls := "java/lang/IllegalArgumentException") (text := "crew is below 0") (names := ["java/lang/RuntimeException", "java/lang/Exception"]) hown (by decide +kernel) (by decide +kernel) (hts (.classLink RX5 108 "java/lang/IllegalArgumentException") (by decide +kernel)) (hts (.initialized "java/lang/IllegalArgumentException") (by decide +kernel)) hZT.2.2.2.2.2.2.2.2 (vx_hat (L := vx_atS RX5 112 "java/lang/IllegalArgumentException" ["java/lang/RuntimeException", "java/lang/Exception"]) (B := [.castable "java/lang/IllegalArgumentException" "java/lang/IllegalArgumentException", .declares (gb_yx "java/lang/RuntimeException"), .declares (gb_yx "java/lang/Exception"), .declares (gb_yx "java/lang/Throwable")]) (fun w hw => hts w ((by decide +kernel : ∀ w ∈ (vx_atS RX5 112 "java/lang/IllegalArgumentException" ["java/lang/RuntimeException", "java/lang/Exception"]).filter goodWord, w ∈ wsX5_changed) w hw)) (by decide +kernel) (vx_c (va_Nw.use rfl hZT.1.2) (vx_c (va_Nw.use rfl hZT.2.1.1) (vx_c (va_Nw.use rfl hZT.2.1.2.1) (vx_c (va_Nw.use rfl hZT.2.1.2.2) vx_n))))) (by decide +kernel) hZ.1 hZ.2.1 hS (hl.1.trans hml.symm) dX5_changed_4 dX5_changed_7 dX5_changed_8 dX5_changed_10 dX5_changed_13 (fun x h9 => (hno x h9).elim) (Nat.le_of_ble_eq_true rfl) (Nat.le_of_ble_eq_true rfl) (Nat.le_of_ble_eq_true rfl) (Nat.le_of_ble_eq_true rfl) hlocks (fun t ha hz hk => ⟨(), trivial, ⟨rfl, (lb_87 p0 p1 c_1)⟩, gb_F hS hz hk⟩) hS.2.2 (Nat.le_of_ble_eq_true rfl) (Nat.le_of_ble_eq_true rfl)

theorem lb_88 : ¬ (0 : Int32) < 0 := by
  (try simp only [sp_hunger, sp_setCut, sp_setWarm, sp_setFrost, sp_setPeople, sp_stock, sp_changed, sp_fill, sp_pass, gb_okD, gb_okG, gb_okW, gb_days, gb_in, gb_lt, gb_le, gb_eq, gb_l0, gb_l1, gb_l2, gb_l3, gb_l4, gb_l5, gb_l10, gb_l19, gb_l20, gb_l40, gb_l60, gb_l1000, gb_l1500, gb_lm1, gb_l65536, true_and, and_true, false_and, and_false, true_or, or_true, false_or, or_false, not_true_eq_false, not_false_eq_true, ne_eq] at *) <;> omega
theorem lb_89 : (0 : Int32) < (3 : Int32) := by
  (try simp only [sp_hunger, sp_setCut, sp_setWarm, sp_setFrost, sp_setPeople, sp_stock, sp_changed, sp_fill, sp_pass, gb_okD, gb_okG, gb_okW, gb_days, gb_in, gb_lt, gb_le, gb_eq, gb_l0, gb_l1, gb_l2, gb_l3, gb_l4, gb_l5, gb_l10, gb_l19, gb_l20, gb_l40, gb_l60, gb_l1000, gb_l1500, gb_lm1, gb_l65536, true_and, and_true, false_and, and_false, true_or, or_true, false_or, or_false, not_true_eq_false, not_false_eq_true, ne_eq] at *) <;> omega
theorem lb_90 : ¬ (1 : Int32) < 0 := by
  (try simp only [sp_hunger, sp_setCut, sp_setWarm, sp_setFrost, sp_setPeople, sp_stock, sp_changed, sp_fill, sp_pass, gb_okD, gb_okG, gb_okW, gb_days, gb_in, gb_lt, gb_le, gb_eq, gb_l0, gb_l1, gb_l2, gb_l3, gb_l4, gb_l5, gb_l10, gb_l19, gb_l20, gb_l40, gb_l60, gb_l1000, gb_l1500, gb_lm1, gb_l65536, true_and, and_true, false_and, and_false, true_or, or_true, false_or, or_false, not_true_eq_false, not_false_eq_true, ne_eq] at *) <;> omega
theorem lb_91 : (1 : Int32) < (3 : Int32) := by
  (try simp only [sp_hunger, sp_setCut, sp_setWarm, sp_setFrost, sp_setPeople, sp_stock, sp_changed, sp_fill, sp_pass, gb_okD, gb_okG, gb_okW, gb_days, gb_in, gb_lt, gb_le, gb_eq, gb_l0, gb_l1, gb_l2, gb_l3, gb_l4, gb_l5, gb_l10, gb_l19, gb_l20, gb_l40, gb_l60, gb_l1000, gb_l1500, gb_lm1, gb_l65536, true_and, and_true, false_and, and_false, true_or, or_true, false_or, or_false, not_true_eq_false, not_false_eq_true, ne_eq] at *) <;> omega
theorem lb_92 : ¬ (2 : Int32) < 0 := by
  (try simp only [sp_hunger, sp_setCut, sp_setWarm, sp_setFrost, sp_setPeople, sp_stock, sp_changed, sp_fill, sp_pass, gb_okD, gb_okG, gb_okW, gb_days, gb_in, gb_lt, gb_le, gb_eq, gb_l0, gb_l1, gb_l2, gb_l3, gb_l4, gb_l5, gb_l10, gb_l19, gb_l20, gb_l40, gb_l60, gb_l1000, gb_l1500, gb_lm1, gb_l65536, true_and, and_true, false_and, and_false, true_or, or_true, false_or, or_false, not_true_eq_false, not_false_eq_true, ne_eq] at *) <;> omega
theorem lb_93 : (2 : Int32) < (3 : Int32) := by
  (try simp only [sp_hunger, sp_setCut, sp_setWarm, sp_setFrost, sp_setPeople, sp_stock, sp_changed, sp_fill, sp_pass, gb_okD, gb_okG, gb_okW, gb_days, gb_in, gb_lt, gb_le, gb_eq, gb_l0, gb_l1, gb_l2, gb_l3, gb_l4, gb_l5, gb_l10, gb_l19, gb_l20, gb_l40, gb_l60, gb_l1000, gb_l1500, gb_lm1, gb_l65536, true_and, and_true, false_and, and_false, true_or, or_true, false_or, or_false, not_true_eq_false, not_false_eq_true, ne_eq] at *) <;> omega
theorem lb_94 : (0 : Int32) = 0 := by
  (try simp only [sp_hunger, sp_setCut, sp_setWarm, sp_setFrost, sp_setPeople, sp_stock, sp_changed, sp_fill, sp_pass, gb_okD, gb_okG, gb_okW, gb_days, gb_in, gb_lt, gb_le, gb_eq, gb_l0, gb_l1, gb_l2, gb_l3, gb_l4, gb_l5, gb_l10, gb_l19, gb_l20, gb_l40, gb_l60, gb_l1000, gb_l1500, gb_lm1, gb_l65536, true_and, and_true, false_and, and_false, true_or, or_true, false_or, or_false, not_true_eq_false, not_false_eq_true, ne_eq] at *) <;> omega
set_option maxHeartbeats 4000000 in
set_option maxRecDepth 100000 in
theorem c_X5_needOfAll (l : Launch) (hl9 : l.stackTraces = false) (kS : Nat → Nat) (tE : Nat) (dC : Nat → ClassId) (dI : Nat → Nat → Nat) (sz : Nat) (q : Nat → Nat) (cO : ClassId) (cO2 : ClassId) (m4 : Int32) (m3 : Int32) (dv : Int32) : Met l yX5_needOfAll wsX5_needOfAll ({ frames := 3, cells := 0, slots := 0, locals := 64 }) (va_Pc [.ref (q 0)] (gb_Pw kS tE (gb_ro sz) (dC, dI) [(cO, .object "java/lang/Object"), (cO2, .object "java/lang/Object")] [(q 0, .inr (6, [.ref (q 1), .ref (q 2), .ref (q 3), .ref (q 4), .ref (q 5), .int dv, .int 0])), (q 1, .inr (0, [.int m4, .ref (q 6), .int 4])), (q 2, .inr (0, [.int 0, .ref tE, .int 0])), (q 3, .inr (0, [.int m3, .ref (q 7), .int 3])), (q 4, .inr (0, [.int 0, .ref tE, .int 0])), (q 5, .inr (1, [.int 0, .int (-1)])), (q 6, .inl (cO, 10, .inr (.inr (.inr (.inr (va_up (va_up (va_up (va_up (fun _ => none) (0 : Int32).toNatClampNeg (some (q 8))) (1 : Int32).toNatClampNeg (some (q 9))) (2 : Int32).toNatClampNeg (some (q 10))) (3 : Int32).toNatClampNeg (some (q 11)))))))), (q 7, .inl (cO2, 10, .inr (.inr (.inr (.inr (va_up (va_up (va_up (fun _ => none) (0 : Int32).toNatClampNeg (some (q 16))) (1 : Int32).toNatClampNeg (some (q 17))) (2 : Int32).toNatClampNeg (some (q 18)))))))), (q 8, .inr (2, [.int 0, .ref (q 12), .int 1])), (q 9, .inr (2, [.int 1, .ref (q 13), .int 0])), (q 10, .inr (2, [.int 2, .ref (q 14), .int 0])), (q 11, .inr (2, [.int 3, .ref (q 15), .int 0])), (q 12, .inr (1, [.int 0, .int (-1)])), (q 13, .inr (1, [.int 0, .int (-1)])), (q 14, .inr (1, [.int 0, .int (-1)])), (q 15, .inr (1, [.int 0, .int (-1)])), (q 16, .inr (5, [.int 2, .int 0, .int 0, .int 0])), (q 17, .inr (5, [.int 3, .int 0, .int 0, .int 0])), (q 18, .inr (5, [.int 4, .int 0, .int 0, .int 0]))] sz)) (va_Qi (fun (r : Int32) (_ : Unit) => r = 0) (fun _ _ => True) (gb_ro sz)) 0 0 (gb_ro sz) := by
  refine Met.ofW (cc := cX5_needOfAll) (maxL := 3) (ret := (some .int)) (by decide) rfl ?_
  intro p e s m args below meth c s₁ B hml hv
  obtain ⟨rfl, hsz, hZT, hZ, hP, hK, hD0⟩ := hv
  have hx := B.exec
  have hb := B.bytes
  have hr := B.returns
  have hts := atoms_spec (ws := wsX5_needOfAll) B.pre
  have hown : s.vm.findClass RX5 = some m.cls := findClass_of_methodNamed B.named
  have hlocks := B.notSynchronized
  subst hsz
  have hi6 : ∀ w ∈ u_ws RX5 TX5 7, w ∈ wsX5_needOfAll := by decide +kernel
  have hD := hD0
  generalize hAe : gb_ro s.heap.size = A at hZ ⊢
  have hA : ∀ q : Nat, s.heap.size ≤ q → A q := fun q h => by rw [← hAe]; exact h
  have hS : va_S A s.heap s.heap [] := va_S.rf
  have hP : va_P (dC, dI) vwCl [(q 0, .inr (6, [.ref (q 1), .ref (q 2), .ref (q 3), .ref (q 4), .ref (q 5), .int dv, .int 0])), (q 1, .inr (0, [.int m4, .ref (q 6), .int 4])), (q 2, .inr (0, [.int 0, .ref tE, .int 0])), (q 3, .inr (0, [.int m3, .ref (q 7), .int 3])), (q 4, .inr (0, [.int 0, .ref tE, .int 0])), (q 5, .inr (1, [.int 0, .int (-1)])), (q 6, .inl (cO, 10, .inr (.inr (.inr (.inr (va_up (va_up (va_up (va_up (fun _ => none) (0 : Int32).toNatClampNeg (some (q 8))) (1 : Int32).toNatClampNeg (some (q 9))) (2 : Int32).toNatClampNeg (some (q 10))) (3 : Int32).toNatClampNeg (some (q 11)))))))), (q 7, .inl (cO2, 10, .inr (.inr (.inr (.inr (va_up (va_up (va_up (fun _ => none) (0 : Int32).toNatClampNeg (some (q 16))) (1 : Int32).toNatClampNeg (some (q 17))) (2 : Int32).toNatClampNeg (some (q 18)))))))), (q 8, .inr (2, [.int 0, .ref (q 12), .int 1])), (q 9, .inr (2, [.int 1, .ref (q 13), .int 0])), (q 10, .inr (2, [.int 2, .ref (q 14), .int 0])), (q 11, .inr (2, [.int 3, .ref (q 15), .int 0])), (q 12, .inr (1, [.int 0, .int (-1)])), (q 13, .inr (1, [.int 0, .int (-1)])), (q 14, .inr (1, [.int 0, .int (-1)])), (q 15, .inr (1, [.int 0, .int (-1)])), (q 16, .inr (5, [.int 2, .int 0, .int 0, .int 0])), (q 17, .inr (5, [.int 3, .int 0, .int 0, .int 0])), (q 18, .inr (5, [.int 4, .int 0, .int 0, .int 0]))] s.heap := hP
  have hl := lv_entry ([.ref (q 0)]) (n := 3) (Nat.le_of_ble_eq_true rfl)
  rw [lg_entry_eq]
  generalize (lg_sl ([.ref (q 0)]) ++ List.replicate (3 - (lg_sl ([.ref (q 0)])).length) Slot.unset).toArray = ls at hl ⊢
  have hl : lv_has ls 3 [(0, .ref (q 0))] := hl
  refine lv_iconst (v := 0) hx hb dX5_needOfAll_0 (by decide) ?_
  refine lv_istore_n (lv' := [(1, .int 0), (0, .ref (q 0))]) hx hb dX5_needOfAll_1 rfl hl (by decide) rfl (fun ls hl => ?_)
  refine lv_iconst (v := 0) hx hb dX5_needOfAll_2 (by decide) ?_
  refine lv_istore_n (lv' := [(2, .int 0), (1, .int 0), (0, .ref (q 0))]) hx hb dX5_needOfAll_3 rfl hl (by decide) rfl (fun ls hl => ?_)
  refine lv_iload_n hx hb dX5_needOfAll_4 rfl (lv_at hl 0 rfl) ?_
  refine lv_aload_n hx hb dX5_needOfAll_5 rfl (lv_at hl 2 rfl) ?_
  refine va_get (D := (dC, dI)) (ci := 6) (v := .ref (q 3)) (C := RX5) (T := TX5) (N := 7) hx hb hts hi6 hown hK hP 0 rfl rfl 2 (by decide) (hts (.fieldLink RX5 19 "GlacierBook" "workers" "Ljava/util/ArrayList;") (by decide +kernel)) (fun _ h9 => h9) rfl dX5_needOfAll_6 ?_
  have hPc := hP.sub (ws' := [(q 3, .inr (0, [.int m3, .ref (q 7), .int 3]))]) [3] rfl
  have hDc := hD.sub (ws' := [(q 3, .inr (0, [.int m3, .ref (q 7), .int 3]))]) [3] (by decide) rfl
  have hKc := hK.sub (tys' := []) [] rfl
  have hFc := gb_free hA hS
  refine va_calli (va_runV (As := []) (rest := [.int 0]) ⟨hx, hb, hml, hown, hts⟩ (c_Jx4a65c_size_8abf5 l hl9 kS tE dC dI s.heap.size (q 3) m3 (q 7) (3 : Int32)) (cwV 0 hts gX5_needOfAll_Jx4a65c_size_8abf5 rfl rfl rfl (by decide +kernel) ⟨Nat.le_of_ble_eq_true rfl, Nat.le_of_ble_eq_true rfl⟩) (gb_preV hZT hZ hS hFc hPc hDc hKc (va_recv hK hP (ci := 0) (q0 := 3) rfl rfl)) rfl rfl hl.1 rfl (lv_room (Nat.le_of_ble_eq_true rfl)) dX5_needOfAll_9 ⟨Nat.le_of_ble_eq_true rfl, Nat.le_of_ble_eq_true rfl⟩) hS (fun q _ h => hFc q h) hFc (fun r_1 u t H locs ht hvm hw hB hz1 hk1 hS => ?_)
  have hP := gb_keep hP hk1
  subst hw
  refine lv_icmp_ge (tgt := 38) hx hb dX5_needOfAll_12 (by decide) (fun c9 => absurd c9 (by decide)) (fun _ => ?_)
  refine lv_iload_n hx hb dX5_needOfAll_15 rfl (lv_at hl 1 rfl) ?_
  refine lv_aload_n hx hb dX5_needOfAll_16 rfl (lv_at hl 2 rfl) ?_
  refine va_get (D := (dC, dI)) (ci := 6) (v := .ref (q 3)) (C := RX5) (T := TX5) (N := 7) hx hb hts hi6 hown hK hP 0 rfl rfl 2 (by decide) (hts (.fieldLink RX5 19 "GlacierBook" "workers" "Ljava/util/ArrayList;") (by decide +kernel)) (fun _ h9 => h9) rfl dX5_needOfAll_17 ?_
  refine lv_iload_n hx hb dX5_needOfAll_20 rfl (lv_at hl 0 rfl) ?_
  have hPc := hP.sub (ws' := [(q 3, .inr (0, [.int m3, .ref (q 7), .int 3])), (q 7, .inl (cO2, 10, .inr (.inr (.inr (.inr (va_up (va_up (va_up (fun _ => none) (0 : Int32).toNatClampNeg (some (q 16))) (1 : Int32).toNatClampNeg (some (q 17))) (2 : Int32).toNatClampNeg (some (q 18))))))))]) [3, 7] rfl
  have hDc := hD.sub (ws' := [(q 3, .inr (0, [.int m3, .ref (q 7), .int 3])), (q 7, .inl (cO2, 10, .inr (.inr (.inr (.inr (va_up (va_up (va_up (fun _ => none) (0 : Int32).toNatClampNeg (some (q 16))) (1 : Int32).toNatClampNeg (some (q 17))) (2 : Int32).toNatClampNeg (some (q 18))))))))]) [3, 7] (by decide) rfl
  have hKc := hK.sub (tys' := [(cO2, .object "java/lang/Object")]) [1] rfl
  have hFc := gb_free hA hS
  refine va_callr (va_runV (As := [.int 0]) (rest := [.int 0]) ⟨hx, hb, hml, hown, hts⟩ (c_Jx4a65c_get_915e3 l hl9 kS tE dC dI H.size (q 3) m3 (q 7) (3 : Int32) cO2 (va_up (va_up (va_up (fun _ => none) (0 : Int32).toNatClampNeg (some (q 16))) (1 : Int32).toNatClampNeg (some (q 17))) (2 : Int32).toNatClampNeg (some (q 18))) (0 : Int32) (q 16) (lb_88) (lb_89) (by unfold vp_in; decide) rfl) (cwV 1 hts gX5_needOfAll_Jx4a65c_get_915e3 rfl rfl rfl (by decide +kernel) ⟨Nat.le_of_ble_eq_true rfl, Nat.le_of_ble_eq_true rfl⟩) (gb_preV hZT hZ hS hFc hPc hDc hKc (va_recv hK hP (ci := 0) (q0 := 3) rfl rfl)) rfl rfl hl.1 rfl (lv_room (Nat.le_of_ble_eq_true rfl)) dX5_needOfAll_21 ⟨Nat.le_of_ble_eq_true rfl, Nat.le_of_ble_eq_true rfl⟩) hS (fun q _ h => hFc q h) hFc (fun u ra t H locs ht hvm hw hB hz1 hk1 hS => ?_)
  have hB : ra = (q 16) := hB
  rw [hB]
  have hP := gb_keep hP hk1
  refine va_castS (nm := RX4) hx hb hown (hts (.classLink RX5 48 "GlacierBook$Workers") (by decide +kernel)) (hK.1 5 _ rfl).2 (va_recv hK hP (ci := 5) (q0 := 16) rfl rfl) dX5_needOfAll_24 ?_
  have hPc := hP.sub (ws' := [(q 16, .inr (5, [.int 2, .int 0, .int 0, .int 0]))]) [16] rfl
  have hDc := hD.sub (ws' := [(q 16, .inr (5, [.int 2, .int 0, .int 0, .int 0]))]) [16] (by decide) rfl
  have hKc := hK.sub (tys' := []) [] rfl
  have hFc := gb_free hA hS
  refine va_calli (va_runV (As := []) (rest := [.int 0]) ⟨hx, hb, hml, hown, hts⟩ (c_X4_need l hl9 kS tE dC dI H.size (q 16) (2 : Int32)) (cwV 0 hts gX5_needOfAll_X4_need rfl rfl rfl (by decide +kernel) ⟨Nat.le_of_ble_eq_true rfl, Nat.le_of_ble_eq_true rfl⟩) (gb_preV hZT hZ hS hFc hPc hDc hKc (va_recv hK hP (ci := 5) (q0 := 16) rfl rfl)) rfl rfl hl.1 rfl (lv_room (Nat.le_of_ble_eq_true rfl)) dX5_needOfAll_27 ⟨Nat.le_of_ble_eq_true rfl, Nat.le_of_ble_eq_true rfl⟩) hS (fun q _ h => hFc q h) hFc (fun r_4 u t H locs ht hvm hw hB hz1 hk1 hS => ?_)
  have hP := gb_keep hP hk1
  subst hw
  refine lv_iadd hx hb dX5_needOfAll_30 ?_
  refine lv_topi (fun y9 e9 => ?_)
  obtain rfl : y9 = 0 := e9.trans (by decide)
  refine lv_istore_n (lv' := [(1, .int 0), (2, .int 0), (0, .ref (q 0))]) hx hb dX5_needOfAll_31 rfl hl (by decide) rfl (fun ls hl => ?_)
  refine lv_iinc (v := 1) (lv' := [(2, .int 1), (1, .int 0), (0, .ref (q 0))]) hx hb dX5_needOfAll_32 hl (k := 1) rfl (by decide) (by decide) rfl (fun ls hl => ?_)
  refine lv_goto (tgt := 4) hx hb dX5_needOfAll_35 (by decide) ?_
  refine lv_iload_n hx hb dX5_needOfAll_4 rfl (lv_at hl 0 rfl) ?_
  refine lv_aload_n hx hb dX5_needOfAll_5 rfl (lv_at hl 2 rfl) ?_
  refine va_get (D := (dC, dI)) (ci := 6) (v := .ref (q 3)) (C := RX5) (T := TX5) (N := 7) hx hb hts hi6 hown hK hP 0 rfl rfl 2 (by decide) (hts (.fieldLink RX5 19 "GlacierBook" "workers" "Ljava/util/ArrayList;") (by decide +kernel)) (fun _ h9 => h9) rfl dX5_needOfAll_6 ?_
  have hPc := hP.sub (ws' := [(q 3, .inr (0, [.int m3, .ref (q 7), .int 3]))]) [3] rfl
  have hDc := hD.sub (ws' := [(q 3, .inr (0, [.int m3, .ref (q 7), .int 3]))]) [3] (by decide) rfl
  have hKc := hK.sub (tys' := []) [] rfl
  have hFc := gb_free hA hS
  refine va_calli (va_runV (As := []) (rest := [.int 1]) ⟨hx, hb, hml, hown, hts⟩ (c_Jx4a65c_size_8abf5 l hl9 kS tE dC dI H.size (q 3) m3 (q 7) (3 : Int32)) (cwV 0 hts gX5_needOfAll_Jx4a65c_size_8abf5 rfl rfl rfl (by decide +kernel) ⟨Nat.le_of_ble_eq_true rfl, Nat.le_of_ble_eq_true rfl⟩) (gb_preV hZT hZ hS hFc hPc hDc hKc (va_recv hK hP (ci := 0) (q0 := 3) rfl rfl)) rfl rfl hl.1 rfl (lv_room (Nat.le_of_ble_eq_true rfl)) dX5_needOfAll_9 ⟨Nat.le_of_ble_eq_true rfl, Nat.le_of_ble_eq_true rfl⟩) hS (fun q _ h => hFc q h) hFc (fun r_5 u t H locs ht hvm hw hB hz1 hk1 hS => ?_)
  have hP := gb_keep hP hk1
  subst hw
  refine lv_icmp_ge (tgt := 38) hx hb dX5_needOfAll_12 (by decide) (fun c9 => absurd c9 (by decide)) (fun _ => ?_)
  refine lv_iload_n hx hb dX5_needOfAll_15 rfl (lv_at hl 1 rfl) ?_
  refine lv_aload_n hx hb dX5_needOfAll_16 rfl (lv_at hl 2 rfl) ?_
  refine va_get (D := (dC, dI)) (ci := 6) (v := .ref (q 3)) (C := RX5) (T := TX5) (N := 7) hx hb hts hi6 hown hK hP 0 rfl rfl 2 (by decide) (hts (.fieldLink RX5 19 "GlacierBook" "workers" "Ljava/util/ArrayList;") (by decide +kernel)) (fun _ h9 => h9) rfl dX5_needOfAll_17 ?_
  refine lv_iload_n hx hb dX5_needOfAll_20 rfl (lv_at hl 0 rfl) ?_
  have hPc := hP.sub (ws' := [(q 3, .inr (0, [.int m3, .ref (q 7), .int 3])), (q 7, .inl (cO2, 10, .inr (.inr (.inr (.inr (va_up (va_up (va_up (fun _ => none) (0 : Int32).toNatClampNeg (some (q 16))) (1 : Int32).toNatClampNeg (some (q 17))) (2 : Int32).toNatClampNeg (some (q 18))))))))]) [3, 7] rfl
  have hDc := hD.sub (ws' := [(q 3, .inr (0, [.int m3, .ref (q 7), .int 3])), (q 7, .inl (cO2, 10, .inr (.inr (.inr (.inr (va_up (va_up (va_up (fun _ => none) (0 : Int32).toNatClampNeg (some (q 16))) (1 : Int32).toNatClampNeg (some (q 17))) (2 : Int32).toNatClampNeg (some (q 18))))))))]) [3, 7] (by decide) rfl
  have hKc := hK.sub (tys' := [(cO2, .object "java/lang/Object")]) [1] rfl
  have hFc := gb_free hA hS
  refine va_callr (va_runV (As := [.int 1]) (rest := [.int 0]) ⟨hx, hb, hml, hown, hts⟩ (c_Jx4a65c_get_915e3 l hl9 kS tE dC dI H.size (q 3) m3 (q 7) (3 : Int32) cO2 (va_up (va_up (va_up (fun _ => none) (0 : Int32).toNatClampNeg (some (q 16))) (1 : Int32).toNatClampNeg (some (q 17))) (2 : Int32).toNatClampNeg (some (q 18))) (1 : Int32) (q 17) (lb_90) (lb_91) (by unfold vp_in; decide) rfl) (cwV 1 hts gX5_needOfAll_Jx4a65c_get_915e3 rfl rfl rfl (by decide +kernel) ⟨Nat.le_of_ble_eq_true rfl, Nat.le_of_ble_eq_true rfl⟩) (gb_preV hZT hZ hS hFc hPc hDc hKc (va_recv hK hP (ci := 0) (q0 := 3) rfl rfl)) rfl rfl hl.1 rfl (lv_room (Nat.le_of_ble_eq_true rfl)) dX5_needOfAll_21 ⟨Nat.le_of_ble_eq_true rfl, Nat.le_of_ble_eq_true rfl⟩) hS (fun q _ h => hFc q h) hFc (fun u ra t H locs ht hvm hw hB hz1 hk1 hS => ?_)
  have hB : ra = (q 17) := hB
  rw [hB]
  have hP := gb_keep hP hk1
  refine va_castS (nm := RX4) hx hb hown (hts (.classLink RX5 48 "GlacierBook$Workers") (by decide +kernel)) (hK.1 5 _ rfl).2 (va_recv hK hP (ci := 5) (q0 := 17) rfl rfl) dX5_needOfAll_24 ?_
  have hPc := hP.sub (ws' := [(q 17, .inr (5, [.int 3, .int 0, .int 0, .int 0]))]) [17] rfl
  have hDc := hD.sub (ws' := [(q 17, .inr (5, [.int 3, .int 0, .int 0, .int 0]))]) [17] (by decide) rfl
  have hKc := hK.sub (tys' := []) [] rfl
  have hFc := gb_free hA hS
  refine va_calli (va_runV (As := []) (rest := [.int 0]) ⟨hx, hb, hml, hown, hts⟩ (c_X4_need l hl9 kS tE dC dI H.size (q 17) (3 : Int32)) (cwV 0 hts gX5_needOfAll_X4_need rfl rfl rfl (by decide +kernel) ⟨Nat.le_of_ble_eq_true rfl, Nat.le_of_ble_eq_true rfl⟩) (gb_preV hZT hZ hS hFc hPc hDc hKc (va_recv hK hP (ci := 5) (q0 := 17) rfl rfl)) rfl rfl hl.1 rfl (lv_room (Nat.le_of_ble_eq_true rfl)) dX5_needOfAll_27 ⟨Nat.le_of_ble_eq_true rfl, Nat.le_of_ble_eq_true rfl⟩) hS (fun q _ h => hFc q h) hFc (fun r_8 u t H locs ht hvm hw hB hz1 hk1 hS => ?_)
  have hP := gb_keep hP hk1
  subst hw
  refine lv_iadd hx hb dX5_needOfAll_30 ?_
  refine lv_topi (fun y9 e9 => ?_)
  obtain rfl : y9 = 0 := e9.trans (by decide)
  refine lv_istore_n (lv' := [(1, .int 0), (2, .int 1), (0, .ref (q 0))]) hx hb dX5_needOfAll_31 rfl hl (by decide) rfl (fun ls hl => ?_)
  refine lv_iinc (v := 2) (lv' := [(2, .int 2), (1, .int 0), (0, .ref (q 0))]) hx hb dX5_needOfAll_32 hl (k := 1) rfl (by decide) (by decide) rfl (fun ls hl => ?_)
  refine lv_goto (tgt := 4) hx hb dX5_needOfAll_35 (by decide) ?_
  refine lv_iload_n hx hb dX5_needOfAll_4 rfl (lv_at hl 0 rfl) ?_
  refine lv_aload_n hx hb dX5_needOfAll_5 rfl (lv_at hl 2 rfl) ?_
  refine va_get (D := (dC, dI)) (ci := 6) (v := .ref (q 3)) (C := RX5) (T := TX5) (N := 7) hx hb hts hi6 hown hK hP 0 rfl rfl 2 (by decide) (hts (.fieldLink RX5 19 "GlacierBook" "workers" "Ljava/util/ArrayList;") (by decide +kernel)) (fun _ h9 => h9) rfl dX5_needOfAll_6 ?_
  have hPc := hP.sub (ws' := [(q 3, .inr (0, [.int m3, .ref (q 7), .int 3]))]) [3] rfl
  have hDc := hD.sub (ws' := [(q 3, .inr (0, [.int m3, .ref (q 7), .int 3]))]) [3] (by decide) rfl
  have hKc := hK.sub (tys' := []) [] rfl
  have hFc := gb_free hA hS
  refine va_calli (va_runV (As := []) (rest := [.int 2]) ⟨hx, hb, hml, hown, hts⟩ (c_Jx4a65c_size_8abf5 l hl9 kS tE dC dI H.size (q 3) m3 (q 7) (3 : Int32)) (cwV 0 hts gX5_needOfAll_Jx4a65c_size_8abf5 rfl rfl rfl (by decide +kernel) ⟨Nat.le_of_ble_eq_true rfl, Nat.le_of_ble_eq_true rfl⟩) (gb_preV hZT hZ hS hFc hPc hDc hKc (va_recv hK hP (ci := 0) (q0 := 3) rfl rfl)) rfl rfl hl.1 rfl (lv_room (Nat.le_of_ble_eq_true rfl)) dX5_needOfAll_9 ⟨Nat.le_of_ble_eq_true rfl, Nat.le_of_ble_eq_true rfl⟩) hS (fun q _ h => hFc q h) hFc (fun r_9 u t H locs ht hvm hw hB hz1 hk1 hS => ?_)
  have hP := gb_keep hP hk1
  subst hw
  refine lv_icmp_ge (tgt := 38) hx hb dX5_needOfAll_12 (by decide) (fun c9 => absurd c9 (by decide)) (fun _ => ?_)
  refine lv_iload_n hx hb dX5_needOfAll_15 rfl (lv_at hl 1 rfl) ?_
  refine lv_aload_n hx hb dX5_needOfAll_16 rfl (lv_at hl 2 rfl) ?_
  refine va_get (D := (dC, dI)) (ci := 6) (v := .ref (q 3)) (C := RX5) (T := TX5) (N := 7) hx hb hts hi6 hown hK hP 0 rfl rfl 2 (by decide) (hts (.fieldLink RX5 19 "GlacierBook" "workers" "Ljava/util/ArrayList;") (by decide +kernel)) (fun _ h9 => h9) rfl dX5_needOfAll_17 ?_
  refine lv_iload_n hx hb dX5_needOfAll_20 rfl (lv_at hl 0 rfl) ?_
  have hPc := hP.sub (ws' := [(q 3, .inr (0, [.int m3, .ref (q 7), .int 3])), (q 7, .inl (cO2, 10, .inr (.inr (.inr (.inr (va_up (va_up (va_up (fun _ => none) (0 : Int32).toNatClampNeg (some (q 16))) (1 : Int32).toNatClampNeg (some (q 17))) (2 : Int32).toNatClampNeg (some (q 18))))))))]) [3, 7] rfl
  have hDc := hD.sub (ws' := [(q 3, .inr (0, [.int m3, .ref (q 7), .int 3])), (q 7, .inl (cO2, 10, .inr (.inr (.inr (.inr (va_up (va_up (va_up (fun _ => none) (0 : Int32).toNatClampNeg (some (q 16))) (1 : Int32).toNatClampNeg (some (q 17))) (2 : Int32).toNatClampNeg (some (q 18))))))))]) [3, 7] (by decide) rfl
  have hKc := hK.sub (tys' := [(cO2, .object "java/lang/Object")]) [1] rfl
  have hFc := gb_free hA hS
  refine va_callr (va_runV (As := [.int 2]) (rest := [.int 0]) ⟨hx, hb, hml, hown, hts⟩ (c_Jx4a65c_get_915e3 l hl9 kS tE dC dI H.size (q 3) m3 (q 7) (3 : Int32) cO2 (va_up (va_up (va_up (fun _ => none) (0 : Int32).toNatClampNeg (some (q 16))) (1 : Int32).toNatClampNeg (some (q 17))) (2 : Int32).toNatClampNeg (some (q 18))) (2 : Int32) (q 18) (lb_92) (lb_93) (by unfold vp_in; decide) rfl) (cwV 1 hts gX5_needOfAll_Jx4a65c_get_915e3 rfl rfl rfl (by decide +kernel) ⟨Nat.le_of_ble_eq_true rfl, Nat.le_of_ble_eq_true rfl⟩) (gb_preV hZT hZ hS hFc hPc hDc hKc (va_recv hK hP (ci := 0) (q0 := 3) rfl rfl)) rfl rfl hl.1 rfl (lv_room (Nat.le_of_ble_eq_true rfl)) dX5_needOfAll_21 ⟨Nat.le_of_ble_eq_true rfl, Nat.le_of_ble_eq_true rfl⟩) hS (fun q _ h => hFc q h) hFc (fun u ra t H locs ht hvm hw hB hz1 hk1 hS => ?_)
  have hB : ra = (q 18) := hB
  rw [hB]
  have hP := gb_keep hP hk1
  refine va_castS (nm := RX4) hx hb hown (hts (.classLink RX5 48 "GlacierBook$Workers") (by decide +kernel)) (hK.1 5 _ rfl).2 (va_recv hK hP (ci := 5) (q0 := 18) rfl rfl) dX5_needOfAll_24 ?_
  have hPc := hP.sub (ws' := [(q 18, .inr (5, [.int 4, .int 0, .int 0, .int 0]))]) [18] rfl
  have hDc := hD.sub (ws' := [(q 18, .inr (5, [.int 4, .int 0, .int 0, .int 0]))]) [18] (by decide) rfl
  have hKc := hK.sub (tys' := []) [] rfl
  have hFc := gb_free hA hS
  refine va_calli (va_runV (As := []) (rest := [.int 0]) ⟨hx, hb, hml, hown, hts⟩ (c_X4_need l hl9 kS tE dC dI H.size (q 18) (4 : Int32)) (cwV 0 hts gX5_needOfAll_X4_need rfl rfl rfl (by decide +kernel) ⟨Nat.le_of_ble_eq_true rfl, Nat.le_of_ble_eq_true rfl⟩) (gb_preV hZT hZ hS hFc hPc hDc hKc (va_recv hK hP (ci := 5) (q0 := 18) rfl rfl)) rfl rfl hl.1 rfl (lv_room (Nat.le_of_ble_eq_true rfl)) dX5_needOfAll_27 ⟨Nat.le_of_ble_eq_true rfl, Nat.le_of_ble_eq_true rfl⟩) hS (fun q _ h => hFc q h) hFc (fun r_12 u t H locs ht hvm hw hB hz1 hk1 hS => ?_)
  have hP := gb_keep hP hk1
  subst hw
  refine lv_iadd hx hb dX5_needOfAll_30 ?_
  refine lv_topi (fun y9 e9 => ?_)
  obtain rfl : y9 = 0 := e9.trans (by decide)
  refine lv_istore_n (lv' := [(1, .int 0), (2, .int 2), (0, .ref (q 0))]) hx hb dX5_needOfAll_31 rfl hl (by decide) rfl (fun ls hl => ?_)
  refine lv_iinc (v := 3) (lv' := [(2, .int 3), (1, .int 0), (0, .ref (q 0))]) hx hb dX5_needOfAll_32 hl (k := 1) rfl (by decide) (by decide) rfl (fun ls hl => ?_)
  refine lv_goto (tgt := 4) hx hb dX5_needOfAll_35 (by decide) ?_
  refine lv_iload_n hx hb dX5_needOfAll_4 rfl (lv_at hl 0 rfl) ?_
  refine lv_aload_n hx hb dX5_needOfAll_5 rfl (lv_at hl 2 rfl) ?_
  refine va_get (D := (dC, dI)) (ci := 6) (v := .ref (q 3)) (C := RX5) (T := TX5) (N := 7) hx hb hts hi6 hown hK hP 0 rfl rfl 2 (by decide) (hts (.fieldLink RX5 19 "GlacierBook" "workers" "Ljava/util/ArrayList;") (by decide +kernel)) (fun _ h9 => h9) rfl dX5_needOfAll_6 ?_
  have hPc := hP.sub (ws' := [(q 3, .inr (0, [.int m3, .ref (q 7), .int 3]))]) [3] rfl
  have hDc := hD.sub (ws' := [(q 3, .inr (0, [.int m3, .ref (q 7), .int 3]))]) [3] (by decide) rfl
  have hKc := hK.sub (tys' := []) [] rfl
  have hFc := gb_free hA hS
  refine va_calli (va_runV (As := []) (rest := [.int 3]) ⟨hx, hb, hml, hown, hts⟩ (c_Jx4a65c_size_8abf5 l hl9 kS tE dC dI H.size (q 3) m3 (q 7) (3 : Int32)) (cwV 0 hts gX5_needOfAll_Jx4a65c_size_8abf5 rfl rfl rfl (by decide +kernel) ⟨Nat.le_of_ble_eq_true rfl, Nat.le_of_ble_eq_true rfl⟩) (gb_preV hZT hZ hS hFc hPc hDc hKc (va_recv hK hP (ci := 0) (q0 := 3) rfl rfl)) rfl rfl hl.1 rfl (lv_room (Nat.le_of_ble_eq_true rfl)) dX5_needOfAll_9 ⟨Nat.le_of_ble_eq_true rfl, Nat.le_of_ble_eq_true rfl⟩) hS (fun q _ h => hFc q h) hFc (fun r_13 u t H locs ht hvm hw hB hz1 hk1 hS => ?_)
  have hP := gb_keep hP hk1
  subst hw
  refine lv_icmp_ge (tgt := 38) hx hb dX5_needOfAll_12 (by decide) (fun _ => ?_) (fun c9 => absurd c9 (by decide))
  refine lv_iload_n hx hb dX5_needOfAll_38 rfl (lv_at hl 1 rfl) ?_
  refine W.widen (k := 0) (n := 0) (Nat.le_of_ble_eq_true rfl) (Nat.le_of_ble_eq_true rfl) ?_
  exact W.iret (v := 0) hx hb hr (fun t ht hW => ⟨⟨0, (), rfl, (lb_94), trivial⟩, hS.F ht⟩) hS.2.2 dX5_needOfAll_39

theorem lb_95 : (0 : Int32) = 0 := by
  (try simp only [sp_hunger, sp_setCut, sp_setWarm, sp_setFrost, sp_setPeople, sp_stock, sp_changed, sp_fill, sp_pass, gb_okD, gb_okG, gb_okW, gb_days, gb_in, gb_lt, gb_le, gb_eq, gb_l0, gb_l1, gb_l2, gb_l3, gb_l4, gb_l5, gb_l10, gb_l19, gb_l20, gb_l40, gb_l60, gb_l1000, gb_l1500, gb_lm1, gb_l65536, true_and, and_true, false_and, and_false, true_or, or_true, false_or, or_false, not_true_eq_false, not_false_eq_true, ne_eq] at *) <;> omega
set_option maxHeartbeats 4000000 in
set_option maxRecDepth 100000 in
theorem c_X5_foodInStation (l : Launch) (hl9 : l.stackTraces = false) (kS : Nat → Nat) (tE : Nat) (dC : Nat → ClassId) (dI : Nat → Nat → Nat) (sz : Nat) (q : Nat → Nat) (cO : ClassId) (cO2 : ClassId) (m4 : Int32) (m3 : Int32) (dv : Int32) : Met l yX5_foodInStation wsX5_foodInStation ({ frames := 1, cells := 0, slots := 0, locals := 20 }) (va_Pc [.ref (q 0)] (gb_Pw kS tE (gb_ro sz) (dC, dI) [(cO, .object "java/lang/Object"), (cO2, .object "java/lang/Object")] [(q 0, .inr (6, [.ref (q 1), .ref (q 2), .ref (q 3), .ref (q 4), .ref (q 5), .int dv, .int 0])), (q 1, .inr (0, [.int m4, .ref (q 6), .int 4])), (q 2, .inr (0, [.int 0, .ref tE, .int 0])), (q 3, .inr (0, [.int m3, .ref (q 7), .int 3])), (q 4, .inr (0, [.int 0, .ref tE, .int 0])), (q 5, .inr (1, [.int 0, .int (-1)])), (q 6, .inl (cO, 10, .inr (.inr (.inr (.inr (va_up (va_up (va_up (va_up (fun _ => none) (0 : Int32).toNatClampNeg (some (q 8))) (1 : Int32).toNatClampNeg (some (q 9))) (2 : Int32).toNatClampNeg (some (q 10))) (3 : Int32).toNatClampNeg (some (q 11)))))))), (q 7, .inl (cO2, 10, .inr (.inr (.inr (.inr (va_up (va_up (va_up (fun _ => none) (0 : Int32).toNatClampNeg (some (q 16))) (1 : Int32).toNatClampNeg (some (q 17))) (2 : Int32).toNatClampNeg (some (q 18)))))))), (q 8, .inr (2, [.int 0, .ref (q 12), .int 1])), (q 9, .inr (2, [.int 1, .ref (q 13), .int 0])), (q 10, .inr (2, [.int 2, .ref (q 14), .int 0])), (q 11, .inr (2, [.int 3, .ref (q 15), .int 0])), (q 12, .inr (1, [.int 0, .int (-1)])), (q 13, .inr (1, [.int 0, .int (-1)])), (q 14, .inr (1, [.int 0, .int (-1)])), (q 15, .inr (1, [.int 0, .int (-1)])), (q 16, .inr (5, [.int 2, .int 0, .int 0, .int 0])), (q 17, .inr (5, [.int 3, .int 0, .int 0, .int 0])), (q 18, .inr (5, [.int 4, .int 0, .int 0, .int 0]))] sz)) (va_Qi (fun (r : Int32) (_ : Unit) => r = 0) (fun _ _ => True) (gb_ro sz)) 0 0 (gb_ro sz) := by
  refine Met.ofW (cc := cX5_foodInStation) (maxL := 4) (ret := (some .int)) (by decide) rfl ?_
  intro p e s m args below meth c s₁ B hml hv
  obtain ⟨rfl, hsz, hZT, hZ, hP, hK, hD0⟩ := hv
  have hx := B.exec
  have hb := B.bytes
  have hr := B.returns
  have hts := atoms_spec (ws := wsX5_foodInStation) B.pre
  have hown : s.vm.findClass RX5 = some m.cls := findClass_of_methodNamed B.named
  have hlocks := B.notSynchronized
  subst hsz
  have hi6 : ∀ w ∈ u_ws RX5 TX5 7, w ∈ wsX5_foodInStation := by decide +kernel
  have hD := hD0
  generalize hAe : gb_ro s.heap.size = A at hZ ⊢
  have hA : ∀ q : Nat, s.heap.size ≤ q → A q := fun q h => by rw [← hAe]; exact h
  have hS : va_S A s.heap s.heap [] := va_S.rf
  have hP : va_P (dC, dI) vwCl [(q 0, .inr (6, [.ref (q 1), .ref (q 2), .ref (q 3), .ref (q 4), .ref (q 5), .int dv, .int 0])), (q 1, .inr (0, [.int m4, .ref (q 6), .int 4])), (q 2, .inr (0, [.int 0, .ref tE, .int 0])), (q 3, .inr (0, [.int m3, .ref (q 7), .int 3])), (q 4, .inr (0, [.int 0, .ref tE, .int 0])), (q 5, .inr (1, [.int 0, .int (-1)])), (q 6, .inl (cO, 10, .inr (.inr (.inr (.inr (va_up (va_up (va_up (va_up (fun _ => none) (0 : Int32).toNatClampNeg (some (q 8))) (1 : Int32).toNatClampNeg (some (q 9))) (2 : Int32).toNatClampNeg (some (q 10))) (3 : Int32).toNatClampNeg (some (q 11)))))))), (q 7, .inl (cO2, 10, .inr (.inr (.inr (.inr (va_up (va_up (va_up (fun _ => none) (0 : Int32).toNatClampNeg (some (q 16))) (1 : Int32).toNatClampNeg (some (q 17))) (2 : Int32).toNatClampNeg (some (q 18)))))))), (q 8, .inr (2, [.int 0, .ref (q 12), .int 1])), (q 9, .inr (2, [.int 1, .ref (q 13), .int 0])), (q 10, .inr (2, [.int 2, .ref (q 14), .int 0])), (q 11, .inr (2, [.int 3, .ref (q 15), .int 0])), (q 12, .inr (1, [.int 0, .int (-1)])), (q 13, .inr (1, [.int 0, .int (-1)])), (q 14, .inr (1, [.int 0, .int (-1)])), (q 15, .inr (1, [.int 0, .int (-1)])), (q 16, .inr (5, [.int 2, .int 0, .int 0, .int 0])), (q 17, .inr (5, [.int 3, .int 0, .int 0, .int 0])), (q 18, .inr (5, [.int 4, .int 0, .int 0, .int 0]))] s.heap := hP
  have hl := lv_entry ([.ref (q 0)]) (n := 4) (Nat.le_of_ble_eq_true rfl)
  rw [lg_entry_eq]
  generalize (lg_sl ([.ref (q 0)]) ++ List.replicate (4 - (lg_sl ([.ref (q 0)])).length) Slot.unset).toArray = ls at hl ⊢
  have hl : lv_has ls 4 [(0, .ref (q 0))] := hl
  refine lv_iconst (v := 0) hx hb dX5_foodInStation_0 (by decide) ?_
  refine lv_istore_n (lv' := [(1, .int 0), (0, .ref (q 0))]) hx hb dX5_foodInStation_1 rfl hl (by decide) rfl (fun ls hl => ?_)
  refine lv_iconst (v := 0) hx hb dX5_foodInStation_2 (by decide) ?_
  refine lv_istore_n (lv' := [(2, .int 0), (1, .int 0), (0, .ref (q 0))]) hx hb dX5_foodInStation_3 rfl hl (by decide) rfl (fun ls hl => ?_)
  refine lv_iload_n hx hb dX5_foodInStation_4 rfl (lv_at hl 0 rfl) ?_
  refine lv_aload_n hx hb dX5_foodInStation_5 rfl (lv_at hl 2 rfl) ?_
  refine va_get (D := (dC, dI)) (ci := 6) (v := .ref (q 2)) (C := RX5) (T := TX5) (N := 7) hx hb hts hi6 hown hK hP 0 rfl rfl 1 (by decide) (hts (.fieldLink RX5 16 "GlacierBook" "allLots" "Ljava/util/ArrayList;") (by decide +kernel)) (fun _ h9 => h9) rfl dX5_foodInStation_6 ?_
  have hPc := hP.sub (ws' := [(q 2, .inr (0, [.int 0, .ref tE, .int 0]))]) [2] rfl
  have hDc := hD.sub (ws' := [(q 2, .inr (0, [.int 0, .ref tE, .int 0]))]) [2] (by decide) rfl
  have hKc := hK.sub (tys' := []) [] rfl
  have hFc := gb_free hA hS
  refine va_calli (va_runV (As := []) (rest := [.int 0]) ⟨hx, hb, hml, hown, hts⟩ (c_Jx4a65c_size_8abf5 l hl9 kS tE dC dI s.heap.size (q 2) (0 : Int32) tE (0 : Int32)) (cwV 0 hts gX5_foodInStation_Jx4a65c_size_8abf5 rfl rfl rfl (by decide +kernel) ⟨Nat.le_of_ble_eq_true rfl, Nat.le_of_ble_eq_true rfl⟩) (gb_preV hZT hZ hS hFc hPc hDc hKc (va_recv hK hP (ci := 0) (q0 := 2) rfl rfl)) rfl rfl hl.1 rfl (lv_room (Nat.le_of_ble_eq_true rfl)) dX5_foodInStation_9 ⟨Nat.le_of_ble_eq_true rfl, Nat.le_of_ble_eq_true rfl⟩) hS (fun q _ h => hFc q h) hFc (fun r_1 u t H locs ht hvm hw hB hz1 hk1 hS => ?_)
  have hP := gb_keep hP hk1
  subst hw
  refine lv_icmp_ge (tgt := 47) hx hb dX5_foodInStation_12 (by decide) (fun _ => ?_) (fun c9 => absurd c9 (by decide))
  refine lv_iload_n hx hb dX5_foodInStation_47 rfl (lv_at hl 1 rfl) ?_
  refine W.widen (k := 0) (n := 0) (Nat.le_of_ble_eq_true rfl) (Nat.le_of_ble_eq_true rfl) ?_
  exact W.iret (v := 0) hx hb hr (fun t ht hW => ⟨⟨0, (), rfl, (lb_95), trivial⟩, hS.F ht⟩) hS.2.2 dX5_foodInStation_48

theorem lb_96 : ((-1) : Int32) = -1 := by
  (try simp only [sp_hunger, sp_setCut, sp_setWarm, sp_setFrost, sp_setPeople, sp_stock, sp_changed, sp_fill, sp_pass, gb_okD, gb_okG, gb_okW, gb_days, gb_in, gb_lt, gb_le, gb_eq, gb_l0, gb_l1, gb_l2, gb_l3, gb_l4, gb_l5, gb_l10, gb_l19, gb_l20, gb_l40, gb_l60, gb_l1000, gb_l1500, gb_lm1, gb_l65536, true_and, and_true, false_and, and_false, true_or, or_true, false_or, or_false, not_true_eq_false, not_false_eq_true, ne_eq] at *) <;> omega
set_option maxHeartbeats 4000000 in
set_option maxRecDepth 100000 in
theorem c_X5_enoughFor (l : Launch) (hl9 : l.stackTraces = false) (kS : Nat → Nat) (tE : Nat) (dC : Nat → ClassId) (dI : Nat → Nat → Nat) (sz : Nat) (q : Nat → Nat) (cO : ClassId) (cO2 : ClassId) (m4 : Int32) (m3 : Int32) (dv : Int32) : Met l yX5_enoughFor wsX5_enoughFor ({ frames := 4, cells := 0, slots := 0, locals := 86 }) (va_Pc [.ref (q 0)] (gb_Pw kS tE (gb_ro sz) (dC, dI) [(cO, .object "java/lang/Object"), (cO2, .object "java/lang/Object")] [(q 0, .inr (6, [.ref (q 1), .ref (q 2), .ref (q 3), .ref (q 4), .ref (q 5), .int dv, .int 0])), (q 1, .inr (0, [.int m4, .ref (q 6), .int 4])), (q 2, .inr (0, [.int 0, .ref tE, .int 0])), (q 3, .inr (0, [.int m3, .ref (q 7), .int 3])), (q 4, .inr (0, [.int 0, .ref tE, .int 0])), (q 5, .inr (1, [.int 0, .int (-1)])), (q 6, .inl (cO, 10, .inr (.inr (.inr (.inr (va_up (va_up (va_up (va_up (fun _ => none) (0 : Int32).toNatClampNeg (some (q 8))) (1 : Int32).toNatClampNeg (some (q 9))) (2 : Int32).toNatClampNeg (some (q 10))) (3 : Int32).toNatClampNeg (some (q 11)))))))), (q 7, .inl (cO2, 10, .inr (.inr (.inr (.inr (va_up (va_up (va_up (fun _ => none) (0 : Int32).toNatClampNeg (some (q 16))) (1 : Int32).toNatClampNeg (some (q 17))) (2 : Int32).toNatClampNeg (some (q 18)))))))), (q 8, .inr (2, [.int 0, .ref (q 12), .int 1])), (q 9, .inr (2, [.int 1, .ref (q 13), .int 0])), (q 10, .inr (2, [.int 2, .ref (q 14), .int 0])), (q 11, .inr (2, [.int 3, .ref (q 15), .int 0])), (q 12, .inr (1, [.int 0, .int (-1)])), (q 13, .inr (1, [.int 0, .int (-1)])), (q 14, .inr (1, [.int 0, .int (-1)])), (q 15, .inr (1, [.int 0, .int (-1)])), (q 16, .inr (5, [.int 2, .int 0, .int 0, .int 0])), (q 17, .inr (5, [.int 3, .int 0, .int 0, .int 0])), (q 18, .inr (5, [.int 4, .int 0, .int 0, .int 0]))] sz)) (va_Qi (fun (r : Int32) (_ : Unit) => r = -1) (fun _ _ => True) (gb_ro sz)) 0 0 (gb_ro sz) := by
  refine Met.ofW (cc := cX5_enoughFor) (maxL := 2) (ret := (some .int)) (by decide) rfl ?_
  intro p e s m args below meth c s₁ B hml hv
  obtain ⟨rfl, hsz, hZT, hZ, hP, hK, hD0⟩ := hv
  have hx := B.exec
  have hb := B.bytes
  have hr := B.returns
  have hts := atoms_spec (ws := wsX5_enoughFor) B.pre
  have hown : s.vm.findClass RX5 = some m.cls := findClass_of_methodNamed B.named
  have hlocks := B.notSynchronized
  subst hsz
  have hD := hD0
  generalize hAe : gb_ro s.heap.size = A at hZ ⊢
  have hA : ∀ q : Nat, s.heap.size ≤ q → A q := fun q h => by rw [← hAe]; exact h
  have hS : va_S A s.heap s.heap [] := va_S.rf
  have hP : va_P (dC, dI) vwCl [(q 0, .inr (6, [.ref (q 1), .ref (q 2), .ref (q 3), .ref (q 4), .ref (q 5), .int dv, .int 0])), (q 1, .inr (0, [.int m4, .ref (q 6), .int 4])), (q 2, .inr (0, [.int 0, .ref tE, .int 0])), (q 3, .inr (0, [.int m3, .ref (q 7), .int 3])), (q 4, .inr (0, [.int 0, .ref tE, .int 0])), (q 5, .inr (1, [.int 0, .int (-1)])), (q 6, .inl (cO, 10, .inr (.inr (.inr (.inr (va_up (va_up (va_up (va_up (fun _ => none) (0 : Int32).toNatClampNeg (some (q 8))) (1 : Int32).toNatClampNeg (some (q 9))) (2 : Int32).toNatClampNeg (some (q 10))) (3 : Int32).toNatClampNeg (some (q 11)))))))), (q 7, .inl (cO2, 10, .inr (.inr (.inr (.inr (va_up (va_up (va_up (fun _ => none) (0 : Int32).toNatClampNeg (some (q 16))) (1 : Int32).toNatClampNeg (some (q 17))) (2 : Int32).toNatClampNeg (some (q 18)))))))), (q 8, .inr (2, [.int 0, .ref (q 12), .int 1])), (q 9, .inr (2, [.int 1, .ref (q 13), .int 0])), (q 10, .inr (2, [.int 2, .ref (q 14), .int 0])), (q 11, .inr (2, [.int 3, .ref (q 15), .int 0])), (q 12, .inr (1, [.int 0, .int (-1)])), (q 13, .inr (1, [.int 0, .int (-1)])), (q 14, .inr (1, [.int 0, .int (-1)])), (q 15, .inr (1, [.int 0, .int (-1)])), (q 16, .inr (5, [.int 2, .int 0, .int 0, .int 0])), (q 17, .inr (5, [.int 3, .int 0, .int 0, .int 0])), (q 18, .inr (5, [.int 4, .int 0, .int 0, .int 0]))] s.heap := hP
  have hl := lv_entry ([.ref (q 0)]) (n := 2) (Nat.le_of_ble_eq_true rfl)
  rw [lg_entry_eq]
  generalize (lg_sl ([.ref (q 0)]) ++ List.replicate (2 - (lg_sl ([.ref (q 0)])).length) Slot.unset).toArray = ls at hl ⊢
  have hl : lv_has ls 2 [(0, .ref (q 0))] := hl
  refine lv_aload_n hx hb dX5_enoughFor_0 rfl (lv_at hl 0 rfl) ?_
  have hFc := gb_free hA hS
  refine va_calli (va_runV (As := []) (rest := []) ⟨hx, hb, hml, hown, hts⟩ (c_X5_needOfAll l hl9 kS tE dC dI s.heap.size q cO cO2 m4 m3 dv) (cwV 0 hts gX5_enoughFor_X5_needOfAll rfl rfl rfl (by decide +kernel) ⟨Nat.le_of_ble_eq_true rfl, Nat.le_of_ble_eq_true rfl⟩) (gb_preV hZT hZ hS hFc hP hD hK (va_recv hK hP (ci := 6) (q0 := 0) rfl rfl)) rfl rfl hl.1 rfl (lv_room (Nat.le_of_ble_eq_true rfl)) dX5_enoughFor_1 ⟨Nat.le_of_ble_eq_true rfl, Nat.le_of_ble_eq_true rfl⟩) hS (fun q _ h => hFc q h) hFc (fun r_1 u t H locs ht hvm hw hB hz1 hk1 hS => ?_)
  have hP := gb_keep hP hk1
  subst hw
  refine lv_istore_n (lv' := [(1, .int 0), (0, .ref (q 0))]) hx hb dX5_enoughFor_4 rfl hl (by decide) rfl (fun ls hl => ?_)
  refine lv_iload_n hx hb dX5_enoughFor_5 rfl (lv_at hl 0 rfl) ?_
  refine lv_if_le (tgt := 18) hx hb dX5_enoughFor_6 (by decide) (fun _ => ?_) (fun c9 => absurd c9 (by decide))
  refine lv_iconst (v := (-1)) hx hb dX5_enoughFor_18 (by decide) ?_
  refine W.widen (k := 0) (n := 0) (Nat.le_of_ble_eq_true rfl) (Nat.le_of_ble_eq_true rfl) ?_
  exact W.iret (v := (-1)) hx hb hr (fun t ht hW => ⟨⟨(-1), (), rfl, (lb_96), trivial⟩, hS.F ht⟩) hS.2.2 dX5_enoughFor_19

theorem lb_97 : True := by
  (try simp only [sp_hunger, sp_setCut, sp_setWarm, sp_setFrost, sp_setPeople, sp_stock, sp_changed, sp_fill, sp_pass, gb_okD, gb_okG, gb_okW, gb_days, gb_in, gb_lt, gb_le, gb_eq, gb_l0, gb_l1, gb_l2, gb_l3, gb_l4, gb_l5, gb_l10, gb_l19, gb_l20, gb_l40, gb_l60, gb_l1000, gb_l1500, gb_lm1, gb_l65536, true_and, and_true, false_and, and_false, true_or, or_true, false_or, or_false, not_true_eq_false, not_false_eq_true, ne_eq] at *) <;> omega
set_option maxHeartbeats 4000000 in
set_option maxRecDepth 100000 in
theorem c_X5_throwAwayOld (l : Launch) (hl9 : l.stackTraces = false) (kS : Nat → Nat) (tE : Nat) (dC : Nat → ClassId) (dI : Nat → Nat → Nat) (sz : Nat) (q : Nat → Nat) (cO : ClassId) (cO2 : ClassId) (m4 : Int32) (m3 : Int32) (dv : Int32) : Met l yX5_throwAwayOld wsX5_throwAwayOld ({ frames := 1, cells := 0, slots := 0, locals := 20 }) (va_Pc [.ref (q 0)] (gb_Pw kS tE (gb_ro sz) (dC, dI) [(cO, .object "java/lang/Object"), (cO2, .object "java/lang/Object")] [(q 0, .inr (6, [.ref (q 1), .ref (q 2), .ref (q 3), .ref (q 4), .ref (q 5), .int dv, .int 0])), (q 1, .inr (0, [.int m4, .ref (q 6), .int 4])), (q 2, .inr (0, [.int 0, .ref tE, .int 0])), (q 3, .inr (0, [.int m3, .ref (q 7), .int 3])), (q 4, .inr (0, [.int 0, .ref tE, .int 0])), (q 5, .inr (1, [.int 0, .int (-1)])), (q 6, .inl (cO, 10, .inr (.inr (.inr (.inr (va_up (va_up (va_up (va_up (fun _ => none) (0 : Int32).toNatClampNeg (some (q 8))) (1 : Int32).toNatClampNeg (some (q 9))) (2 : Int32).toNatClampNeg (some (q 10))) (3 : Int32).toNatClampNeg (some (q 11)))))))), (q 7, .inl (cO2, 10, .inr (.inr (.inr (.inr (va_up (va_up (va_up (fun _ => none) (0 : Int32).toNatClampNeg (some (q 16))) (1 : Int32).toNatClampNeg (some (q 17))) (2 : Int32).toNatClampNeg (some (q 18)))))))), (q 8, .inr (2, [.int 0, .ref (q 12), .int 1])), (q 9, .inr (2, [.int 1, .ref (q 13), .int 0])), (q 10, .inr (2, [.int 2, .ref (q 14), .int 0])), (q 11, .inr (2, [.int 3, .ref (q 15), .int 0])), (q 12, .inr (1, [.int 0, .int (-1)])), (q 13, .inr (1, [.int 0, .int (-1)])), (q 14, .inr (1, [.int 0, .int (-1)])), (q 15, .inr (1, [.int 0, .int (-1)])), (q 16, .inr (5, [.int 2, .int 0, .int 0, .int 0])), (q 17, .inr (5, [.int 3, .int 0, .int 0, .int 0])), (q 18, .inr (5, [.int 4, .int 0, .int 0, .int 0]))] sz)) (va_Qv (fun _ : Unit => True) (fun _ _ => True) (gb_ro sz)) 0 0 (gb_ro sz) := by
  refine Met.ofW (cc := cX5_throwAwayOld) (maxL := 3) (ret := none) (by decide) rfl ?_
  intro p e s m args below meth c s₁ B hml hv
  obtain ⟨rfl, hsz, hZT, hZ, hP, hK, hD0⟩ := hv
  have hx := B.exec
  have hb := B.bytes
  have hr := B.returns
  have hts := atoms_spec (ws := wsX5_throwAwayOld) B.pre
  have hown : s.vm.findClass RX5 = some m.cls := findClass_of_methodNamed B.named
  have hlocks := B.notSynchronized
  subst hsz
  have hi6 : ∀ w ∈ u_ws RX5 TX5 7, w ∈ wsX5_throwAwayOld := by decide +kernel
  have hD := hD0
  generalize hAe : gb_ro s.heap.size = A at hZ ⊢
  have hA : ∀ q : Nat, s.heap.size ≤ q → A q := fun q h => by rw [← hAe]; exact h
  have hS : va_S A s.heap s.heap [] := va_S.rf
  have hP : va_P (dC, dI) vwCl [(q 0, .inr (6, [.ref (q 1), .ref (q 2), .ref (q 3), .ref (q 4), .ref (q 5), .int dv, .int 0])), (q 1, .inr (0, [.int m4, .ref (q 6), .int 4])), (q 2, .inr (0, [.int 0, .ref tE, .int 0])), (q 3, .inr (0, [.int m3, .ref (q 7), .int 3])), (q 4, .inr (0, [.int 0, .ref tE, .int 0])), (q 5, .inr (1, [.int 0, .int (-1)])), (q 6, .inl (cO, 10, .inr (.inr (.inr (.inr (va_up (va_up (va_up (va_up (fun _ => none) (0 : Int32).toNatClampNeg (some (q 8))) (1 : Int32).toNatClampNeg (some (q 9))) (2 : Int32).toNatClampNeg (some (q 10))) (3 : Int32).toNatClampNeg (some (q 11)))))))), (q 7, .inl (cO2, 10, .inr (.inr (.inr (.inr (va_up (va_up (va_up (fun _ => none) (0 : Int32).toNatClampNeg (some (q 16))) (1 : Int32).toNatClampNeg (some (q 17))) (2 : Int32).toNatClampNeg (some (q 18)))))))), (q 8, .inr (2, [.int 0, .ref (q 12), .int 1])), (q 9, .inr (2, [.int 1, .ref (q 13), .int 0])), (q 10, .inr (2, [.int 2, .ref (q 14), .int 0])), (q 11, .inr (2, [.int 3, .ref (q 15), .int 0])), (q 12, .inr (1, [.int 0, .int (-1)])), (q 13, .inr (1, [.int 0, .int (-1)])), (q 14, .inr (1, [.int 0, .int (-1)])), (q 15, .inr (1, [.int 0, .int (-1)])), (q 16, .inr (5, [.int 2, .int 0, .int 0, .int 0])), (q 17, .inr (5, [.int 3, .int 0, .int 0, .int 0])), (q 18, .inr (5, [.int 4, .int 0, .int 0, .int 0]))] s.heap := hP
  have hl := lv_entry ([.ref (q 0)]) (n := 3) (Nat.le_of_ble_eq_true rfl)
  rw [lg_entry_eq]
  generalize (lg_sl ([.ref (q 0)]) ++ List.replicate (3 - (lg_sl ([.ref (q 0)])).length) Slot.unset).toArray = ls at hl ⊢
  have hl : lv_has ls 3 [(0, .ref (q 0))] := hl
  refine lv_iconst (v := 0) hx hb dX5_throwAwayOld_0 (by decide) ?_
  refine lv_istore_n (lv' := [(1, .int 0), (0, .ref (q 0))]) hx hb dX5_throwAwayOld_1 rfl hl (by decide) rfl (fun ls hl => ?_)
  refine lv_iload_n hx hb dX5_throwAwayOld_2 rfl (lv_at hl 0 rfl) ?_
  refine lv_aload_n hx hb dX5_throwAwayOld_3 rfl (lv_at hl 1 rfl) ?_
  refine va_get (D := (dC, dI)) (ci := 6) (v := .ref (q 2)) (C := RX5) (T := TX5) (N := 7) hx hb hts hi6 hown hK hP 0 rfl rfl 1 (by decide) (hts (.fieldLink RX5 16 "GlacierBook" "allLots" "Ljava/util/ArrayList;") (by decide +kernel)) (fun _ h9 => h9) rfl dX5_throwAwayOld_4 ?_
  have hPc := hP.sub (ws' := [(q 2, .inr (0, [.int 0, .ref tE, .int 0]))]) [2] rfl
  have hDc := hD.sub (ws' := [(q 2, .inr (0, [.int 0, .ref tE, .int 0]))]) [2] (by decide) rfl
  have hKc := hK.sub (tys' := []) [] rfl
  have hFc := gb_free hA hS
  refine va_calli (va_runV (As := []) (rest := [.int 0]) ⟨hx, hb, hml, hown, hts⟩ (c_Jx4a65c_size_8abf5 l hl9 kS tE dC dI s.heap.size (q 2) (0 : Int32) tE (0 : Int32)) (cwV 0 hts gX5_throwAwayOld_Jx4a65c_size_8abf5 rfl rfl rfl (by decide +kernel) ⟨Nat.le_of_ble_eq_true rfl, Nat.le_of_ble_eq_true rfl⟩) (gb_preV hZT hZ hS hFc hPc hDc hKc (va_recv hK hP (ci := 0) (q0 := 2) rfl rfl)) rfl rfl hl.1 rfl (lv_room (Nat.le_of_ble_eq_true rfl)) dX5_throwAwayOld_7 ⟨Nat.le_of_ble_eq_true rfl, Nat.le_of_ble_eq_true rfl⟩) hS (fun q _ h => hFc q h) hFc (fun r_1 u t H locs ht hvm hw hB hz1 hk1 hS => ?_)
  have hP := gb_keep hP hk1
  subst hw
  refine lv_icmp_ge (tgt := 53) hx hb dX5_throwAwayOld_10 (by decide) (fun _ => ?_) (fun c9 => absurd c9 (by decide))
  refine W.widen (k := 0) (n := 0) (Nat.le_of_ble_eq_true rfl) (Nat.le_of_ble_eq_true rfl) ?_
  exact W.vret hx hb hr (fun t ht hW => ⟨⟨(), rfl, (lb_97), trivial⟩, hS.F ht⟩) hS.2.2 dX5_throwAwayOld_53

theorem lb_98 (dv : Int32) (r_1 : Int32) (w_2 : (r_1 = 1 ∧ (0 : Int32) ≤ dv ∧ dv ≤ ((-1) : Int32)) ∨ (r_1 = 0 ∧ ¬ ((0 : Int32) ≤ dv ∧ dv ≤ ((-1) : Int32)))) (c_3 : ¬ r_1 = 0) : True := by
  (try simp only [sp_hunger, sp_setCut, sp_setWarm, sp_setFrost, sp_setPeople, sp_stock, sp_changed, sp_fill, sp_pass, gb_okD, gb_okG, gb_okW, gb_days, gb_in, gb_lt, gb_le, gb_eq, gb_l0, gb_l1, gb_l2, gb_l3, gb_l4, gb_l5, gb_l10, gb_l19, gb_l20, gb_l40, gb_l60, gb_l1000, gb_l1500, gb_lm1, gb_l65536, true_and, and_true, false_and, and_false, true_or, or_true, false_or, or_false, not_true_eq_false, not_false_eq_true, ne_eq] at *) <;> omega
theorem lb_99 (dv : Int32) (r_1 : Int32) (w_2 : (r_1 = 1 ∧ (0 : Int32) ≤ dv ∧ dv ≤ ((-1) : Int32)) ∨ (r_1 = 0 ∧ ¬ ((0 : Int32) ≤ dv ∧ dv ≤ ((-1) : Int32)))) (c_3 : r_1 = 0) : True := by
  (try simp only [sp_hunger, sp_setCut, sp_setWarm, sp_setFrost, sp_setPeople, sp_stock, sp_changed, sp_fill, sp_pass, gb_okD, gb_okG, gb_okW, gb_days, gb_in, gb_lt, gb_le, gb_eq, gb_l0, gb_l1, gb_l2, gb_l3, gb_l4, gb_l5, gb_l10, gb_l19, gb_l20, gb_l40, gb_l60, gb_l1000, gb_l1500, gb_lm1, gb_l65536, true_and, and_true, false_and, and_false, true_or, or_true, false_or, or_false, not_true_eq_false, not_false_eq_true, ne_eq] at *) <;> omega
set_option maxHeartbeats 4000000 in
set_option maxRecDepth 100000 in
theorem c_X5_freeze (l : Launch) (hl9 : l.stackTraces = false) (kS : Nat → Nat) (tE : Nat) (dC : Nat → ClassId) (dI : Nat → Nat → Nat) (sz : Nat) (q : Nat → Nat) (cO : ClassId) (cO2 : ClassId) (m4 : Int32) (m3 : Int32) (dv : Int32) : Met l yX5_freeze wsX5_freeze ({ frames := 1, cells := 0, slots := 0, locals := 21 }) (va_Pc [.ref (q 0)] (gb_Pw kS tE (gb_ro sz) (dC, dI) [(cO, .object "java/lang/Object"), (cO2, .object "java/lang/Object")] [(q 0, .inr (6, [.ref (q 1), .ref (q 2), .ref (q 3), .ref (q 4), .ref (q 5), .int dv, .int 0])), (q 1, .inr (0, [.int m4, .ref (q 6), .int 4])), (q 2, .inr (0, [.int 0, .ref tE, .int 0])), (q 3, .inr (0, [.int m3, .ref (q 7), .int 3])), (q 4, .inr (0, [.int 0, .ref tE, .int 0])), (q 5, .inr (1, [.int 0, .int (-1)])), (q 6, .inl (cO, 10, .inr (.inr (.inr (.inr (va_up (va_up (va_up (va_up (fun _ => none) (0 : Int32).toNatClampNeg (some (q 8))) (1 : Int32).toNatClampNeg (some (q 9))) (2 : Int32).toNatClampNeg (some (q 10))) (3 : Int32).toNatClampNeg (some (q 11)))))))), (q 7, .inl (cO2, 10, .inr (.inr (.inr (.inr (va_up (va_up (va_up (fun _ => none) (0 : Int32).toNatClampNeg (some (q 16))) (1 : Int32).toNatClampNeg (some (q 17))) (2 : Int32).toNatClampNeg (some (q 18)))))))), (q 8, .inr (2, [.int 0, .ref (q 12), .int 1])), (q 9, .inr (2, [.int 1, .ref (q 13), .int 0])), (q 10, .inr (2, [.int 2, .ref (q 14), .int 0])), (q 11, .inr (2, [.int 3, .ref (q 15), .int 0])), (q 12, .inr (1, [.int 0, .int (-1)])), (q 13, .inr (1, [.int 0, .int (-1)])), (q 14, .inr (1, [.int 0, .int (-1)])), (q 15, .inr (1, [.int 0, .int (-1)])), (q 16, .inr (5, [.int 2, .int 0, .int 0, .int 0])), (q 17, .inr (5, [.int 3, .int 0, .int 0, .int 0])), (q 18, .inr (5, [.int 4, .int 0, .int 0, .int 0]))] sz)) (va_Qv (fun _ : Unit => True) (fun _ _ => True) (gb_ro sz)) 0 0 (gb_ro sz) := by
  refine Met.ofW (cc := cX5_freeze) (maxL := 3) (ret := none) (by decide) rfl ?_
  intro p e s m args below meth c s₁ B hml hv
  obtain ⟨rfl, hsz, hZT, hZ, hP, hK, hD0⟩ := hv
  have hx := B.exec
  have hb := B.bytes
  have hr := B.returns
  have hts := atoms_spec (ws := wsX5_freeze) B.pre
  have hown : s.vm.findClass RX5 = some m.cls := findClass_of_methodNamed B.named
  have hlocks := B.notSynchronized
  subst hsz
  have hi6 : ∀ w ∈ u_ws RX5 TX5 7, w ∈ wsX5_freeze := by decide +kernel
  have hD := hD0
  generalize hAe : gb_ro s.heap.size = A at hZ ⊢
  have hA : ∀ q : Nat, s.heap.size ≤ q → A q := fun q h => by rw [← hAe]; exact h
  have hS : va_S A s.heap s.heap [] := va_S.rf
  have hP : va_P (dC, dI) vwCl [(q 0, .inr (6, [.ref (q 1), .ref (q 2), .ref (q 3), .ref (q 4), .ref (q 5), .int dv, .int 0])), (q 1, .inr (0, [.int m4, .ref (q 6), .int 4])), (q 2, .inr (0, [.int 0, .ref tE, .int 0])), (q 3, .inr (0, [.int m3, .ref (q 7), .int 3])), (q 4, .inr (0, [.int 0, .ref tE, .int 0])), (q 5, .inr (1, [.int 0, .int (-1)])), (q 6, .inl (cO, 10, .inr (.inr (.inr (.inr (va_up (va_up (va_up (va_up (fun _ => none) (0 : Int32).toNatClampNeg (some (q 8))) (1 : Int32).toNatClampNeg (some (q 9))) (2 : Int32).toNatClampNeg (some (q 10))) (3 : Int32).toNatClampNeg (some (q 11)))))))), (q 7, .inl (cO2, 10, .inr (.inr (.inr (.inr (va_up (va_up (va_up (fun _ => none) (0 : Int32).toNatClampNeg (some (q 16))) (1 : Int32).toNatClampNeg (some (q 17))) (2 : Int32).toNatClampNeg (some (q 18)))))))), (q 8, .inr (2, [.int 0, .ref (q 12), .int 1])), (q 9, .inr (2, [.int 1, .ref (q 13), .int 0])), (q 10, .inr (2, [.int 2, .ref (q 14), .int 0])), (q 11, .inr (2, [.int 3, .ref (q 15), .int 0])), (q 12, .inr (1, [.int 0, .int (-1)])), (q 13, .inr (1, [.int 0, .int (-1)])), (q 14, .inr (1, [.int 0, .int (-1)])), (q 15, .inr (1, [.int 0, .int (-1)])), (q 16, .inr (5, [.int 2, .int 0, .int 0, .int 0])), (q 17, .inr (5, [.int 3, .int 0, .int 0, .int 0])), (q 18, .inr (5, [.int 4, .int 0, .int 0, .int 0]))] s.heap := hP
  have hl := lv_entry ([.ref (q 0)]) (n := 3) (Nat.le_of_ble_eq_true rfl)
  rw [lg_entry_eq]
  generalize (lg_sl ([.ref (q 0)]) ++ List.replicate (3 - (lg_sl ([.ref (q 0)])).length) Slot.unset).toArray = ls at hl ⊢
  have hl : lv_has ls 3 [(0, .ref (q 0))] := hl
  refine lv_aload_n hx hb dX5_freeze_0 rfl (lv_at hl 0 rfl) ?_
  refine va_get (D := (dC, dI)) (ci := 6) (v := .ref (q 5)) (C := RX5) (T := TX5) (N := 7) hx hb hts hi6 hown hK hP 0 rfl rfl 4 (by decide) (hts (.fieldLink RX5 28 "GlacierBook" "frost" "LGlacierBook$Days;") (by decide +kernel)) (fun _ h9 => h9) rfl dX5_freeze_1 ?_
  refine lv_aload_n hx hb dX5_freeze_4 rfl (lv_at hl 0 rfl) ?_
  refine va_get (D := (dC, dI)) (ci := 6) (v := .int dv) (C := RX5) (T := TX5) (N := 7) hx hb hts hi6 hown hK hP 0 rfl rfl 5 (by decide) (hts (.fieldLink RX5 32 "GlacierBook" "day" "I") (by decide +kernel)) (fun _ h9 => h9) rfl dX5_freeze_5 ?_
  have hPc := hP.sub (ws' := [(q 5, .inr (1, [.int 0, .int (-1)]))]) [5] rfl
  have hDc := hD.sub (ws' := [(q 5, .inr (1, [.int 0, .int (-1)]))]) [5] (by decide) rfl
  have hKc := hK.sub (tys' := []) [] rfl
  have hFc := gb_free hA hS
  refine va_calli (va_runV (As := [.int dv]) (rest := []) ⟨hx, hb, hml, hown, hts⟩ (c_X0_include l hl9 kS tE dC dI s.heap.size (q 5) (0 : Int32) ((-1) : Int32) dv) (cwV 1 hts gX5_freeze_X0_include rfl rfl rfl (by decide +kernel) ⟨Nat.le_of_ble_eq_true rfl, Nat.le_of_ble_eq_true rfl⟩) (gb_preV hZT hZ hS hFc hPc hDc hKc (va_recv hK hP (ci := 1) (q0 := 5) rfl rfl)) rfl rfl hl.1 rfl (lv_room (Nat.le_of_ble_eq_true rfl)) dX5_freeze_8 ⟨Nat.le_of_ble_eq_true rfl, Nat.le_of_ble_eq_true rfl⟩) hS (fun q _ h => hFc q h) hFc (fun r_1 u t H locs ht hvm hw hB hz1 hk1 hS => ?_)
  have hP := gb_keep hP hk1
  have w_2 := hw
  refine lv_if_ne (tgt := 15) hx hb dX5_freeze_11 (by decide) (fun c_3 => ?_) (fun c_3 => ?_)
  · refine lv_iconst (v := 0) hx hb dX5_freeze_15 (by decide) ?_
    refine lv_istore_n (lv' := [(1, .int 0), (0, .ref (q 0))]) hx hb dX5_freeze_16 rfl hl (by decide) rfl (fun ls hl => ?_)
    refine lv_iload_n hx hb dX5_freeze_17 rfl (lv_at hl 0 rfl) ?_
    refine lv_aload_n hx hb dX5_freeze_18 rfl (lv_at hl 1 rfl) ?_
    refine va_get (D := (dC, dI)) (ci := 6) (v := .ref (q 2)) (C := RX5) (T := TX5) (N := 7) hx hb hts hi6 hown hK hP 0 rfl rfl 1 (by decide) (hts (.fieldLink RX5 16 "GlacierBook" "allLots" "Ljava/util/ArrayList;") (by decide +kernel)) (fun _ h9 => h9) rfl dX5_freeze_19 ?_
    have hPc := hP.sub (ws' := [(q 2, .inr (0, [.int 0, .ref tE, .int 0]))]) [2] rfl
    have hDc := hD.sub (ws' := [(q 2, .inr (0, [.int 0, .ref tE, .int 0]))]) [2] (by decide) rfl
    have hKc := hK.sub (tys' := []) [] rfl
    have hFc := gb_free hA hS
    refine va_calli (va_runV (As := []) (rest := [.int 0]) ⟨hx, hb, hml, hown, hts⟩ (c_Jx4a65c_size_8abf5 l hl9 kS tE dC dI H.size (q 2) (0 : Int32) tE (0 : Int32)) (cwV 0 hts gX5_freeze_Jx4a65c_size_8abf5 rfl rfl rfl (by decide +kernel) ⟨Nat.le_of_ble_eq_true rfl, Nat.le_of_ble_eq_true rfl⟩) (gb_preV hZT hZ hS hFc hPc hDc hKc (va_recv hK hP (ci := 0) (q0 := 2) rfl rfl)) rfl rfl hl.1 rfl (lv_room (Nat.le_of_ble_eq_true rfl)) dX5_freeze_22 ⟨Nat.le_of_ble_eq_true rfl, Nat.le_of_ble_eq_true rfl⟩) hS (fun q _ h => hFc q h) hFc (fun r_4 u t H locs ht hvm hw hB hz1 hk1 hS => ?_)
    have hP := gb_keep hP hk1
    subst hw
    refine lv_icmp_ge (tgt := 81) hx hb dX5_freeze_25 (by decide) (fun _ => ?_) (fun c9 => absurd c9 (by decide))
    refine W.widen (k := 0) (n := 0) (Nat.le_of_ble_eq_true rfl) (Nat.le_of_ble_eq_true rfl) ?_
    exact W.vret hx hb hr (fun t ht hW => ⟨⟨(), rfl, (lb_98 dv r_1 w_2 c_3), trivial⟩, hS.F ht⟩) hS.2.2 dX5_freeze_81
  · refine W.widen (k := 0) (n := 0) (Nat.le_of_ble_eq_true rfl) (Nat.le_of_ble_eq_true rfl) ?_
    exact W.vret hx hb hr (fun t ht hW => ⟨⟨(), rfl, (lb_99 dv r_1 w_2 c_3), trivial⟩, hS.F ht⟩) hS.2.2 dX5_freeze_14

theorem lb_100 : True := by
  (try simp only [sp_hunger, sp_setCut, sp_setWarm, sp_setFrost, sp_setPeople, sp_stock, sp_changed, sp_fill, sp_pass, gb_okD, gb_okG, gb_okW, gb_days, gb_in, gb_lt, gb_le, gb_eq, gb_l0, gb_l1, gb_l2, gb_l3, gb_l4, gb_l5, gb_l10, gb_l19, gb_l20, gb_l40, gb_l60, gb_l1000, gb_l1500, gb_lm1, gb_l65536, true_and, and_true, false_and, and_false, true_or, or_true, false_or, or_false, not_true_eq_false, not_false_eq_true, ne_eq] at *) <;> omega
set_option maxHeartbeats 4000000 in
set_option maxRecDepth 100000 in
theorem c_X5_eatFromLots (l : Launch) (hl9 : l.stackTraces = false) (kS : Nat → Nat) (tE : Nat) (dC : Nat → ClassId) (dI : Nat → Nat → Nat) (sz : Nat) (q : Nat → Nat) : Met l yX5_eatFromLots wsX5_eatFromLots ({ frames := 0, cells := 0, slots := 0, locals := 0 }) (va_Pc [.ref (q 0), .int 0] (gb_Pw kS tE (gb_ro sz) (dC, dI) [] [] sz)) (va_Qv (fun _ : Unit => True) (fun _ _ => True) (gb_ro sz)) 0 0 (gb_ro sz) := by
  refine Met.ofW (cc := cX5_eatFromLots) (maxL := 6) (ret := none) (by decide) rfl ?_
  intro p e s m args below meth c s₁ B hml hv
  obtain ⟨rfl, hsz, hZT, hZ, hP, hK, hD0⟩ := hv
  have hx := B.exec
  have hb := B.bytes
  have hr := B.returns
  have hts := atoms_spec (ws := wsX5_eatFromLots) B.pre
  have hown : s.vm.findClass RX5 = some m.cls := findClass_of_methodNamed B.named
  have hlocks := B.notSynchronized
  subst hsz
  have hD := hD0
  generalize hAe : gb_ro s.heap.size = A at hZ ⊢
  have hA : ∀ q : Nat, s.heap.size ≤ q → A q := fun q h => by rw [← hAe]; exact h
  have hS : va_S A s.heap s.heap [] := va_S.rf
  have hP : va_P (dC, dI) vwCl [] s.heap := hP
  have hl := lv_entry ([.ref (q 0), .int 0]) (n := 6) (Nat.le_of_ble_eq_true rfl)
  rw [lg_entry_eq]
  generalize (lg_sl ([.ref (q 0), .int 0]) ++ List.replicate (6 - (lg_sl ([.ref (q 0), .int 0])).length) Slot.unset).toArray = ls at hl ⊢
  have hl : lv_has ls 6 [(0, .ref (q 0)), (1, .int 0)] := hl
  refine lv_iload_n hx hb dX5_eatFromLots_0 rfl (lv_at hl 1 rfl) ?_
  refine lv_istore_n (lv' := [(2, .int 0), (0, .ref (q 0)), (1, .int 0)]) hx hb dX5_eatFromLots_1 rfl hl (by decide) rfl (fun ls hl => ?_)
  refine lv_iconst (v := 0) hx hb dX5_eatFromLots_2 (by decide) ?_
  refine lv_istore_n (lv' := [(3, .int 0), (2, .int 0), (0, .ref (q 0)), (1, .int 0)]) hx hb dX5_eatFromLots_3 rfl hl (by decide) rfl (fun ls hl => ?_)
  refine lv_iload_n hx hb dX5_eatFromLots_4 rfl (lv_at hl 0 rfl) ?_
  refine lv_bipush (v := 40) hx hb dX5_eatFromLots_5 (by decide) ?_
  refine lv_icmp_ge (tgt := 58) hx hb dX5_eatFromLots_7 (by decide) (fun c9 => absurd c9 (by decide)) (fun _ => ?_)
  refine lv_iload_n hx hb dX5_eatFromLots_10 rfl (lv_at hl 1 rfl) ?_
  refine lv_if_le (tgt := 58) hx hb dX5_eatFromLots_11 (by decide) (fun _ => ?_) (fun c9 => absurd c9 (by decide))
  refine W.widen (k := 0) (n := 0) (Nat.le_of_ble_eq_true rfl) (Nat.le_of_ble_eq_true rfl) ?_
  exact W.vret hx hb hr (fun t ht hW => ⟨⟨(), rfl, (lb_100), trivial⟩, hS.F ht⟩) hS.2.2 dX5_eatFromLots_58

theorem lb_101 : (0 : Int32) = 0 := by
  (try simp only [sp_hunger, sp_setCut, sp_setWarm, sp_setFrost, sp_setPeople, sp_stock, sp_changed, sp_fill, sp_pass, gb_okD, gb_okG, gb_okW, gb_days, gb_in, gb_lt, gb_le, gb_eq, gb_l0, gb_l1, gb_l2, gb_l3, gb_l4, gb_l5, gb_l10, gb_l19, gb_l20, gb_l40, gb_l60, gb_l1000, gb_l1500, gb_lm1, gb_l65536, true_and, and_true, false_and, and_false, true_or, or_true, false_or, or_false, not_true_eq_false, not_false_eq_true, ne_eq] at *) <;> omega
set_option maxHeartbeats 4000000 in
set_option maxRecDepth 100000 in
theorem c_X5_feedPeople (l : Launch) (hl9 : l.stackTraces = false) (kS : Nat → Nat) (tE : Nat) (dC : Nat → ClassId) (dI : Nat → Nat → Nat) (sz : Nat) (q : Nat → Nat) (cO : ClassId) (cO2 : ClassId) (m4 : Int32) (m3 : Int32) (dv : Int32) : Met l yX5_feedPeople wsX5_feedPeople ({ frames := 4, cells := 0, slots := 0, locals := 86 }) (va_Pc [.ref (q 0)] (gb_Pw kS tE (gb_ro sz) (dC, dI) [(cO, .object "java/lang/Object"), (cO2, .object "java/lang/Object")] [(q 0, .inr (6, [.ref (q 1), .ref (q 2), .ref (q 3), .ref (q 4), .ref (q 5), .int dv, .int 0])), (q 1, .inr (0, [.int m4, .ref (q 6), .int 4])), (q 2, .inr (0, [.int 0, .ref tE, .int 0])), (q 3, .inr (0, [.int m3, .ref (q 7), .int 3])), (q 4, .inr (0, [.int 0, .ref tE, .int 0])), (q 5, .inr (1, [.int 0, .int (-1)])), (q 6, .inl (cO, 10, .inr (.inr (.inr (.inr (va_up (va_up (va_up (va_up (fun _ => none) (0 : Int32).toNatClampNeg (some (q 8))) (1 : Int32).toNatClampNeg (some (q 9))) (2 : Int32).toNatClampNeg (some (q 10))) (3 : Int32).toNatClampNeg (some (q 11)))))))), (q 7, .inl (cO2, 10, .inr (.inr (.inr (.inr (va_up (va_up (va_up (fun _ => none) (0 : Int32).toNatClampNeg (some (q 16))) (1 : Int32).toNatClampNeg (some (q 17))) (2 : Int32).toNatClampNeg (some (q 18)))))))), (q 8, .inr (2, [.int 0, .ref (q 12), .int 1])), (q 9, .inr (2, [.int 1, .ref (q 13), .int 0])), (q 10, .inr (2, [.int 2, .ref (q 14), .int 0])), (q 11, .inr (2, [.int 3, .ref (q 15), .int 0])), (q 12, .inr (1, [.int 0, .int (-1)])), (q 13, .inr (1, [.int 0, .int (-1)])), (q 14, .inr (1, [.int 0, .int (-1)])), (q 15, .inr (1, [.int 0, .int (-1)])), (q 16, .inr (5, [.int 2, .int 0, .int 0, .int 0])), (q 17, .inr (5, [.int 3, .int 0, .int 0, .int 0])), (q 18, .inr (5, [.int 4, .int 0, .int 0, .int 0]))] sz)) (va_Qi (fun (r : Int32) (_ : Unit) => r = 0) (fun _ _ => True) (gb_ro sz)) 0 0 (gb_ro sz) := by
  refine Met.ofW (cc := cX5_feedPeople) (maxL := 4) (ret := (some .int)) (by decide) rfl ?_
  intro p e s m args below meth c s₁ B hml hv
  obtain ⟨rfl, hsz, hZT, hZ, hP, hK, hD0⟩ := hv
  have hx := B.exec
  have hb := B.bytes
  have hr := B.returns
  have hts := atoms_spec (ws := wsX5_feedPeople) B.pre
  have hown : s.vm.findClass RX5 = some m.cls := findClass_of_methodNamed B.named
  have hlocks := B.notSynchronized
  subst hsz
  have hD := hD0
  generalize hAe : gb_ro s.heap.size = A at hZ ⊢
  have hA : ∀ q : Nat, s.heap.size ≤ q → A q := fun q h => by rw [← hAe]; exact h
  have hS : va_S A s.heap s.heap [] := va_S.rf
  have hP : va_P (dC, dI) vwCl [(q 0, .inr (6, [.ref (q 1), .ref (q 2), .ref (q 3), .ref (q 4), .ref (q 5), .int dv, .int 0])), (q 1, .inr (0, [.int m4, .ref (q 6), .int 4])), (q 2, .inr (0, [.int 0, .ref tE, .int 0])), (q 3, .inr (0, [.int m3, .ref (q 7), .int 3])), (q 4, .inr (0, [.int 0, .ref tE, .int 0])), (q 5, .inr (1, [.int 0, .int (-1)])), (q 6, .inl (cO, 10, .inr (.inr (.inr (.inr (va_up (va_up (va_up (va_up (fun _ => none) (0 : Int32).toNatClampNeg (some (q 8))) (1 : Int32).toNatClampNeg (some (q 9))) (2 : Int32).toNatClampNeg (some (q 10))) (3 : Int32).toNatClampNeg (some (q 11)))))))), (q 7, .inl (cO2, 10, .inr (.inr (.inr (.inr (va_up (va_up (va_up (fun _ => none) (0 : Int32).toNatClampNeg (some (q 16))) (1 : Int32).toNatClampNeg (some (q 17))) (2 : Int32).toNatClampNeg (some (q 18)))))))), (q 8, .inr (2, [.int 0, .ref (q 12), .int 1])), (q 9, .inr (2, [.int 1, .ref (q 13), .int 0])), (q 10, .inr (2, [.int 2, .ref (q 14), .int 0])), (q 11, .inr (2, [.int 3, .ref (q 15), .int 0])), (q 12, .inr (1, [.int 0, .int (-1)])), (q 13, .inr (1, [.int 0, .int (-1)])), (q 14, .inr (1, [.int 0, .int (-1)])), (q 15, .inr (1, [.int 0, .int (-1)])), (q 16, .inr (5, [.int 2, .int 0, .int 0, .int 0])), (q 17, .inr (5, [.int 3, .int 0, .int 0, .int 0])), (q 18, .inr (5, [.int 4, .int 0, .int 0, .int 0]))] s.heap := hP
  have hl := lv_entry ([.ref (q 0)]) (n := 4) (Nat.le_of_ble_eq_true rfl)
  rw [lg_entry_eq]
  generalize (lg_sl ([.ref (q 0)]) ++ List.replicate (4 - (lg_sl ([.ref (q 0)])).length) Slot.unset).toArray = ls at hl ⊢
  have hl : lv_has ls 4 [(0, .ref (q 0))] := hl
  refine lv_aload_n hx hb dX5_feedPeople_0 rfl (lv_at hl 0 rfl) ?_
  have hFc := gb_free hA hS
  refine va_calli (va_runV (As := []) (rest := []) ⟨hx, hb, hml, hown, hts⟩ (c_X5_foodInStation l hl9 kS tE dC dI s.heap.size q cO cO2 m4 m3 dv) (cwV 0 hts gX5_feedPeople_X5_foodInStation rfl rfl rfl (by decide +kernel) ⟨Nat.le_of_ble_eq_true rfl, Nat.le_of_ble_eq_true rfl⟩) (gb_preV hZT hZ hS hFc hP hD hK (va_recv hK hP (ci := 6) (q0 := 0) rfl rfl)) rfl rfl hl.1 rfl (lv_room (Nat.le_of_ble_eq_true rfl)) dX5_feedPeople_1 ⟨Nat.le_of_ble_eq_true rfl, Nat.le_of_ble_eq_true rfl⟩) hS (fun q _ h => hFc q h) hFc (fun r_1 u t H locs ht hvm hw hB hz1 hk1 hS => ?_)
  have hP := gb_keep hP hk1
  subst hw
  refine lv_istore_n (lv' := [(1, .int 0), (0, .ref (q 0))]) hx hb dX5_feedPeople_4 rfl hl (by decide) rfl (fun ls hl => ?_)
  refine lv_aload_n hx hb dX5_feedPeople_5 rfl (lv_at hl 1 rfl) ?_
  have hFc := gb_free hA hS
  refine va_calli (va_runV (As := []) (rest := []) ⟨hx, hb, hml, hown, hts⟩ (c_X5_needOfAll l hl9 kS tE dC dI H.size q cO cO2 m4 m3 dv) (cwV 0 hts gX5_feedPeople_X5_needOfAll rfl rfl rfl (by decide +kernel) ⟨Nat.le_of_ble_eq_true rfl, Nat.le_of_ble_eq_true rfl⟩) (gb_preV hZT hZ hS hFc hP hD hK (va_recv hK hP (ci := 6) (q0 := 0) rfl rfl)) rfl rfl hl.1 rfl (lv_room (Nat.le_of_ble_eq_true rfl)) dX5_feedPeople_6 ⟨Nat.le_of_ble_eq_true rfl, Nat.le_of_ble_eq_true rfl⟩) hS (fun q _ h => hFc q h) hFc (fun r_2 u t H locs ht hvm hw hB hz1 hk1 hS => ?_)
  have hP := gb_keep hP hk1
  subst hw
  refine lv_istore_n (lv' := [(2, .int 0), (1, .int 0), (0, .ref (q 0))]) hx hb dX5_feedPeople_9 rfl hl (by decide) rfl (fun ls hl => ?_)
  refine lv_iload_n hx hb dX5_feedPeople_10 rfl (lv_at hl 1 rfl) ?_
  refine lv_iload_n hx hb dX5_feedPeople_11 rfl (lv_at hl 0 rfl) ?_
  refine lv_icmp_ge (tgt := 21) hx hb dX5_feedPeople_12 (by decide) (fun _ => ?_) (fun c9 => absurd c9 (by decide))
  refine lv_iload_n hx hb dX5_feedPeople_21 rfl (lv_at hl 1 rfl) ?_
  refine lv_iload_n hx hb dX5_feedPeople_22 rfl (lv_at hl 0 rfl) ?_
  refine va_mmin hx hb (hml.trans hl.1.symm) hown (hts (.methodLink RX5 212 Lib.Math.min.name) (by decide +kernel)) (hts (.static Lib.Math.min.name) (by decide +kernel)) (hts (.initialized "java/lang/Math") (by decide +kernel)) (hts (.code Lib.Math.min.name Lib.Math.min.code 2 (some .int)) (by decide +kernel)) (Nat.le_of_ble_eq_true rfl) (Nat.le_of_ble_eq_true rfl) (Nat.le_of_ble_eq_true rfl) (Nat.le_of_ble_eq_true rfl) dX5_feedPeople_23 ?_
  refine lv_topi (fun y9 e9 => ?_)
  obtain rfl : y9 = 0 := e9.trans (by decide)
  refine lv_istore_n (lv' := [(3, .int 0), (2, .int 0), (1, .int 0), (0, .ref (q 0))]) hx hb dX5_feedPeople_26 rfl hl (by decide) rfl (fun ls hl => ?_)
  refine lv_aload_n hx hb dX5_feedPeople_27 rfl (lv_at hl 3 rfl) ?_
  refine lv_iload_n hx hb dX5_feedPeople_28 rfl (lv_at hl 0 rfl) ?_
  have hPc := hP.sub (ws' := []) [] rfl
  have hDc := hD.sub (ws' := []) [] (by decide) rfl
  have hKc := hK.sub (tys' := []) [] rfl
  have hFc := gb_free hA hS
  refine va_callv (va_runV (As := [.int 0]) (rest := []) ⟨hx, hb, hml, hown, hts⟩ (c_X5_eatFromLots l hl9 kS tE dC dI H.size q) (cwV 1 hts gX5_feedPeople_X5_eatFromLots rfl rfl rfl (by decide +kernel) ⟨Nat.le_of_ble_eq_true rfl, Nat.le_of_ble_eq_true rfl⟩) (gb_preV hZT hZ hS hFc hPc hDc hKc (va_recv hK hP (ci := 6) (q0 := 0) rfl rfl)) rfl rfl hl.1 rfl (lv_room (Nat.le_of_ble_eq_true rfl)) dX5_feedPeople_29 ⟨Nat.le_of_ble_eq_true rfl, Nat.le_of_ble_eq_true rfl⟩) hS (fun q _ h => hFc q h) hFc (fun u t H locs ht hvm hw hB hz1 hk1 hS => ?_)
  have hP := gb_keep hP hk1
  refine lv_iload_n hx hb dX5_feedPeople_32 rfl (lv_at hl 0 rfl) ?_
  refine W.widen (k := 0) (n := 0) (Nat.le_of_ble_eq_true rfl) (Nat.le_of_ble_eq_true rfl) ?_
  exact W.iret (v := 0) hx hb hr (fun t ht hW => ⟨⟨0, (), rfl, (lb_101), trivial⟩, hS.F ht⟩) hS.2.2 dX5_feedPeople_33
