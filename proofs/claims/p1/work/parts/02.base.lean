/-! helper rows of this claim: new cells alone, the premises that every method carries, calls -/
/-- cells that come from sz on -/
def gb_ro (sz : Nat) : Nat → Prop := fun q => sz ≤ q
abbrev gb_yx (C : String) : MethodName := ⟨C, "<init>", "(Ljava/lang/String;)V"⟩
/-- what the tables say -/
def gb_ZT (kS : Nat → Nat) (U : State) : Prop :=
  (va_Nw (.castable "java/lang/IndexOutOfBoundsException" "java/lang/IndexOutOfBoundsException") U ∧ va_Nw (.castable "java/lang/IllegalArgumentException" "java/lang/IllegalArgumentException") U) ∧
  (va_Nw (.declares (gb_yx "java/lang/RuntimeException")) U ∧ va_Nw (.declares (gb_yx "java/lang/Exception")) U ∧ va_Nw (.declares (gb_yx "java/lang/Throwable")) U) ∧
  (va_Nw (.castable RX1 "java/lang/Object") U ∧ va_Nw (.castable RX2 "java/lang/Object") U ∧ va_Nw (.castable RX3 "java/lang/Object") U ∧ va_Nw (.castable RX4 "java/lang/Object") U) ∧
  (va_Nw (.methodLinkNest RX5 27 yX0_init RX5) U ∧ va_Nw (.methodLinkNest RX1 9 yX0_init RX5) U) ∧
  va_AO "java/lang/Object" U ∧
  va_Nc "java/lang/IllegalArgumentException" "java/lang/IndexOutOfBoundsException" U ∧
  (vk_R RX5 196 "there is no such number" (kS 0) U ∧ vk_R RX5 199 "an argument is out of its range" (kS 1) U ∧ vk_R RX5 188 "crew is below 0" (kS 2) U)
theorem gb_ZT.warm {kS : Nat → Nat} {s U : State} (hW : s.WarmedH U.vm) (h : gb_ZT kS s) : gb_ZT kS U := by
  obtain ⟨⟨a1, a2⟩, ⟨b1, b2, b3⟩, ⟨c1, c2, c3, c4⟩, ⟨d1, d2⟩, e1, f1, g1, g2, g3⟩ := h
  exact ⟨⟨va_Nw.warmC hW a1, va_Nw.warmC hW a2⟩, ⟨va_Nw.warmD hW b1, va_Nw.warmD hW b2, va_Nw.warmD hW b3⟩, ⟨va_Nw.warmC hW c1, va_Nw.warmC hW c2, va_Nw.warmC hW c3, va_Nw.warmC hW c4⟩, ⟨va_Nw.warmM hW d1, va_Nw.warmM hW d2⟩, va_AO.moved hW.alike e1, va_Nc.moved hW.alike f1, vk_R.warm hW g1, vk_R.warm hW g2, vk_R.warm hW g3⟩
theorem gb_ZT.same {kS : Nat → Nat} {u U : State} (hv : u.vm = U.vm) (h : gb_ZT kS u) : gb_ZT kS U := by
  have hA : u.vm.Alike U.vm := hv ▸ Vm.Alike.refl u.vm
  obtain ⟨⟨a1, a2⟩, ⟨b1, b2, b3⟩, ⟨c1, c2, c3, c4⟩, ⟨d1, d2⟩, e1, f1, g1, g2, g3⟩ := h
  exact ⟨⟨va_Nw.same rfl hv a1, va_Nw.same rfl hv a2⟩, ⟨va_Nw.same rfl hv b1, va_Nw.same rfl hv b2, va_Nw.same rfl hv b3⟩, ⟨va_Nw.same rfl hv c1, va_Nw.same rfl hv c2, va_Nw.same rfl hv c3, va_Nw.same rfl hv c4⟩, ⟨va_Nw.same rfl hv d1, va_Nw.same rfl hv d2⟩, va_AO.moved hA e1, va_Nc.moved hA f1, vk_R.same hv.symm g1, vk_R.same hv.symm g2, vk_R.same hv.symm g3⟩
/-- what the statics hold -/
def gb_ZH (tE : Nat) (A : Nat → Prop) (U : State) (H : Heap) : Prop :=
  vx_Zq "java/lang/Throwable" "UNASSIGNED_STACK" "[Ljava/lang/StackTraceElement;" A U H ∧ vx_Zq "java/lang/Throwable" "SUPPRESSED_SENTINEL" "Ljava/util/List;" A U H ∧
  va_Z "java/util/ArrayList" "DEFAULTCAPACITY_EMPTY_ELEMENTDATA" "[Ljava/lang/Object;" (.ref tE) A U H ∧ va_T (.object "java/lang/Object") tE 0 (fun _ => .null) A U H
theorem gb_ZH.moved {tE : Nat} {A : Nat → Prop} {u U : State} {H : Heap} (hA : u.vm.Alike U.vm) (h : gb_ZH tE A u H) : gb_ZH tE A U H :=
  ⟨vx_Zq.moved hA h.1, vx_Zq.moved hA h.2.1, va_Z.moved hA h.2.2.1, va_T.moved hA h.2.2.2⟩
theorem gb_ZH.to {tE : Nat} {A A1 : Nat → Prop} {s U : State} {H : Heap} {locs : List Loc} (h : gb_ZH tE A s s.heap) (hS : va_S A s.heap H locs) (hF : ∀ q, A1 q → A q) (hA : s.vm.Alike U.vm) : gb_ZH tE A1 U H :=
  gb_ZH.moved hA ⟨(h.1.kept hS.2.1).narrow hF, (h.2.1.kept hS.2.1).narrow hF, (h.2.2.1.kept hS.2.1).narrow hF, (h.2.2.2.kept hS.2.1).narrow hF⟩
/-- a method's start: its world, and the premises -/
def gb_Pw (kS : Nat → Nat) (tE : Nat) (A : Nat → Prop) (D : va_G) (tys : List (ClassId × FieldType)) (ws : va_W) (sz : Nat) (U : State) : Prop :=
  U.heap.size = sz ∧ gb_ZT kS U ∧ gb_ZH tE A U U.heap ∧ va_P D vwCl ws U.heap ∧ va_K D vwCl tys U ∧ va_D (fun _ => True) ws
theorem gb_Pw.blind {av : List Value} {kS : Nat → Nat} {tE : Nat} {A : Nat → Prop} {D : va_G} {tys : List (ClassId × FieldType)} {ws : va_W} {sz : Nat} : FrameBlind (va_Pc av (gb_Pw kS tE A D tys ws sz)) := by
  intro a U g mk h
  obtain ⟨q0, q1, q2, q3, q4, q5, q6⟩ := h
  exact ⟨q0, q1, gb_ZT.same (u := U) (U := U.calling g mk a) rfl q2, gb_ZH.moved (u := U) (U := U.calling g mk a) (Vm.Alike.refl U.vm) q3, q4, va_K.moved (u := U) (U := U.calling g mk a) (Vm.Alike.refl U.vm) q5, q6⟩
theorem gb_preS {As : List Value} {kS : Nat → Nat} {tE : Nat} {A A1 A2 : Nat → Prop} {D : va_G} {tys : List (ClassId × FieldType)} {wc : va_W} {s : State} {H : Heap} {locs : List Loc} (hZT : gb_ZT kS s) (hZ : gb_ZH tE A s s.heap) (hS : va_S A s.heap H locs) (hF : ∀ q, A1 q → A q) (hP : va_P D vwCl wc H) (hD : va_D A2 wc) (hK : va_K D vwCl tys s) : PreS s H (va_Pc As (gb_Pw kS tE A1 D tys wc H.size)) As :=
  ⟨gb_Pw.blind, fun U hU hW => ⟨rfl, by rw [hU], hZT.warm hW, by rw [hU]; exact hZ.to hS hF hW.alike, by rw [hU]; exact hP, va_K.moved hW.alike hK, hD.weaken (fun _ _ _ _ => trivial)⟩⟩
theorem gb_preV {C : String} {b : Nat} {As : List Value} {kS : Nat → Nat} {tE : Nat} {A A1 A2 : Nat → Prop} {D : va_G} {tys : List (ClassId × FieldType)} {wc : va_W} {s : State} {H : Heap} {locs : List Loc} (hZT : gb_ZT kS s) (hZ : gb_ZH tE A s s.heap) (hS : va_S A s.heap H locs) (hF : ∀ q, A1 q → A q) (hP : va_P D vwCl wc H) (hD : va_D A2 wc) (hK : va_K D vwCl tys s) (hr : ∃ cell : Cell, H[b]? = some cell ∧ cell.vm.isStatics = false ∧ s.vm.findClass C = some cell.cls) : PreV s H C b (va_Pc (.ref b :: As) (gb_Pw kS tE A1 D tys wc H.size)) As :=
  ⟨gb_Pw.blind, hr, (gb_preS hZT hZ hS hF hP hD hK).2⟩
theorem gb_free {A : Nat → Prop} {H0 H : Heap} {locs : List Loc} (hA : ∀ q : Nat, H0.size ≤ q → A q) (hS : va_S A H0 H locs) : ∀ q, gb_ro H.size q → A q := fun q h => hA q (Nat.le_trans hS.1 h)
theorem gb_keep {D : va_G} {ws : va_W} {H H1 : Heap} (hP : va_P D vwCl ws H) (hk : ∀ q : Nat, q < H.size → ¬ gb_ro H.size q → H1[q]? = H[q]?) : va_P D vwCl ws H1 :=
  hP.kept (fun k x hx => hk x.1 (hP k x hx).lt (Nat.not_le.mpr (hP k x hx).lt))
theorem gb_F {A : Nat → Prop} {s t : State} {H : Heap} {locs : List Loc} (hS : va_S A s.heap H locs) (hz : H.size ≤ t.heap.size) (hk : ∀ q : Nat, q < H.size → t.heap[q]? = H[q]?) : va_F A s t :=
  ⟨Nat.le_trans hS.1 hz, fun q h1 h2 => (hk q (Nat.lt_of_lt_of_le h1 hS.1)).trans (hS.2.1 q h1 h2)⟩
/-! numbers -/
def gb_in (x : Int32) (a b : Int) : Prop := a ≤ x.toInt ∧ x.toInt ≤ b
def gb_okD (d : Int32) : Prop := 0 ≤ d.toInt ∧ d.toInt ≤ 3
def gb_okG (g : Int32) : Prop := 0 ≤ g.toInt ∧ g.toInt ≤ 4
def gb_okW (w : Int32) : Prop := 0 ≤ w.toInt ∧ w.toInt ≤ 2
def gb_days (f t : Int32) : Prop := 0 ≤ f.toInt ∧ f.toInt ≤ 1000 ∧ (t.toInt = -1 ∨ (f.toInt ≤ t.toInt ∧ t.toInt ≤ 1000))
theorem gb_lt (a b : Int32) : a < b ↔ a.toInt < b.toInt := Int32.lt_iff_toInt_lt
theorem gb_le (a b : Int32) : a ≤ b ↔ a.toInt ≤ b.toInt := Int32.le_iff_toInt_le
theorem gb_eq (a b : Int32) : a = b ↔ a.toInt = b.toInt := Int32.toInt_inj.symm
theorem gb_l0 : (0 : Int32).toInt = 0 := by decide
theorem gb_l1 : (1 : Int32).toInt = 1 := by decide
theorem gb_l2 : (2 : Int32).toInt = 2 := by decide
theorem gb_l3 : (3 : Int32).toInt = 3 := by decide
theorem gb_l4 : (4 : Int32).toInt = 4 := by decide
theorem gb_l5 : (5 : Int32).toInt = 5 := by decide
theorem gb_l10 : (10 : Int32).toInt = 10 := by decide
theorem gb_l19 : (19 : Int32).toInt = 19 := by decide
theorem gb_l20 : (20 : Int32).toInt = 20 := by decide
theorem gb_l40 : (40 : Int32).toInt = 40 := by decide
theorem gb_l60 : (60 : Int32).toInt = 60 := by decide
theorem gb_l1000 : (1000 : Int32).toInt = 1000 := by decide
theorem gb_l1500 : (1500 : Int32).toInt = 1500 := by decide
theorem gb_l65536 : (65536 : Int32).toInt = 65536 := by decide
theorem gb_lm1 : (-1 : Int32).toInt = -1 := by decide
theorem gb_nb {r : Int32} (h : r = 0 ∨ r = 1) : narrow .boolean (.int r) = .int r := by rcases h with rfl | rfl <;> rfl
theorem gb_fb {r : Int32} (h : r = 0 ∨ r = 1) : fits .boolean (.int r) = true := by rcases h with rfl | rfl <;> rfl
theorem gb_u0 (k : Nat) : upd (fun _ => (0 : Int32)) k 0 = fun _ => 0 := by funext j; by_cases h : j = k <;> simp [upd, h]
