section
-- ===== PART A: goes FIRST, ahead of the names: the tables' words, and 'selects' of the private methods out of them =====
/-- a private method of a class that the tables say can be made, by its rows of tables_1 -/
def lw_okq (q : MethodName × Nat) : Prop := (q.1.cls ≠ "java/lang/invoke/MethodHandle" ∧ q.1.cls ≠ "java/lang/invoke/VarHandle") ∧ Cond.instantiable q.1.cls q.2 ∈ tables_1 ∧ Cond.privateMethod q.1 ∈ tables_1 ∧ Cond.instanceMethod q.1 ∈ tables_1
theorem lw_p0 : lw_okq (⟨"java/util/ArrayList", "add", "(Ljava/lang/Object;[Ljava/lang/Object;I)V"⟩, 3) := ⟨⟨by decide +kernel, by decide +kernel⟩, List.mem_of_getElem? (i := 32) (by decide +kernel), List.mem_of_getElem? (i := 97) (by decide +kernel), List.mem_of_getElem? (i := 98) (by decide +kernel)⟩
theorem lw_p1 : lw_okq (⟨"java/util/ArrayList", "grow", "()[Ljava/lang/Object;"⟩, 3) := ⟨⟨by decide +kernel, by decide +kernel⟩, List.mem_of_getElem? (i := 32) (by decide +kernel), List.mem_of_getElem? (i := 101) (by decide +kernel), List.mem_of_getElem? (i := 102) (by decide +kernel)⟩
theorem lw_p2 : lw_okq (⟨"java/util/ArrayList", "grow", "(I)[Ljava/lang/Object;"⟩, 3) := ⟨⟨by decide +kernel, by decide +kernel⟩, List.mem_of_getElem? (i := 32) (by decide +kernel), List.mem_of_getElem? (i := 105) (by decide +kernel), List.mem_of_getElem? (i := 106) (by decide +kernel)⟩
theorem lw_p3 : lw_okq (⟨"GlacierBook", "needOfAll", "()I"⟩, 7) := ⟨⟨by decide +kernel, by decide +kernel⟩, List.mem_of_getElem? (i := 24) (by decide +kernel), List.mem_of_getElem? (i := 211) (by decide +kernel), List.mem_of_getElem? (i := 212) (by decide +kernel)⟩
theorem lw_p4 : lw_okq (⟨"GlacierBook", "foodInStation", "()I"⟩, 7) := ⟨⟨by decide +kernel, by decide +kernel⟩, List.mem_of_getElem? (i := 24) (by decide +kernel), List.mem_of_getElem? (i := 233) (by decide +kernel), List.mem_of_getElem? (i := 234) (by decide +kernel)⟩
theorem lw_p5 : lw_okq (⟨"GlacierBook", "requireDepot", "(I)V"⟩, 7) := ⟨⟨by decide +kernel, by decide +kernel⟩, List.mem_of_getElem? (i := 24) (by decide +kernel), List.mem_of_getElem? (i := 255) (by decide +kernel), List.mem_of_getElem? (i := 256) (by decide +kernel)⟩
theorem lw_p6 : lw_okq (⟨"java/lang/Throwable", "fillInStackTrace", "(I)Ljava/lang/Throwable;"⟩, 6) := ⟨⟨by decide +kernel, by decide +kernel⟩, List.mem_of_getElem? (i := 300) (by decide +kernel), List.mem_of_getElem? (i := 298) (by decide +kernel), List.mem_of_getElem? (i := 299) (by decide +kernel)⟩
theorem lw_p7 : lw_okq (⟨"GlacierBook", "requireGood", "(I)V"⟩, 7) := ⟨⟨by decide +kernel, by decide +kernel⟩, List.mem_of_getElem? (i := 24) (by decide +kernel), List.mem_of_getElem? (i := 382) (by decide +kernel), List.mem_of_getElem? (i := 383) (by decide +kernel)⟩
theorem lw_p8 : lw_okq (⟨"GlacierBook", "requireRoomForLot", "()V"⟩, 7) := ⟨⟨by decide +kernel, by decide +kernel⟩, List.mem_of_getElem? (i := 24) (by decide +kernel), List.mem_of_getElem? (i := 386) (by decide +kernel), List.mem_of_getElem? (i := 387) (by decide +kernel)⟩
theorem lw_p9 : lw_okq (⟨"GlacierBook", "addLot", "(LGlacierBook$Lot;II)I"⟩, 7) := ⟨⟨by decide +kernel, by decide +kernel⟩, List.mem_of_getElem? (i := 24) (by decide +kernel), List.mem_of_getElem? (i := 432) (by decide +kernel), List.mem_of_getElem? (i := 433) (by decide +kernel)⟩
theorem lw_p10 : lw_okq (⟨"GlacierBook", "changeAmount", "(LGlacierBook$Lot;II)V"⟩, 7) := ⟨⟨by decide +kernel, by decide +kernel⟩, List.mem_of_getElem? (i := 24) (by decide +kernel), List.mem_of_getElem? (i := 436) (by decide +kernel), List.mem_of_getElem? (i := 437) (by decide +kernel)⟩
theorem lw_p11 : lw_okq (⟨"GlacierBook", "requireLot", "(I)V"⟩, 7) := ⟨⟨by decide +kernel, by decide +kernel⟩, List.mem_of_getElem? (i := 24) (by decide +kernel), List.mem_of_getElem? (i := 471) (by decide +kernel), List.mem_of_getElem? (i := 472) (by decide +kernel)⟩
theorem lw_p12 : lw_okq (⟨"GlacierBook", "requireReached", "(LGlacierBook$Depot;)V"⟩, 7) := ⟨⟨by decide +kernel, by decide +kernel⟩, List.mem_of_getElem? (i := 24) (by decide +kernel), List.mem_of_getElem? (i := 476) (by decide +kernel), List.mem_of_getElem? (i := 477) (by decide +kernel)⟩
theorem lw_p13 : lw_okq (⟨"GlacierBook", "requireWork", "(I)V"⟩, 7) := ⟨⟨by decide +kernel, by decide +kernel⟩, List.mem_of_getElem? (i := 24) (by decide +kernel), List.mem_of_getElem? (i := 496) (by decide +kernel), List.mem_of_getElem? (i := 497) (by decide +kernel)⟩
theorem lw_p14 : lw_okq (⟨"GlacierBook", "throwAwayOld", "()V"⟩, 7) := ⟨⟨by decide +kernel, by decide +kernel⟩, List.mem_of_getElem? (i := 24) (by decide +kernel), List.mem_of_getElem? (i := 508) (by decide +kernel), List.mem_of_getElem? (i := 509) (by decide +kernel)⟩
theorem lw_p15 : lw_okq (⟨"GlacierBook", "freeze", "()V"⟩, 7) := ⟨⟨by decide +kernel, by decide +kernel⟩, List.mem_of_getElem? (i := 24) (by decide +kernel), List.mem_of_getElem? (i := 512) (by decide +kernel), List.mem_of_getElem? (i := 513) (by decide +kernel)⟩
def lw_privs_1 : List (MethodName × Nat) := [(⟨"java/util/ArrayList", "add", "(Ljava/lang/Object;[Ljava/lang/Object;I)V"⟩, 3), (⟨"java/util/ArrayList", "grow", "()[Ljava/lang/Object;"⟩, 3), (⟨"java/util/ArrayList", "grow", "(I)[Ljava/lang/Object;"⟩, 3), (⟨"GlacierBook", "needOfAll", "()I"⟩, 7), (⟨"GlacierBook", "foodInStation", "()I"⟩, 7), (⟨"GlacierBook", "requireDepot", "(I)V"⟩, 7), (⟨"java/lang/Throwable", "fillInStackTrace", "(I)Ljava/lang/Throwable;"⟩, 6), (⟨"GlacierBook", "requireGood", "(I)V"⟩, 7), (⟨"GlacierBook", "requireRoomForLot", "()V"⟩, 7), (⟨"GlacierBook", "addLot", "(LGlacierBook$Lot;II)I"⟩, 7), (⟨"GlacierBook", "changeAmount", "(LGlacierBook$Lot;II)V"⟩, 7), (⟨"GlacierBook", "requireLot", "(I)V"⟩, 7), (⟨"GlacierBook", "requireReached", "(LGlacierBook$Depot;)V"⟩, 7), (⟨"GlacierBook", "requireWork", "(I)V"⟩, 7), (⟨"GlacierBook", "throwAwayOld", "()V"⟩, 7), (⟨"GlacierBook", "freeze", "()V"⟩, 7)]
theorem lw_r1 : ∀ q ∈ lw_privs_1, lw_okq q := List.forall_mem_cons.mpr ⟨lw_p0, List.forall_mem_cons.mpr ⟨lw_p1, List.forall_mem_cons.mpr ⟨lw_p2, List.forall_mem_cons.mpr ⟨lw_p3, List.forall_mem_cons.mpr ⟨lw_p4, List.forall_mem_cons.mpr ⟨lw_p5, List.forall_mem_cons.mpr ⟨lw_p6, List.forall_mem_cons.mpr ⟨lw_p7, List.forall_mem_cons.mpr ⟨lw_p8, List.forall_mem_cons.mpr ⟨lw_p9, List.forall_mem_cons.mpr ⟨lw_p10, List.forall_mem_cons.mpr ⟨lw_p11, List.forall_mem_cons.mpr ⟨lw_p12, List.forall_mem_cons.mpr ⟨lw_p13, List.forall_mem_cons.mpr ⟨lw_p14, List.forall_mem_cons.mpr ⟨lw_p15, fun _ h => absurd h List.not_mem_nil⟩⟩⟩⟩⟩⟩⟩⟩⟩⟩⟩⟩⟩⟩⟩⟩
theorem lw_p16 : lw_okq (⟨"GlacierBook", "feedPeople", "()I"⟩, 7) := ⟨⟨by decide +kernel, by decide +kernel⟩, List.mem_of_getElem? (i := 24) (by decide +kernel), List.mem_of_getElem? (i := 516) (by decide +kernel), List.mem_of_getElem? (i := 517) (by decide +kernel)⟩
theorem lw_p17 : lw_okq (⟨"GlacierBook", "cutRations", "(II)V"⟩, 7) := ⟨⟨by decide +kernel, by decide +kernel⟩, List.mem_of_getElem? (i := 24) (by decide +kernel), List.mem_of_getElem? (i := 520) (by decide +kernel), List.mem_of_getElem? (i := 521) (by decide +kernel)⟩
theorem lw_p18 : lw_okq (⟨"GlacierBook", "eatFromLots", "(I)V"⟩, 7) := ⟨⟨by decide +kernel, by decide +kernel⟩, List.mem_of_getElem? (i := 24) (by decide +kernel), List.mem_of_getElem? (i := 525) (by decide +kernel), List.mem_of_getElem? (i := 526) (by decide +kernel)⟩
theorem lw_p19 : lw_okq (⟨"GlacierBook", "nextToEat", "()LGlacierBook$Lot;"⟩, 7) := ⟨⟨by decide +kernel, by decide +kernel⟩, List.mem_of_getElem? (i := 24) (by decide +kernel), List.mem_of_getElem? (i := 529) (by decide +kernel), List.mem_of_getElem? (i := 530) (by decide +kernel)⟩
theorem lw_p20 : lw_okq (⟨"GlacierBook", "requireEntry", "(I)V"⟩, 7) := ⟨⟨by decide +kernel, by decide +kernel⟩, List.mem_of_getElem? (i := 24) (by decide +kernel), List.mem_of_getElem? (i := 587) (by decide +kernel), List.mem_of_getElem? (i := 588) (by decide +kernel)⟩
theorem lw_p21 : lw_okq (⟨"GlacierBookModel", "isCut", "(I)Z"⟩, 22) := ⟨⟨by decide +kernel, by decide +kernel⟩, List.mem_of_getElem? (i := 606) (by decide +kernel), List.mem_of_getElem? (i := 698) (by decide +kernel), List.mem_of_getElem? (i := 699) (by decide +kernel)⟩
theorem lw_p22 : lw_okq (⟨"GlacierBookModel", "isFrost", "()Z"⟩, 22) := ⟨⟨by decide +kernel, by decide +kernel⟩, List.mem_of_getElem? (i := 606) (by decide +kernel), List.mem_of_getElem? (i := 710) (by decide +kernel), List.mem_of_getElem? (i := 711) (by decide +kernel)⟩
theorem lw_p23 : lw_okq (⟨"GlacierBookModel", "makes", "(III)I"⟩, 22) := ⟨⟨by decide +kernel, by decide +kernel⟩, List.mem_of_getElem? (i := 606) (by decide +kernel), List.mem_of_getElem? (i := 721) (by decide +kernel), List.mem_of_getElem? (i := 722) (by decide +kernel)⟩
theorem lw_p24 : lw_okq (⟨"GlacierBookModel", "changes", "(III)V"⟩, 22) := ⟨⟨by decide +kernel, by decide +kernel⟩, List.mem_of_getElem? (i := 606) (by decide +kernel), List.mem_of_getElem? (i := 725) (by decide +kernel), List.mem_of_getElem? (i := 726) (by decide +kernel)⟩
theorem lw_p25 : lw_okq (⟨"GlacierBookModel", "isLot", "(I)Z"⟩, 22) := ⟨⟨by decide +kernel, by decide +kernel⟩, List.mem_of_getElem? (i := 606) (by decide +kernel), List.mem_of_getElem? (i := 733) (by decide +kernel), List.mem_of_getElem? (i := 734) (by decide +kernel)⟩
theorem lw_p26 : lw_okq (⟨"GlacierBookModel", "passes", "()I"⟩, 22) := ⟨⟨by decide +kernel, by decide +kernel⟩, List.mem_of_getElem? (i := 606) (by decide +kernel), List.mem_of_getElem? (i := 749) (by decide +kernel), List.mem_of_getElem? (i := 750) (by decide +kernel)⟩
theorem lw_p27 : lw_okq (⟨"GlacierBookModel", "eats", "()I"⟩, 22) := ⟨⟨by decide +kernel, by decide +kernel⟩, List.mem_of_getElem? (i := 606) (by decide +kernel), List.mem_of_getElem? (i := 753) (by decide +kernel), List.mem_of_getElem? (i := 754) (by decide +kernel)⟩
theorem lw_p28 : lw_okq (⟨"GlacierBookModel", "allNeed", "()I"⟩, 22) := ⟨⟨by decide +kernel, by decide +kernel⟩, List.mem_of_getElem? (i := 606) (by decide +kernel), List.mem_of_getElem? (i := 757) (by decide +kernel), List.mem_of_getElem? (i := 758) (by decide +kernel)⟩
theorem lw_p29 : lw_okq (⟨"GlacierBookModel", "allFood", "()I"⟩, 22) := ⟨⟨by decide +kernel, by decide +kernel⟩, List.mem_of_getElem? (i := 606) (by decide +kernel), List.mem_of_getElem? (i := 761) (by decide +kernel), List.mem_of_getElem? (i := 762) (by decide +kernel)⟩
theorem lw_p30 : lw_okq (⟨"GlacierBookModel", "isFoodHere", "(I)Z"⟩, 22) := ⟨⟨by decide +kernel, by decide +kernel⟩, List.mem_of_getElem? (i := 606) (by decide +kernel), List.mem_of_getElem? (i := 765) (by decide +kernel), List.mem_of_getElem? (i := 766) (by decide +kernel)⟩
theorem lw_p31 : lw_okq (⟨"GlacierBookModel", "shares", "(II)V"⟩, 22) := ⟨⟨by decide +kernel, by decide +kernel⟩, List.mem_of_getElem? (i := 606) (by decide +kernel), List.mem_of_getElem? (i := 769) (by decide +kernel), List.mem_of_getElem? (i := 770) (by decide +kernel)⟩
def lw_privs_2 : List (MethodName × Nat) := [(⟨"GlacierBook", "feedPeople", "()I"⟩, 7), (⟨"GlacierBook", "cutRations", "(II)V"⟩, 7), (⟨"GlacierBook", "eatFromLots", "(I)V"⟩, 7), (⟨"GlacierBook", "nextToEat", "()LGlacierBook$Lot;"⟩, 7), (⟨"GlacierBook", "requireEntry", "(I)V"⟩, 7), (⟨"GlacierBookModel", "isCut", "(I)Z"⟩, 22), (⟨"GlacierBookModel", "isFrost", "()Z"⟩, 22), (⟨"GlacierBookModel", "makes", "(III)I"⟩, 22), (⟨"GlacierBookModel", "changes", "(III)V"⟩, 22), (⟨"GlacierBookModel", "isLot", "(I)Z"⟩, 22), (⟨"GlacierBookModel", "passes", "()I"⟩, 22), (⟨"GlacierBookModel", "eats", "()I"⟩, 22), (⟨"GlacierBookModel", "allNeed", "()I"⟩, 22), (⟨"GlacierBookModel", "allFood", "()I"⟩, 22), (⟨"GlacierBookModel", "isFoodHere", "(I)Z"⟩, 22), (⟨"GlacierBookModel", "shares", "(II)V"⟩, 22)]
theorem lw_r2 : ∀ q ∈ lw_privs_2, lw_okq q := List.forall_mem_cons.mpr ⟨lw_p16, List.forall_mem_cons.mpr ⟨lw_p17, List.forall_mem_cons.mpr ⟨lw_p18, List.forall_mem_cons.mpr ⟨lw_p19, List.forall_mem_cons.mpr ⟨lw_p20, List.forall_mem_cons.mpr ⟨lw_p21, List.forall_mem_cons.mpr ⟨lw_p22, List.forall_mem_cons.mpr ⟨lw_p23, List.forall_mem_cons.mpr ⟨lw_p24, List.forall_mem_cons.mpr ⟨lw_p25, List.forall_mem_cons.mpr ⟨lw_p26, List.forall_mem_cons.mpr ⟨lw_p27, List.forall_mem_cons.mpr ⟨lw_p28, List.forall_mem_cons.mpr ⟨lw_p29, List.forall_mem_cons.mpr ⟨lw_p30, List.forall_mem_cons.mpr ⟨lw_p31, fun _ h => absurd h List.not_mem_nil⟩⟩⟩⟩⟩⟩⟩⟩⟩⟩⟩⟩⟩⟩⟩⟩
theorem lw_p32 : lw_okq (⟨"GlacierBookModel", "nextLot", "()I"⟩, 22) := ⟨⟨by decide +kernel, by decide +kernel⟩, List.mem_of_getElem? (i := 606) (by decide +kernel), List.mem_of_getElem? (i := 773) (by decide +kernel), List.mem_of_getElem? (i := 774) (by decide +kernel)⟩
theorem lw_p33 : lw_okq (⟨"GlacierBookModel", "asks", "(I)Z"⟩, 22) := ⟨⟨by decide +kernel, by decide +kernel⟩, List.mem_of_getElem? (i := 606) (by decide +kernel), List.mem_of_getElem? (i := 797) (by decide +kernel), List.mem_of_getElem? (i := 798) (by decide +kernel)⟩
theorem lw_p34 : lw_okq (⟨"GlacierBookModel", "isEntry", "(I)Z"⟩, 22) := ⟨⟨by decide +kernel, by decide +kernel⟩, List.mem_of_getElem? (i := 606) (by decide +kernel), List.mem_of_getElem? (i := 825) (by decide +kernel), List.mem_of_getElem? (i := 826) (by decide +kernel)⟩
def lw_privs_3 : List (MethodName × Nat) := [(⟨"GlacierBookModel", "nextLot", "()I"⟩, 22), (⟨"GlacierBookModel", "asks", "(I)Z"⟩, 22), (⟨"GlacierBookModel", "isEntry", "(I)Z"⟩, 22)]
theorem lw_r3 : ∀ q ∈ lw_privs_3, lw_okq q := List.forall_mem_cons.mpr ⟨lw_p32, List.forall_mem_cons.mpr ⟨lw_p33, List.forall_mem_cons.mpr ⟨lw_p34, fun _ h => absurd h List.not_mem_nil⟩⟩⟩
def lw_privs : List (MethodName × Nat) := lw_privs_1 ++ (lw_privs_2 ++ (lw_privs_3))
def lw_tbl : List Cond := k2_sels lw_privs ++ tables_1
theorem lw_privs_ok : ∀ q ∈ lw_privs, lw_okq q := by
  show ∀ q ∈ lw_privs_1 ++ (lw_privs_2 ++ (lw_privs_3)), lw_okq q
  exact List.forall_mem_append.mpr ⟨lw_r1, List.forall_mem_append.mpr ⟨lw_r2, lw_r3⟩⟩
/-! ===== BEGIN words of one list among another's, by their places ===== -/
theorem goodIn_r {big : List Cond} (ws : List Cond) (ps : List Nat) (hp : ws = ps.filterMap (fun i => big[i]?)) (h : ws.all goodWord = true) : GoodIn big ws := by
  intro w hw
  have h1 := List.all_eq_true.mp h w hw
  rw [hp] at hw
  obtain ⟨i, -, hi⟩ := List.mem_filterMap.mp hw
  have hm : w ∈ big := by first | exact List.mem_of_getElem? hi | exact List.getElem?_mem hi
  exact ⟨hm, good_of_word h1⟩
theorem goodIn_app {big a b : List Cond} (ha : GoodIn big a) (hb : GoodIn big b) : GoodIn big (a ++ b) := fun w h => (List.mem_append.mp h).elim (ha w) (hb w)
theorem goodIn_ca {big a b : List Cond} {c : Cond} (ha : GoodIn big (c :: a)) (hb : GoodIn big b) : GoodIn big (c :: (a ++ b)) := fun w h => (List.mem_cons.mp h).elim (fun e => ha w (List.mem_cons.mpr (Or.inl e))) (fun h => (List.mem_append.mp h).elim (fun h => ha w (List.mem_cons.mpr (Or.inr h))) (hb w))
theorem goodIn_sub {big ws : List Cond} (hm : ∀ w ∈ ws, w ∈ big) (h : ws.all goodWord = true) : GoodIn big ws := fun w hw => ⟨hm w hw, good_of_word (List.all_eq_true.mp h w hw)⟩
/-! ===== END ===== -/

/-! ===== BEGIN exceptions that leave a method, and their catching by the caller (launches without stack traces) ===== -/
section VXA
/-! The laws vx_back, vx_callV, vx_callS, vx_callSW, vx_throw0, vx_throwS follow proofs of the library, with one case more: JvmDerived/Free/Laws.lean (Back.of_free), Shelf42/LK1.lean (callV, callS), Shelf/KitTraced.lean (throwNew0V, throwNewS). -/
/-- where a method has thrown q: the class by its name, the cell, what was written, the world -/
def vx_T (XC : String → State → State → Prop) (st : State) (q : Addr) (t : State) (mc ms : Nat) (free : Addr → Prop) : Prop :=
  ∃ (E : String) (ce : Cell) (L : List Loc), XC E st t ∧ t.heap[q]? = some ce ∧ ce.vm = .none ∧ st.vm.findClass E = some ce.cls ∧ st.WarmedH t.vm ∧ st.sameButNew ({ t with vm := st.vm } : State) L mc ms ∧ ∀ z ∈ L, free z.base
def vx_Q (Qc : Array Value → State → Outcome → State → Prop) (XC : String → State → State → Prop) (mc ms : Nat) (free : Addr → Prop) : Array Value → State → Outcome → State → Prop := fun a st o t =>
  (Qc a st o t ∧ ∃ L, FrameEnd st o t L mc ms ∧ ∀ q ∈ L, free q.base) ∨ ∃ q, o = .threw q ∧ vx_T XC st q t mc ms free
/-- a callee that returns or throws -/
def vx_Met (l : Launch) (y : MethodName) (ws : List Cond) (rm : Room) (Pc : Array Value → State → Prop) (Qc : Array Value → State → Outcome → State → Prop) (XC : String → State → State → Prop) (mc ms : Nat) (free : Addr → Prop) : Prop :=
  MetFree l y (headSpec ws rm) Pc (fun _ _ _ _ _ => True) (vx_Q Qc XC mc ms free)
def vx_Post (XC : String → State → State → Prop) (mc ms : Nat) (free : Addr → Prop) : Pt → Array Value → Addr → Pt → Prop := fun A a q B =>
  ∃ (g : JFrame) (mk : MethodId) (t : State) (L : List Loc) (E : String) (ce : Cell), B.U.heap = t.heap ∧ B.U.vm = t.vm ∧ XC E (A.U.calling g mk a) t ∧ t.heap[q]? = some ce ∧ ce.vm = .none ∧ A.U.vm.findClass E = some ce.cls ∧ B.locs = A.locs ++ L ∧ (∀ z ∈ L, free z.base) ∧ B.cells = A.cells + mc ∧ B.slots = A.slots + ms
def vx_Back (l : Launch) (R : Room) (p : Program) (e : Env) (below : List Frame) (s : State) (sargs : Array Value) (y : MethodName) (len W9 : Nat)
    (Pre : Pt → Array Value → Prop) (Post : Pt → Array Value → Option Value → Pt → Prop) (PostX : Pt → Array Value → Addr → Pt → Prop) : Prop :=
  ∀ (m : MethodId) (meth : Method) (c : Code) (A : Pt) (g : JFrame) (ig : Instr) (mk : MethodId) (a : Array Value),
    Stand p l e R s m sargs below meth c A.U A.locs A.cells A.slots → g.method = m → g.locals.size = c.maxLocals → decode c.code g.pc = .ok (ig, len) →
    2 * g.monitorRoom + (g.stack.map fun v => v.category).sum ≤ W9 → A.U.methodNamed? y = some mk → Pre A a →
    (∃ (v : Option Value) (B : Pt), Stand p l e R s m sargs below meth c B.U B.locs B.cells B.slots ∧ Post A a v B ∧
      Steps p.tables e below (doInvoke e (A.U.setTop g) [] mk a).1 (B.U.setTop { g with pc := g.pc + len, stack := v.toList ++ g.stack })) ∨
    (∃ (q : Addr) (B : Pt), Stand p l e R s m sargs below meth c B.U B.locs B.cells B.slots ∧ PostX A a q B ∧
      Steps p.tables e below (doInvoke e (A.U.setTop g) [] mk a).1 ((B.U.setTop g).pushFrame (.throwing q)))
section Payer
variable {l : Launch} {R : Room} {p : Program} {e : Env} {below : List Frame} {s : State} {sargs : Array Value} {y : MethodName} {len W9 : Nat}
theorem vx_back {ws : List Cond} {rm : Room} {Pc : Array Value → State → Prop} {Qc : Array Value → State → Outcome → State → Prop} {XC : String → State → State → Prop} {mc ms : Nat} {free : Addr → Prop} {bytes : ByteArray} {maxL : Nat} {ret : Option FieldType}
    (hM : vx_Met l y ws rm Pc Qc XC mc ms free) (hblind : FrameBlind Pc) (hrc : rm.cells = mc) (hrs : rm.slots = ms)
    (hframes : rm.frames + 1 ≤ R.frames) (hlocals : W9 + (maxL + 11) + rm.locals ≤ R.locals)
    (hws : ∀ w ∈ ws, ∀ a' U, s.WarmedH U.vm → w.before a' U = true) (hcode : Cond.code y bytes maxL ret ∈ ws) (hinit : ∀ a' U, s.WarmedH U.vm → (Cond.initialized y.cls).before a' U = true) :
    vx_Back l R p e below s sargs y len W9 (PreOf R mc ms Pc) (PostOf Qc mc ms free) (vx_Post XC mc ms free) := by
  intro m meth c A g ig mk a X hg hsize hdg hW hn hp
  have h1 : (headSpec ws rm).pre.before a A.U = true := atoms_intro fun w hw => hws w hw _ _ X.warmed
  have h2 : (Cond.code y bytes maxL ret).before a A.U = true := hws _ hcode _ _ X.warmed
  have h3 : (Cond.initialized y.cls).before a A.U = true := hinit _ _ X.warmed
  have h4 : A.cells + (headSpec ws rm).room.cells ≤ R.cells := by rw [show (headSpec ws rm).room.cells = mc from hrc]; exact hp.1
  have h5 : A.slots + (headSpec ws rm).room.slots ≤ R.slots := by rw [show (headSpec ws rm).room.slots = ms from hrs]; exact hp.2.1
  have hPc : Pc a (A.U.calling g mk a) := hblind _ _ _ _ hp.2.2
  obtain ⟨U, Ls, c0, s0⟩ := A
  dsimp only [Pt.U, Pt.locs, Pt.cells, Pt.slots] at h1 h2 h3 h4 h5 X hn hPc ⊢
  obtain ⟨methY, cY, hmY, hcY, -, hlY, -, -, -, -⟩ := Cond.code_spec hn h2
  obtain ⟨kY, hkY, -⟩ := className_of_methodNamed hn
  have hinitY : kY.init = .initialized := Cond.initialized_spec (findClass_of_methodNamed hn) hkY h3
  have h : At U g.method c below := by rw [hg]; exact X.here
  have hlocals9 : W9 + (maxL + 11) + (headSpec ws rm).room.locals ≤ R.locals := hlocals
  have happ : (headSpec ws rm).appliesLoose y e.platform (U.calling g mk a) = true :=
    Spec.appliesLoose_calling (g := g) h hdg hn hkY hinitY
      (X.room_calling (g := g) (R' := (headSpec ws rm).room) hsize hmY hcY hframes (by rw [hlY]; omega) h4 h5) h1
  obtain ⟨mid, hmid⟩ := h.above
  have hfr : (U.setTop g).frames = (.java g :: mid) ++ below := by rw [State.frames_setTop' g h.top, hmid]; rfl
  obtain ⟨o, s₂, hsteps, -, hend, hq⟩ := Steps.callFree hM p X.admits X.cas X.clock (acts := []) hfr happ hPc trivial
  have hq' : vx_Q Qc XC mc ms free a (U.calling g mk a) o s₂ := hq
  rw [State.frames_setTop' g h.top] at hend
  obtain ⟨g₀, hg0⟩ := Option.isSome_iff_exists.mp h.top
  obtain ⟨r, hr⟩ := State.topJava?_eq_some.mp hg0
  have hr' : (({ U with heap := s₂.heap, slotsUsed := s₂.slotsUsed } : State).setVm s₂.vm).frames = .java g₀ :: r := hr
  rcases hq' with ⟨hqc, L, hfe, hL⟩ | ⟨q, rfl, E, ce, L, hx, hce, hcv, hcl, hW₂, hsm, hL⟩
  · obtain ⟨⟨v, rfl⟩, hW₂, e2, q2, q3, q4, q5, q6⟩ := id hfe
    have e3 : s₂ = ({ (U.calling g mk a).setFrames s₂.frames with heap := s₂.heap, slotsUsed := s₂.slotsUsed } : State).setVm s₂.vm := by
      have : s₂ = ({ s₂ with vm := (U.calling g mk a).vm } : State).setVm s₂.vm := rfl
      rw [e2] at this
      exact this
    obtain ⟨c₂, i₂, len₂, hc₂, hd₂, hf₂⟩ := hend
    have hW' : U.WarmedH s₂.vm := hW₂
    have hcc : c₂ = c := by
      have h1 : s₂.code? g.method = U.code? g.method := by
        rw [State.code?_eq, State.code?_eq, hW'.alike.method?]
      exact Option.some.inj (hc₂.symm.trans (h1.trans h.code))
    subst hcc
    have hlen : len₂ = len := by rw [hdg] at hd₂; cases hd₂; rfl
    subst hlen
    have hs₂ : s₂ = (({ U with heap := s₂.heap, slotsUsed := s₂.slotsUsed } : State).setVm s₂.vm).setTop { g with pc := g.pc + len₂, stack := v.toList ++ g.stack } := by
      refine e3.trans ?_
      rw [hf₂, State.calling_eq h.top, State.setFrames_setFrames, State.setTop_of_frames _ hr', hr]
      rfl
    have hsame : U.sameButNew ({ U with heap := s₂.heap, slotsUsed := s₂.slotsUsed } : State) L mc ms := by
      refine ⟨?_, q2, q3, q4, q5, q6⟩
      obtain ⟨t, ht, -⟩ := State.frames_cons hr
      show ({ U with heap := s₂.heap, slotsUsed := s₂.slotsUsed } : State) = { U.setFrames U.frames with heap := s₂.heap, slotsUsed := s₂.slotsUsed }
      rw [State.setFrames_self ht]
    subst hg
    refine Or.inl ⟨v, ⟨(({ U with heap := s₂.heap, slotsUsed := s₂.slotsUsed } : State).setVm s₂.vm), Ls ++ L, c0 + mc, s0 + ms⟩,
      ⟨X.admits, X.cas, X.clock, X.frames, X.room, X.hears, X.method, X.code, (X.here.setHeapUsed s₂.heap s₂.slotsUsed).setVm hW'.alike, X.tail, State.WarmedH.trans X.warmed hW', X.limits, X.bytes, X.same.trans (hsame.setVm s.vm)⟩,
      ⟨g, mk, s₂, L, rfl, rfl, hqc, rfl, hL, rfl, rfl⟩, ?_⟩
    show Steps p.tables e below _ ((({ U with heap := s₂.heap, slotsUsed := s₂.slotsUsed } : State).setVm s₂.vm).setTop { g with pc := g.pc + len₂, stack := v.toList ++ g.stack })
    rw [← hs₂]
    exact hsteps
  · obtain ⟨e2, q2, q3, q4, q5, q6⟩ := id hsm
    have e3 : s₂ = ({ (U.calling g mk a).setFrames s₂.frames with heap := s₂.heap, slotsUsed := s₂.slotsUsed } : State).setVm s₂.vm := by
      have : s₂ = ({ s₂ with vm := (U.calling g mk a).vm } : State).setVm s₂.vm := rfl
      rw [e2] at this
      exact this
    have hf₂ : s₂.frames = .throwing q :: .java g :: U.frames.tail := hend
    have hW' : U.WarmedH s₂.vm := hW₂
    have hs₂ : s₂ = ((({ U with heap := s₂.heap, slotsUsed := s₂.slotsUsed } : State).setVm s₂.vm).setTop g).pushFrame (.throwing q) := by
      refine e3.trans ?_
      rw [hf₂, State.calling_eq h.top, State.setFrames_setFrames, State.pushFrame, State.frames_setTop _ hr', State.setTop_of_frames _ hr', State.setFrames_setFrames, hr]
      rfl
    have hsame : U.sameButNew ({ U with heap := s₂.heap, slotsUsed := s₂.slotsUsed } : State) L mc ms := by
      refine ⟨?_, q2, q3, q4, q5, q6⟩
      obtain ⟨t, ht, -⟩ := State.frames_cons hr
      show ({ U with heap := s₂.heap, slotsUsed := s₂.slotsUsed } : State) = { U.setFrames U.frames with heap := s₂.heap, slotsUsed := s₂.slotsUsed }
      rw [State.setFrames_self ht]
    subst hg
    refine Or.inr ⟨q, ⟨(({ U with heap := s₂.heap, slotsUsed := s₂.slotsUsed } : State).setVm s₂.vm), Ls ++ L, c0 + mc, s0 + ms⟩,
      ⟨X.admits, X.cas, X.clock, X.frames, X.room, X.hears, X.method, X.code, (X.here.setHeapUsed s₂.heap s₂.slotsUsed).setVm hW'.alike, X.tail, State.WarmedH.trans X.warmed hW', X.limits, X.bytes, X.same.trans (hsame.setVm s.vm)⟩,
      ⟨g, mk, s₂, L, E, ce, rfl, rfl, hx, hce, hcv, hcl, rfl, hL, rfl, rfl⟩, ?_⟩
    show Steps p.tables e below _ (((({ U with heap := s₂.heap, slotsUsed := s₂.slotsUsed } : State).setVm s₂.vm).setTop g).pushFrame (.throwing q))
    rw [← hs₂]
    exact hsteps
end Payer
section Calls
variable {p : Program} {l : Launch} {e : Env} {R : Room} {s : State} {m : MethodId} {args : Array Value} {below : List Frame} {meth : Method} {c : Code} {T : State} {locs : List Loc} {cells slots : Nat}
theorem vx_callV (X : Stand p l e R s m args below meth c T locs cells slots) (hexec : p.tables.exec = Jvm.exec) {own C : String} {index : Nat} {y : MethodName} {bytes : ByteArray} {maxL : Nat} {ret : Option FieldType}
    (hown : s.vm.findClass own = some m.cls) (hlink : (Cond.methodLink own index y).before args s = true) (hinst : (Cond.instanceMethod y).before args s = true) (hsel : (Cond.selects C y y).before args s = true)
    (hcode : (Cond.code y bytes maxL ret).before args s = true) (hy : y.cls ≠ "java/lang/invoke/MethodHandle" ∧ y.cls ≠ "java/lang/invoke/VarHandle")
    {W9 : Nat} {Pre : Pt → Array Value → Prop} {Post : Pt → Array Value → Option Value → Pt → Prop} {PostX : Pt → Array Value → Addr → Pt → Prop} (hK : vx_Back l R p e below s args y 3 W9 Pre Post PostX)
    {b : Addr} {cellB : Cell} (hcell : T.heap[b]? = some cellB) (hobj : cellB.vm.isStatics = false) (hcls : s.vm.findClass C = some cellB.cls)
    {g : JFrame} (hg : g.method = m) (hsize : g.locals.size = c.maxLocals) {argsL rest : List Value} (hlen : ∀ sig, parseMethodDescriptor y.desc = some sig → argsL.length = sig.parameters.length)
    (hstack : g.stack = argsL.reverse ++ .ref b :: rest) (hW : 2 * g.monitorRoom + (rest.map fun v => v.category).sum ≤ W9) (hdg : decode c.code g.pc = .ok (.invokevirtual index, 3))
    (hpre : ∀ vm₁, s.WarmedH vm₁ → Pre ⟨T.setVm vm₁, locs, cells, slots⟩ (Value.ref b :: argsL).toArray) :
    (∃ (v : Option Value) (vm₁ : Vm) (B : Pt), s.WarmedH vm₁ ∧ Stand p l e R s m args below meth c B.U B.locs B.cells B.slots ∧ Post ⟨T.setVm vm₁, locs, cells, slots⟩ (Value.ref b :: argsL).toArray v B ∧
      ∀ target, Steps p.tables e below (B.U.setTop { g with pc := g.pc + 3, stack := v.toList ++ rest }) target → Steps p.tables e below (T.setTop g) target) ∨
    (∃ (q : Addr) (vm₁ : Vm) (B : Pt), s.WarmedH vm₁ ∧ Stand p l e R s m args below meth c B.U B.locs B.cells B.slots ∧ PostX ⟨T.setVm vm₁, locs, cells, slots⟩ (Value.ref b :: argsL).toArray q B ∧
      Steps p.tables e below (T.setTop g) ((B.U.setTop { g with stack := rest }).pushFrame (.throwing q))) := by
  obtain ⟨mk, methM, hnamed, hmethM, hstM, habM⟩ := Cond.instanceMethod_spec hinst
  obtain ⟨methM', cM, hmethM', -, -, -, -, -, -, hsigM⟩ := Cond.code_spec hnamed hcode
  cases hmethM.symm.trans hmethM'
  obtain ⟨c2, r2, m2, q1, q2, q3, q4, kP, hkP, hkPi⟩ := Cond.selects_spec hsel
  cases hcls.symm.trans q1
  cases (State.methodFound?_of_named hnamed hy).symm.trans q2
  cases hnamed.symm.trans q3
  have hselP : selectMethod e.platform s.vm cellB.cls mk = .method mk := by rw [Launch.admits_selectMethod X.admits]; exact q4
  obtain ⟨vm₁, X₁, hstep₁⟩ := X.invokevirtual hexec hown hlink hnamed hmethM hstM hkP hkPi hy (a := b) (cell := cellB) hcell
    (fun z h => by rw [h] at hobj; cases hobj) hselP hmethM habM hkP hkPi (g := g) hg (argsL := argsL) (rest := rest) (hlen _ hsigM) hstack hdg
  rcases hK m meth c ⟨T.setVm vm₁, locs, cells, slots⟩ { g with stack := rest } (.invokevirtual index) mk (Value.ref b :: argsL).toArray X₁ hg hsize hdg hW (X₁.named hnamed) (hpre vm₁ X₁.warmed) with ⟨v, B, X', hpost, hsteps⟩ | ⟨q, B, X', hpost, hsteps⟩
  · exact Or.inl ⟨v, vm₁, B, X₁.warmed, X', hpost, fun target h => hstep₁ _ fun acts => by rw [doInvoke_state]; exact hsteps.trans h⟩
  · exact Or.inr ⟨q, vm₁, B, X₁.warmed, X', hpost, hstep₁ _ fun acts => by rw [doInvoke_state]; exact hsteps⟩
theorem vx_callS (X : Stand p l e R s m args below meth c T locs cells slots) (hexec : p.tables.exec = Jvm.exec) {own : String} {index : Nat} {y : MethodName} {bytes : ByteArray} {maxL : Nat} {ret : Option FieldType}
    (hown : s.vm.findClass own = some m.cls) (hlink : (Cond.methodLink own index y).before args s = true) (hstat : (Cond.static y).before args s = true) (hinit : (Cond.initialized y.cls).before args s = true)
    (hcode : (Cond.code y bytes maxL ret).before args s = true) (hy : y.cls ≠ "java/lang/invoke/MethodHandle" ∧ y.cls ≠ "java/lang/invoke/VarHandle")
    {W9 : Nat} {Pre : Pt → Array Value → Prop} {Post : Pt → Array Value → Option Value → Pt → Prop} {PostX : Pt → Array Value → Addr → Pt → Prop} (hK : vx_Back l R p e below s args y 3 W9 Pre Post PostX)
    {g : JFrame} (hg : g.method = m) (hsize : g.locals.size = c.maxLocals) {argsL rest : List Value} (hlen : ∀ sig, parseMethodDescriptor y.desc = some sig → argsL.length = sig.parameters.length)
    (hstack : g.stack = argsL.reverse ++ rest) (hW : 2 * g.monitorRoom + (rest.map fun v => v.category).sum ≤ W9) (hdg : decode c.code g.pc = .ok (.invokestatic index, 3))
    (hpre : ∀ vm₁, s.WarmedH vm₁ → Pre ⟨T.setVm vm₁, locs, cells, slots⟩ argsL.toArray) :
    (∃ (v : Option Value) (vm₁ : Vm) (B : Pt), s.WarmedH vm₁ ∧ Stand p l e R s m args below meth c B.U B.locs B.cells B.slots ∧ Post ⟨T.setVm vm₁, locs, cells, slots⟩ argsL.toArray v B ∧
      ∀ target, Steps p.tables e below (B.U.setTop { g with pc := g.pc + 3, stack := v.toList ++ rest }) target → Steps p.tables e below (T.setTop g) target) ∨
    (∃ (q : Addr) (vm₁ : Vm) (B : Pt), s.WarmedH vm₁ ∧ Stand p l e R s m args below meth c B.U B.locs B.cells B.slots ∧ PostX ⟨T.setVm vm₁, locs, cells, slots⟩ argsL.toArray q B ∧
      Steps p.tables e below (T.setTop g) ((B.U.setTop { g with stack := rest }).pushFrame (.throwing q))) := by
  obtain ⟨mk, hnamed⟩ := Cond.code_named hcode
  obtain ⟨methM, cM, hmethM, -, -, -, -, -, -, hsigM⟩ := Cond.code_spec hnamed hcode
  have hstatic : methM.isStatic = true := Cond.static_spec hnamed hmethM hstat
  obtain ⟨kP, hkP, -⟩ := className_of_methodNamed hnamed
  have hinitP : kP.init = .initialized := Cond.initialized_spec (findClass_of_methodNamed hnamed) hkP hinit
  obtain ⟨vm₁, X₁, hstep₁⟩ := X.invokestatic hexec hown hlink hnamed hmethM hstatic hkP hinitP hy (g := g) hg (argsL := argsL) (rest := rest) (hlen _ hsigM) hstack hdg
  rcases hK m meth c ⟨T.setVm vm₁, locs, cells, slots⟩ { g with stack := rest } (.invokestatic index) mk argsL.toArray X₁ hg hsize hdg hW (X₁.named hnamed) (hpre vm₁ X₁.warmed) with ⟨v, B, X', hpost, hsteps⟩ | ⟨q, B, X', hpost, hsteps⟩
  · exact Or.inl ⟨v, vm₁, B, X₁.warmed, X', hpost, fun target h => hstep₁ _ fun acts => by rw [doInvoke_state]; exact hsteps.trans h⟩
  · exact Or.inr ⟨q, vm₁, B, X₁.warmed, X', hpost, hstep₁ _ fun acts => by rw [doInvoke_state]; exact hsteps⟩
end Calls
theorem vx_cls {s : State} {T : State} {vm₁ : Vm} {E : String} {k : ClassId} (hW : s.WarmedH vm₁) (h : (T.setVm vm₁).vm.findClass E = some k) : s.vm.findClass E = some k := by
  have h1 : vm₁.findClass E = some k := h
  rw [hW.alike.findClass] at h1
  exact h1
/-- the method's frame g, with q thrown over it -/
def vx_W (p : Program) (l : Launch) (e : Env) (R : Room) (s : State) (m : MethodId) (args : Array Value) (below : List Frame) (meth : Method) (c : Code) (H : Heap) (locs : List Loc) (cells slots : Nat) (Q : State → Prop) (g : JFrame) (q : Addr) : Prop :=
  ∀ T : State, T.heap = H → Stand p l e R s m args below meth c T locs cells slots → ∃ t, Steps p.tables e below ((T.setTop g).pushFrame (.throwing q)) t ∧ Q t
def vx_Run (p : Program) (l : Launch) (e : Env) (R : Room) (s : State) (m : MethodId) (args : Array Value) (below : List Frame) (meth : Method) (c : Code) (H : Heap) (locs : List Loc) (cells slots mc ms : Nat) (g : JFrame) (rest : List Value) (Qa : State → Outcome → State → Prop) (XC : String → State → State → Prop) (free : Addr → Prop) : Prop :=
  ∀ T : State, T.heap = H → Stand p l e R s m args below meth c T locs cells slots →
    (∃ (v : Option Value) (st₀ t T' : State) (L : List Loc), st₀.heap = H ∧ Stand p l e R s m args below meth c T' (locs ++ L) (cells + mc) (slots + ms) ∧ (∀ q ∈ L, free q.base) ∧ T'.heap = t.heap ∧ T'.vm = t.vm ∧ Qa st₀ (.returned v) t ∧
      Goes p e below T g T' { g with pc := g.pc + 3, stack := v.toList ++ rest }) ∨
    (∃ (q : Addr) (st₀ t T' : State) (L : List Loc) (E : String) (ce : Cell), st₀.heap = H ∧ Stand p l e R s m args below meth c T' (locs ++ L) (cells + mc) (slots + ms) ∧ (∀ z ∈ L, free z.base) ∧ T'.heap = t.heap ∧ T'.vm = t.vm ∧ XC E st₀ t ∧ t.heap[q]? = some ce ∧ ce.vm = .none ∧ s.vm.findClass E = some ce.cls ∧
      Steps p.tables e below (T.setTop g) ((T'.setTop { g with stack := rest }).pushFrame (.throwing q)))
def vx_X {S : Type} (px : S → Prop) (B : String → S → State → Prop) (A : Nat → Prop) : String → State → State → Prop := fun E st t => ∃ u : S, px u ∧ B E u t ∧ va_F A st t
section Runs
variable {p : Program} {l : Launch} {e : Env} {R : Room} {s : State} {m : MethodId} {args : Array Value} {below : List Frame} {meth : Method} {c : Code} {H : Heap} {locs : List Loc} {cells slots : Nat}
variable {y : MethodName} {bytes cc : ByteArray} {maxL nL mc ms n index : Nat} {ret : Option FieldType} {ws : List Cond} {rm : Room} {Pc : Array Value → State → Prop} {Qc : Array Value → State → Outcome → State → Prop} {XC : String → State → State → Prop} {free : Addr → Prop} {Ts : List Cond} {own C : String} {b : Addr} {As rest : List Value} {g : JFrame}
theorem vx_callBack (cb : CallB R s args own index y bytes maxL ret ws rm mc ms n) (hM : vx_Met l y ws rm Pc Qc XC mc ms free) (hbl : FrameBlind Pc) : vx_Back l R p e below s args y 3 8 (PreOf R mc ms Pc) (PostOf Qc mc ms free) (vx_Post XC mc ms free) := by
  obtain ⟨hrc, hrs, hfr, hlo, hws, hcw, -, hini, -⟩ := cb
  exact vx_back (bytes := bytes) (maxL := maxL) (ret := ret) hM hbl hrc hrs hfr hlo hws hcw (fun a' U hW => word_at hW (Or.inl (by first | rfl | simp [Cond.onTables, Cond.keeps, Cond.steady])) hini)
theorem vx_runV (S : CallFix p m c cc nL s args Ts own) (hM : vx_Met l y ws rm Pc Qc XC mc ms free) (cw : CallW R s args own C index y bytes maxL ret ws rm mc ms n) (hp : PreV s H C b Pc As)
    (hg : g.method = m) (hn : As.length = n) (hsize : g.locals.size = nL) (hstack : g.stack = As.reverse ++ .ref b :: rest) (hW : 2 * g.monitorRoom + (rest.map fun v => v.category).sum ≤ 8) (hdg : decode cc g.pc = .ok (.invokevirtual index, 3)) (hf : cells + mc ≤ R.cells ∧ slots + ms ≤ R.slots) :
    vx_Run p l e R s m args below meth c H locs cells slots mc ms g rest (Qc (Value.ref b :: As).toArray) XC free := by
  have hK : vx_Back l R p e below s args y 3 8 (PreOf R mc ms Pc) (PostOf Qc mc ms free) (vx_Post XC mc ms free) := vx_callBack cw.1 hM hp.1
  obtain ⟨⟨-, -, -, -, -, -, hcode, -, hy, hlen, hl⟩, hin, hse⟩ := cw
  obtain ⟨hx, hb, hml, ho, -⟩ := S
  obtain ⟨-, ⟨cellB, hcB, hoB, hclB⟩, hPc⟩ := hp
  intro T hT X
  rcases vx_callV X hx (C := C) (bytes := bytes) (maxL := maxL) (ret := ret) ho hl hin hse hcode hy hK (by rw [hT]; exact hcB) hoB hclB hg (hsize.trans hml.symm) (argsL := As) (rest := rest) (fun sig h => hn.trans (hlen sig h)) hstack hW (by rw [hb]; exact hdg)
    (fun vm₁ hW₁ => ⟨hf.1, hf.2, hPc (T.setVm vm₁) hT hW₁⟩) with ⟨v, vm₁, ⟨U', l2, c2, s2⟩, hW₁, X', ⟨g', mk, t, L, e1, e2, hq, h1, hL, h2, h3⟩, st⟩ | ⟨q, vm₁, ⟨U', l2, c2, s2⟩, hW₁, X', ⟨g', mk, t, L, E, ce, e1, e2, hq, hce, hcv, hcl, h1, hL, h2, h3⟩, st⟩
  · dsimp only [Pt.U, Pt.locs, Pt.cells, Pt.slots] at X' e1 e2 h1 h2 h3 st
    subst h1; subst h2; subst h3
    exact Or.inl ⟨v, (T.setVm vm₁).calling g' mk (Value.ref b :: As).toArray, t, U', L, hT, X', hL, e1, e2, hq, st⟩
  · dsimp only [Pt.U, Pt.locs, Pt.cells, Pt.slots] at X' e1 e2 h1 h2 h3 st hcl
    subst h1; subst h2; subst h3
    exact Or.inr ⟨q, (T.setVm vm₁).calling g' mk (Value.ref b :: As).toArray, t, U', L, E, ce, hT, X', hL, e1, e2, hq, hce, hcv, vx_cls hW₁ hcl, st⟩
theorem vx_runS (S : CallFix p m c cc nL s args Ts own) (hM : vx_Met l y ws rm Pc Qc XC mc ms free) (cw : CallB R s args own index y bytes maxL ret ws rm mc ms n ∧ (Cond.static y).before args s = true) (hp : PreS s H Pc As)
    (hg : g.method = m) (hn : As.length = n) (hsize : g.locals.size = nL) (hstack : g.stack = As.reverse ++ rest) (hW : 2 * g.monitorRoom + (rest.map fun v => v.category).sum ≤ 8) (hdg : decode cc g.pc = .ok (.invokestatic index, 3)) (hf : cells + mc ≤ R.cells ∧ slots + ms ≤ R.slots) :
    vx_Run p l e R s m args below meth c H locs cells slots mc ms g rest (Qc As.toArray) XC free := by
  have hK : vx_Back l R p e below s args y 3 8 (PreOf R mc ms Pc) (PostOf Qc mc ms free) (vx_Post XC mc ms free) := vx_callBack cw.1 hM hp.1
  obtain ⟨⟨-, -, -, -, -, -, hcode, hini, hy, hlen, hl⟩, hstt⟩ := cw
  obtain ⟨hx, hb, hml, ho, -⟩ := S
  intro T hT X
  rcases vx_callS X hx (bytes := bytes) (maxL := maxL) (ret := ret) ho hl hstt hini hcode hy hK hg (hsize.trans hml.symm) (argsL := As) (rest := rest) (fun sig h => hn.trans (hlen sig h)) hstack hW (by rw [hb]; exact hdg)
    (fun vm₁ hW₁ => ⟨hf.1, hf.2, hp.2 (T.setVm vm₁) hT hW₁⟩) with ⟨v, vm₁, ⟨U', l2, c2, s2⟩, hW₁, X', ⟨g', mk, t, L, e1, e2, hq, h1, hL, h2, h3⟩, st⟩ | ⟨q, vm₁, ⟨U', l2, c2, s2⟩, hW₁, X', ⟨g', mk, t, L, E, ce, e1, e2, hq, hce, hcv, hcl, h1, hL, h2, h3⟩, st⟩
  · dsimp only [Pt.U, Pt.locs, Pt.cells, Pt.slots] at X' e1 e2 h1 h2 h3 st
    subst h1; subst h2; subst h3
    exact Or.inl ⟨v, (T.setVm vm₁).calling g' mk As.toArray, t, U', L, hT, X', hL, e1, e2, hq, st⟩
  · dsimp only [Pt.U, Pt.locs, Pt.cells, Pt.slots] at X' e1 e2 h1 h2 h3 st hcl
    subst h1; subst h2; subst h3
    exact Or.inr ⟨q, (T.setVm vm₁).calling g' mk As.toArray, t, U', L, E, ce, hT, X', hL, e1, e2, hq, hce, hcv, vx_cls hW₁ hcl, st⟩
end Runs
section Rows
variable {p : Program} {l : Launch} {e : Env} {R : Room} {s : State} {m : MethodId} {args : Array Value} {below : List Frame} {meth : Method} {c : Code} {H : Heap} {locs : List Loc} {cells slots : Nat} {Q : State → Prop}
variable {mc ms : Nat} {free : Addr → Prop} {A0 A1 : Nat → Prop} {H0 : Heap} {a : Array Value} {pc : Nat} {ls : Array Slot} {st0 rest : List Value}
theorem vx_keep {st₀ t T' : State} {L : List Loc} (h0 : st₀.heap = H) (e1 : T'.heap = t.heap) (hS : va_S A0 H0 H locs) (hA : ∀ q, q < H.size → A1 q → A0 q) (hf : ∀ q, free q → A0 q) (hL : ∀ q ∈ L, free q.base) (hF : va_F A1 st₀ t) :
    H.size ≤ T'.heap.size ∧ (∀ q : Nat, q < H.size → ¬ A1 q → T'.heap[q]? = H[q]?) ∧ va_S A0 H0 T'.heap (locs ++ L) := by
  obtain ⟨hz, hk⟩ := hF
  rw [h0] at hz hk
  exact ⟨by rw [e1]; exact hz, fun q h1 h2 => by rw [e1]; exact hk q h1 h2,
    ⟨Nat.le_trans hS.1 (by rw [e1]; exact hz), fun q h1 h2 => by rw [e1, hk q (Nat.lt_of_lt_of_le h1 hS.1) (fun z => h2 (hA q (Nat.lt_of_lt_of_le h1 hS.1) z))]; exact hS.2.1 q h1 h2, fun q hq => by
      rcases List.mem_append.mp hq with h | h
      · exact hS.2.2 q h
      · exact hf _ (hL q h)⟩⟩
theorem vx_calli {S SX : Type} {post : Int32 → S → Prop} {px : SX → Prop} {B : S → State → Prop} {BX : String → SX → State → Prop} {AX : Nat → Prop} (hr : vx_Run p l e R s m args below meth c H locs cells slots mc ms (F0 m pc ls st0) rest (va_Qi post B A1 a) (vx_X px BX AX) free) (hS : va_S A0 H0 H locs) (hA : ∀ q, q < H.size → A1 q → A0 q) (hf : ∀ q, free q → A0 q) (hAX : ∀ q, q < H.size → AX q → A0 q)
    (kx : ∀ (E : String) (ce : Cell) (q9 : Addr) (u : SX) (t : State) (H1 : Heap) (locs1 : List Loc), t.heap = H1 → s.vm.Alike t.vm → px u → BX E u t → H.size ≤ H1.size → (∀ q : Nat, q < H.size → ¬ AX q → H1[q]? = H[q]?) → va_S A0 H0 H1 locs1 → H1[q9]? = some ce → ce.vm = .none → s.vm.findClass E = some ce.cls → vx_W p l e R s m args below meth c H1 locs1 (cells + mc) (slots + ms) Q (F0 m pc ls rest) q9)
    (kk : ∀ (r : Int32) (u : S) (t : State) (H1 : Heap) (locs1 : List Loc), t.heap = H1 → s.vm.Alike t.vm → post r u → B u t → H.size ≤ H1.size → (∀ q : Nat, q < H.size → ¬ A1 q → H1[q]? = H[q]?) → va_S A0 H0 H1 locs1 → W p l e R s m args below meth c H1 locs1 (cells + mc) (slots + ms) Q (F0 m (pc + 3) ls (.int r :: rest))) : W p l e R s m args below meth c H locs cells slots Q (F0 m pc ls st0) := by
  intro T hT X
  rcases hr T hT X with ⟨v, st₀, t, T', L, h0, X', hL, e1, e2, ⟨⟨r, u, hv, hp, hb⟩, hF⟩, st⟩ | ⟨q, st₀, t, T', L, E, ce, h0, X', hL, e1, e2, ⟨u, hp, hb, hF⟩, hce, hcv, hcl, st⟩
  · cases hv
    obtain ⟨k1, k2, k3⟩ := vx_keep h0 e1 hS hA hf hL hF
    obtain ⟨t2, a1, b1⟩ := kk r u t T'.heap (locs ++ L) e1.symm (by rw [← e2]; exact X'.warmed.alike) hp hb k1 k2 k3 T' rfl X'
    exact ⟨t2, st t2 a1, b1⟩
  · obtain ⟨k1, k2, k3⟩ := vx_keep h0 e1 hS hAX hf hL hF
    obtain ⟨t2, a1, b1⟩ := kx E ce q u t T'.heap (locs ++ L) e1.symm (by rw [← e2]; exact X'.warmed.alike) hp hb k1 k2 k3 (by rw [e1]; exact hce) hcv hcl T' rfl X'
    exact ⟨t2, st.trans a1, b1⟩
theorem vx_calll {S SX : Type} {post : Int64 → S → Prop} {px : SX → Prop} {B : S → State → Prop} {BX : String → SX → State → Prop} {AX : Nat → Prop} (hr : vx_Run p l e R s m args below meth c H locs cells slots mc ms (F0 m pc ls st0) rest (va_Ql post B A1 a) (vx_X px BX AX) free) (hS : va_S A0 H0 H locs) (hA : ∀ q, q < H.size → A1 q → A0 q) (hf : ∀ q, free q → A0 q) (hAX : ∀ q, q < H.size → AX q → A0 q)
    (kx : ∀ (E : String) (ce : Cell) (q9 : Addr) (u : SX) (t : State) (H1 : Heap) (locs1 : List Loc), t.heap = H1 → s.vm.Alike t.vm → px u → BX E u t → H.size ≤ H1.size → (∀ q : Nat, q < H.size → ¬ AX q → H1[q]? = H[q]?) → va_S A0 H0 H1 locs1 → H1[q9]? = some ce → ce.vm = .none → s.vm.findClass E = some ce.cls → vx_W p l e R s m args below meth c H1 locs1 (cells + mc) (slots + ms) Q (F0 m pc ls rest) q9)
    (kk : ∀ (r : Int64) (u : S) (t : State) (H1 : Heap) (locs1 : List Loc), t.heap = H1 → s.vm.Alike t.vm → post r u → B u t → H.size ≤ H1.size → (∀ q : Nat, q < H.size → ¬ A1 q → H1[q]? = H[q]?) → va_S A0 H0 H1 locs1 → W p l e R s m args below meth c H1 locs1 (cells + mc) (slots + ms) Q (F0 m (pc + 3) ls (.long r :: rest))) : W p l e R s m args below meth c H locs cells slots Q (F0 m pc ls st0) := by
  intro T hT X
  rcases hr T hT X with ⟨v, st₀, t, T', L, h0, X', hL, e1, e2, ⟨⟨r, u, hv, hp, hb⟩, hF⟩, st⟩ | ⟨q, st₀, t, T', L, E, ce, h0, X', hL, e1, e2, ⟨u, hp, hb, hF⟩, hce, hcv, hcl, st⟩
  · cases hv
    obtain ⟨k1, k2, k3⟩ := vx_keep h0 e1 hS hA hf hL hF
    obtain ⟨t2, a1, b1⟩ := kk r u t T'.heap (locs ++ L) e1.symm (by rw [← e2]; exact X'.warmed.alike) hp hb k1 k2 k3 T' rfl X'
    exact ⟨t2, st t2 a1, b1⟩
  · obtain ⟨k1, k2, k3⟩ := vx_keep h0 e1 hS hAX hf hL hF
    obtain ⟨t2, a1, b1⟩ := kx E ce q u t T'.heap (locs ++ L) e1.symm (by rw [← e2]; exact X'.warmed.alike) hp hb k1 k2 k3 (by rw [e1]; exact hce) hcv hcl T' rfl X'
    exact ⟨t2, st.trans a1, b1⟩
theorem vx_callf {S SX : Type} {post : UInt32 → S → Prop} {px : SX → Prop} {B : S → State → Prop} {BX : String → SX → State → Prop} {AX : Nat → Prop} (hr : vx_Run p l e R s m args below meth c H locs cells slots mc ms (F0 m pc ls st0) rest (va_Qf post B A1 a) (vx_X px BX AX) free) (hS : va_S A0 H0 H locs) (hA : ∀ q, q < H.size → A1 q → A0 q) (hf : ∀ q, free q → A0 q) (hAX : ∀ q, q < H.size → AX q → A0 q)
    (kx : ∀ (E : String) (ce : Cell) (q9 : Addr) (u : SX) (t : State) (H1 : Heap) (locs1 : List Loc), t.heap = H1 → s.vm.Alike t.vm → px u → BX E u t → H.size ≤ H1.size → (∀ q : Nat, q < H.size → ¬ AX q → H1[q]? = H[q]?) → va_S A0 H0 H1 locs1 → H1[q9]? = some ce → ce.vm = .none → s.vm.findClass E = some ce.cls → vx_W p l e R s m args below meth c H1 locs1 (cells + mc) (slots + ms) Q (F0 m pc ls rest) q9)
    (kk : ∀ (r : UInt32) (u : S) (t : State) (H1 : Heap) (locs1 : List Loc), t.heap = H1 → s.vm.Alike t.vm → post r u → B u t → H.size ≤ H1.size → (∀ q : Nat, q < H.size → ¬ A1 q → H1[q]? = H[q]?) → va_S A0 H0 H1 locs1 → W p l e R s m args below meth c H1 locs1 (cells + mc) (slots + ms) Q (F0 m (pc + 3) ls (.float r :: rest))) : W p l e R s m args below meth c H locs cells slots Q (F0 m pc ls st0) := by
  intro T hT X
  rcases hr T hT X with ⟨v, st₀, t, T', L, h0, X', hL, e1, e2, ⟨⟨r, u, hv, hp, hb⟩, hF⟩, st⟩ | ⟨q, st₀, t, T', L, E, ce, h0, X', hL, e1, e2, ⟨u, hp, hb, hF⟩, hce, hcv, hcl, st⟩
  · cases hv
    obtain ⟨k1, k2, k3⟩ := vx_keep h0 e1 hS hA hf hL hF
    obtain ⟨t2, a1, b1⟩ := kk r u t T'.heap (locs ++ L) e1.symm (by rw [← e2]; exact X'.warmed.alike) hp hb k1 k2 k3 T' rfl X'
    exact ⟨t2, st t2 a1, b1⟩
  · obtain ⟨k1, k2, k3⟩ := vx_keep h0 e1 hS hAX hf hL hF
    obtain ⟨t2, a1, b1⟩ := kx E ce q u t T'.heap (locs ++ L) e1.symm (by rw [← e2]; exact X'.warmed.alike) hp hb k1 k2 k3 (by rw [e1]; exact hce) hcv hcl T' rfl X'
    exact ⟨t2, st.trans a1, b1⟩
theorem vx_calld {S SX : Type} {post : UInt64 → S → Prop} {px : SX → Prop} {B : S → State → Prop} {BX : String → SX → State → Prop} {AX : Nat → Prop} (hr : vx_Run p l e R s m args below meth c H locs cells slots mc ms (F0 m pc ls st0) rest (va_Qd post B A1 a) (vx_X px BX AX) free) (hS : va_S A0 H0 H locs) (hA : ∀ q, q < H.size → A1 q → A0 q) (hf : ∀ q, free q → A0 q) (hAX : ∀ q, q < H.size → AX q → A0 q)
    (kx : ∀ (E : String) (ce : Cell) (q9 : Addr) (u : SX) (t : State) (H1 : Heap) (locs1 : List Loc), t.heap = H1 → s.vm.Alike t.vm → px u → BX E u t → H.size ≤ H1.size → (∀ q : Nat, q < H.size → ¬ AX q → H1[q]? = H[q]?) → va_S A0 H0 H1 locs1 → H1[q9]? = some ce → ce.vm = .none → s.vm.findClass E = some ce.cls → vx_W p l e R s m args below meth c H1 locs1 (cells + mc) (slots + ms) Q (F0 m pc ls rest) q9)
    (kk : ∀ (r : UInt64) (u : S) (t : State) (H1 : Heap) (locs1 : List Loc), t.heap = H1 → s.vm.Alike t.vm → post r u → B u t → H.size ≤ H1.size → (∀ q : Nat, q < H.size → ¬ A1 q → H1[q]? = H[q]?) → va_S A0 H0 H1 locs1 → W p l e R s m args below meth c H1 locs1 (cells + mc) (slots + ms) Q (F0 m (pc + 3) ls (.double r :: rest))) : W p l e R s m args below meth c H locs cells slots Q (F0 m pc ls st0) := by
  intro T hT X
  rcases hr T hT X with ⟨v, st₀, t, T', L, h0, X', hL, e1, e2, ⟨⟨r, u, hv, hp, hb⟩, hF⟩, st⟩ | ⟨q, st₀, t, T', L, E, ce, h0, X', hL, e1, e2, ⟨u, hp, hb, hF⟩, hce, hcv, hcl, st⟩
  · cases hv
    obtain ⟨k1, k2, k3⟩ := vx_keep h0 e1 hS hA hf hL hF
    obtain ⟨t2, a1, b1⟩ := kk r u t T'.heap (locs ++ L) e1.symm (by rw [← e2]; exact X'.warmed.alike) hp hb k1 k2 k3 T' rfl X'
    exact ⟨t2, st t2 a1, b1⟩
  · obtain ⟨k1, k2, k3⟩ := vx_keep h0 e1 hS hAX hf hL hF
    obtain ⟨t2, a1, b1⟩ := kx E ce q u t T'.heap (locs ++ L) e1.symm (by rw [← e2]; exact X'.warmed.alike) hp hb k1 k2 k3 (by rw [e1]; exact hce) hcv hcl T' rfl X'
    exact ⟨t2, st.trans a1, b1⟩
theorem vx_callv {S SX : Type} {post : S → Prop} {px : SX → Prop} {B : S → State → Prop} {BX : String → SX → State → Prop} {AX : Nat → Prop} (hr : vx_Run p l e R s m args below meth c H locs cells slots mc ms (F0 m pc ls st0) rest (va_Qv post B A1 a) (vx_X px BX AX) free) (hS : va_S A0 H0 H locs) (hA : ∀ q, q < H.size → A1 q → A0 q) (hf : ∀ q, free q → A0 q) (hAX : ∀ q, q < H.size → AX q → A0 q)
    (kx : ∀ (E : String) (ce : Cell) (q9 : Addr) (u : SX) (t : State) (H1 : Heap) (locs1 : List Loc), t.heap = H1 → s.vm.Alike t.vm → px u → BX E u t → H.size ≤ H1.size → (∀ q : Nat, q < H.size → ¬ AX q → H1[q]? = H[q]?) → va_S A0 H0 H1 locs1 → H1[q9]? = some ce → ce.vm = .none → s.vm.findClass E = some ce.cls → vx_W p l e R s m args below meth c H1 locs1 (cells + mc) (slots + ms) Q (F0 m pc ls rest) q9)
    (kk : ∀ (u : S) (t : State) (H1 : Heap) (locs1 : List Loc), t.heap = H1 → s.vm.Alike t.vm → post u → B u t → H.size ≤ H1.size → (∀ q : Nat, q < H.size → ¬ A1 q → H1[q]? = H[q]?) → va_S A0 H0 H1 locs1 → W p l e R s m args below meth c H1 locs1 (cells + mc) (slots + ms) Q (F0 m (pc + 3) ls (rest))) : W p l e R s m args below meth c H locs cells slots Q (F0 m pc ls st0) := by
  intro T hT X
  rcases hr T hT X with ⟨v, st₀, t, T', L, h0, X', hL, e1, e2, ⟨⟨u, hv, hp, hb⟩, hF⟩, st⟩ | ⟨q, st₀, t, T', L, E, ce, h0, X', hL, e1, e2, ⟨u, hp, hb, hF⟩, hce, hcv, hcl, st⟩
  · cases hv
    obtain ⟨k1, k2, k3⟩ := vx_keep h0 e1 hS hA hf hL hF
    obtain ⟨t2, a1, b1⟩ := kk u t T'.heap (locs ++ L) e1.symm (by rw [← e2]; exact X'.warmed.alike) hp hb k1 k2 k3 T' rfl X'
    exact ⟨t2, st t2 a1, b1⟩
  · obtain ⟨k1, k2, k3⟩ := vx_keep h0 e1 hS hAX hf hL hF
    obtain ⟨t2, a1, b1⟩ := kx E ce q u t T'.heap (locs ++ L) e1.symm (by rw [← e2]; exact X'.warmed.alike) hp hb k1 k2 k3 (by rw [e1]; exact hce) hcv hcl T' rfl X'
    exact ⟨t2, st.trans a1, b1⟩
/-- caught by the row x of this method's table; the rows ahead don't take it -/
theorem vx_catch {own name : String} {E : String} {ce : Cell} {q : Addr} (hown : s.vm.findClass own = some m.cls) (pre : List ExceptionTableEntry) (x : ExceptionTableEntry) (suf : List ExceptionTableEntry) (hsplit : c.exceptionTable.toList = pre ++ x :: suf)
    (hpass : ∀ z ∈ pre, covers z pc = false ∨ (z.catchType ≠ 0 ∧ ∃ nm : String, (Cond.classLink own z.catchType nm).before args s = true ∧ va_Nc E nm s)) (hx : covers x pc = true) (h0 : x.catchType ≠ 0)
    (hlink : (Cond.classLink own x.catchType name).before args s = true) (hcast : (Cond.castable E name).before args s = true) (hcell : H[q]? = some ce) (hv : ce.vm = .none) (hcl : s.vm.findClass E = some ce.cls)
    (kk : W p l e R s m args below meth c H locs cells slots Q (F0 m x.handlerPc ls [.ref q])) : vx_W p l e R s m args below meth c H locs cells slots Q (F0 m pc ls rest) q := by
  intro T hT X
  have hpl : e.platform.magicAccessors = ({} : Platform).magicAccessors := by rw [X.admits.platform]
  obtain ⟨c3, c4, hc3, hc4, hasg⟩ := Cond.castable_spec hcast
  cases Option.some.inj (hc3.symm.trans hcl)
  obtain ⟨c5, hc5, hcl5⟩ := Cond.classLink_spec hown hlink e.platform hpl
  cases Option.some.inj (hc4.symm.trans hc5)
  obtain ⟨vm', X', st⟩ := X.thenCaughtThrough q (g := F0 m pc ls rest) rfl (Steps.refl _) (by rw [hT]; exact hcell) (by rw [hv]; rfl) (by obtain ⟨k9, h9, -⟩ := Vm.findClass_spec hcl; exact ⟨k9, h9⟩) pre x suf hsplit
    (fun z hz => by
      rcases hpass z hz with h | ⟨hz0, nm, hl1, hn1⟩
      · exact Or.inl h
      · obtain ⟨c6, hc6, hcl6⟩ := Cond.classLink_spec hown hl1 e.platform hpl
        obtain ⟨a8, b8, h1, h2, h3⟩ := hn1
        cases Option.some.inj (h1.symm.trans hcl)
        cases Option.some.inj (h2.symm.trans hc6)
        exact Or.inr ⟨hz0, _, hcl6, h3⟩) hx (Or.inr ⟨h0, c4, hcl5, hasg⟩)
  obtain ⟨t, a1, b1⟩ := kk (T.setVm vm') hT X'
  exact ⟨t, st.trans a1, b1⟩
end Rows
section Ends
variable {p : Program} {l : Launch} {e : Env} {R : Room} {s : State} {m : MethodId} {args : Array Value} {below : List Frame} {meth : Method} {c : Code} {H : Heap} {locs : List Loc} {cells slots : Nat} {Q : State → Prop}
variable {mc ms : Nat} {free : Addr → Prop} {A0 A1 : Nat → Prop} {H0 : Heap} {a : Array Value} {ls : Array Slot} {st0 rest : List Value}
variable {Qc : Array Value → State → Outcome → State → Prop} {XC : String → State → State → Prop}
/-- what a body that may throw owes at its end -/
def vx_MQ (below : List Frame) (Qc : Array Value → State → Outcome → State → Prop) (XC : String → State → State → Prop) (a : Array Value) (s : State) (mc ms : Nat) (free : Addr → Prop) : State → Prop := fun t =>
  ∃ o, t.status = .running ∧ Ended t below o ∧ vx_Q Qc XC mc ms free a s o t
theorem vx_ret {g : JFrame} {mc ms : Nat} (k : W p l e R s m args below meth c H locs cells slots (MQ below Qc args s mc ms free) g) : W p l e R s m args below meth c H locs cells slots (vx_MQ below Qc XC args s mc ms free) g := by
  intro T hT X
  obtain ⟨t, a1, o, b1, b2, b3, b4⟩ := k T hT X
  exact ⟨t, a1, o, b1, b2, Or.inl ⟨b3, b4⟩⟩
/-- not caught here: it goes on to the caller -/
theorem vx_widen {g : JFrame} {q : Addr} {k n : Nat} (h1 : cells ≤ k) (h2 : slots ≤ n) (kk : vx_W p l e R s m args below meth c H locs k n Q g q) : vx_W p l e R s m args below meth c H locs cells slots Q g q := fun T hT X => kk T hT (stand_widen X h1 h2)
theorem vx_out {pc : Nat} {E : String} {ce : Cell} {q : Addr} {mc ms : Nat} (hout : ∀ x ∈ c.exceptionTable.toList, covers x pc = false) (hlocks : meth.locks = false) (hcell : H[q]? = some ce) (hv : ce.vm = .none) (hcl : s.vm.findClass E = some ce.cls)
    (hx : ∀ t : State, t.heap = H → s.vm.Alike t.vm → XC E s t) (hf : ∀ z ∈ locs, free z.base) (hc : cells ≤ mc) (hs : slots ≤ ms) :
    vx_W p l e R s m args below meth c H locs cells slots (vx_MQ below Qc XC args s mc ms free) (F0 m pc ls rest) q := by
  intro T hT X
  obtain ⟨st1, hrun, hend, hW, hsm⟩ := X.leaveThrown q (g := F0 m pc ls rest) rfl rfl rfl hout hlocks
  have hcell9 : (T.setFrames (.throwing q :: below)).heap[q]? = some ce := by
    show T.heap[q]? = some ce
    rw [hT]; exact hcell
  exact ⟨_, st1, .threw q, hrun, hend, Or.inr ⟨q, rfl, E, ce, locs, hx _ hT hW.alike, hcell9, hv, hcl, hW, hsm.mono hc hs, hf⟩⟩
theorem vx_frame {U : State} {k n : Nat} (h : s.sameButNew ({ U with vm := s.vm } : State) locs k n) : s.heap.size ≤ U.heap.size ∧ ∀ q : Nat, q < s.heap.size → (∀ z ∈ locs, z.base ≠ q) → U.heap[q]? = s.heap[q]? := by
  obtain ⟨-, h2, -, -, -, h6⟩ := h
  refine ⟨h2, fun q hq hz => ?_⟩
  obtain ⟨c9, e1, e2, e3, e4⟩ := h6 q _ (Array.getElem?_eq_getElem hq)
  have hs : c9.slots = (s.heap[q]).slots := Array.ext_getElem? fun i => e4 i fun hm => hz _ hm rfl
  have h9 : c9 = s.heap[q] := by
    rw [hs] at e2
    exact e2
  have e5 : U.heap[q]? = some c9 := e1
  rw [e5, h9, Array.getElem?_eq_getElem hq]
/-- the words of a throw but the four that speak of the heap -/
def vx_no (w : Cond) : Bool := decide (w ≠ .isRef (.static Bundle.tN "UNASSIGNED_STACK" Bundle.steD)) && decide (w ≠ .isRef (.static Bundle.tN "SUPPRESSED_SENTINEL" Bundle.listD)) && decide (w ≠ .laysStatic Bundle.tN "UNASSIGNED_STACK" Bundle.steD) && decide (w ≠ .laysStatic Bundle.tN "SUPPRESSED_SENTINEL" Bundle.listD)
def vx_at0 (own : String) (ic : Nat) (X : String) (names : List String) : List Cond := (Bundle.ownAtoms0 own ic X names).filter vx_no
def vx_atS (own : String) (ic : Nat) (X : String) (names : List String) : List Cond := (Bundle.ownAtoms own ic X names).filter vx_no
/-- a word that the tables alone decide, or a good one -/
def vx_ot (w : Cond) : Bool := w.onTables || goodWord w
theorem vx_ot_at {args a' : Array Value} {s U : State} {w : Cond} (hW : s.WarmedH U.vm) (hvm : s.vm = U.vm) (hg : vx_ot w = true) (h : w.before args s = true) : w.before a' U = true := by
  simp only [vx_ot, Bool.or_eq_true] at hg
  rcases hg with hg | hg
  · exact va_tabs hg hvm h
  · exact word_at hW (good_of_word hg) h
/-- a list's words: the good ones out of the method's own list, the others by premises of their own -/
theorem vx_hat {args : Array Value} {s : State} {L B : List Cond} (h1 : ∀ w ∈ L.filter goodWord, w.before args s = true) (h2 : ∀ w ∈ L.filter (fun w => !goodWord w), w ∈ B) (h3 : ∀ w ∈ B, w.before args s = true) : ∀ w ∈ L, w.before args s = true := by
  intro w hw
  by_cases g : goodWord w = true
  · exact h1 w (List.mem_filter.mpr ⟨hw, g⟩)
  · refine h3 w (h2 w (List.mem_filter.mpr ⟨hw, ?_⟩))
    show (!goodWord w) = true
    cases hgw : goodWord w
    · rfl
    · exact absurd hgw g
theorem vx_c {args : Array Value} {s : State} {w : Cond} {B : List Cond} (h : w.before args s = true) (t : ∀ w ∈ B, w.before args s = true) : ∀ w' ∈ w :: B, w'.before args s = true := fun w' h' => (List.mem_cons.mp h').elim (fun e => by rw [e]; exact h) (t w')
theorem vx_n {args : Array Value} {s : State} : ∀ w ∈ ([] : List Cond), w.before args s = true := fun _ h => nomatch h
theorem vx_own {args : Array Value} {s : State} {L : List Cond} (h1 : ∀ w ∈ L.filter vx_no, w.before args s = true)
    (hU : (Cond.isRef (.static Bundle.tN "UNASSIGNED_STACK" Bundle.steD)).before args s = true) (hN : (Cond.isRef (.static Bundle.tN "SUPPRESSED_SENTINEL" Bundle.listD)).before args s = true)
    (lU : (Cond.laysStatic Bundle.tN "UNASSIGNED_STACK" Bundle.steD).before args s = true) (lN : (Cond.laysStatic Bundle.tN "SUPPRESSED_SENTINEL" Bundle.listD).before args s = true) : ∀ w ∈ L, w.before args s = true := by
  intro w hw
  by_cases e1 : w = .isRef (.static Bundle.tN "UNASSIGNED_STACK" Bundle.steD)
  · rw [e1]; exact hU
  · by_cases e2 : w = .isRef (.static Bundle.tN "SUPPRESSED_SENTINEL" Bundle.listD)
    · rw [e2]; exact hN
    · by_cases e3 : w = .laysStatic Bundle.tN "UNASSIGNED_STACK" Bundle.steD
      · rw [e3]; exact lU
      · by_cases e4 : w = .laysStatic Bundle.tN "SUPPRESSED_SENTINEL" Bundle.listD
        · rw [e4]; exact lN
        · exact h1 w (List.mem_filter.mpr ⟨hw, by unfold vx_no; rw [decide_eq_true e1, decide_eq_true e2, decide_eq_true e3, decide_eq_true e4]; rfl⟩)
/-- where a static field lies, its class's statics cell in H -/
def vx_L (C n d : String) (A : Nat → Prop) (U : State) (H : Heap) : Prop := ∃ (c : ClassId) (k : Class) (i : Nat) (f : Field) (a : Nat) (cell : Cell), U.vm.findClass C = some c ∧ U.fieldFound? C n d = some (c, k, i, f) ∧ f.isStatic = true ∧ k.statics = some a ∧ H[a]? = some cell ∧ cell.vm.isStatics = true ∧ cell.cls = c ∧ f.slot < cell.slots.size ∧ k.staticTypes[f.slot]? = some f.type ∧ ¬ A a
theorem vx_L.moved {C n d : String} {A : Nat → Prop} {u U : State} {H : Heap} (hvm : u.vm.Alike U.vm) (h : vx_L C n d A u H) : vx_L C n d A U H := by
  obtain ⟨c, k, i, f, a, cell, h1, h2, h3, h4, h5, h6, h7, h8, h9, h10⟩ := h
  obtain ⟨k', hi', he⟩ := State.fieldFound?_setVm hvm h2
  exact ⟨c, k', i, f, a, cell, by rw [hvm.findClass]; exact h1, hi', h3, by rw [he]; exact h4, h5, h6, h7, h8, by rw [he]; exact h9, h10⟩
theorem vx_L.kept {C n d : String} {A : Nat → Prop} {U : State} {H H1 : Heap} (h : vx_L C n d A U H) (hq : ∀ a : Nat, a < H.size → ¬ A a → H1[a]? = H[a]?) : vx_L C n d A U H1 := by
  obtain ⟨c, k, i, f, a, cell, h1, h2, h3, h4, h5, h6, h7, h8, h9, h10⟩ := h
  exact ⟨c, k, i, f, a, cell, h1, h2, h3, h4, by rw [hq a (Array.getElem?_eq_some_iff.mp h5).1 h10]; exact h5, h6, h7, h8, h9, h10⟩
theorem vx_L.narrow {C n d : String} {A B : Nat → Prop} {U : State} {H : Heap} (h : vx_L C n d A U H) (hAB : ∀ q, B q → A q) : vx_L C n d B U H := by
  obtain ⟨c, k, i, f, a, cell, h1, h2, h3, h4, h5, h6, h7, h8, h9, h10⟩ := h
  exact ⟨c, k, i, f, a, cell, h1, h2, h3, h4, h5, h6, h7, h8, h9, fun z => h10 (hAB _ z)⟩
theorem vx_L.word {C n d : String} {A : Nat → Prop} {s : State} {args : Array Value} (h : vx_L C n d A s s.heap) : (Cond.laysStatic C n d).before args s = true := by
  obtain ⟨c, k, i, f, a, cell, h1, h2, h3, h4, h5, h6, h7, h8, h9, -⟩ := h
  show (Cond.laysStatic C n d).holds args s none s [] = true
  exact Cond.laysStatic_of h1 h2 h3 h4 h5 h6 h7 h8 h9
/-- .. and what it holds: null or some reference -/
def vx_Zq (C n d : String) (A : Nat → Prop) (U : State) (H : Heap) : Prop := va_Zq C n d A U H ∧ vx_L C n d A U H
theorem vx_Zq.moved {C n d : String} {A : Nat → Prop} {u U : State} {H : Heap} (hvm : u.vm.Alike U.vm) (h : vx_Zq C n d A u H) : vx_Zq C n d A U H := ⟨va_Zq.moved hvm h.1, vx_L.moved hvm h.2⟩
theorem vx_Zq.kept {C n d : String} {A : Nat → Prop} {U : State} {H H1 : Heap} (h : vx_Zq C n d A U H) (hq : ∀ a : Nat, a < H.size → ¬ A a → H1[a]? = H[a]?) : vx_Zq C n d A U H1 := ⟨va_Zq.kept h.1 hq, vx_L.kept h.2 hq⟩
theorem vx_Zq.narrow {C n d : String} {A B : Nat → Prop} {U : State} {H : Heap} (h : vx_Zq C n d A U H) (hAB : ∀ q, B q → A q) : vx_Zq C n d B U H := ⟨va_Zq.narrow h.1 hAB, vx_L.narrow h.2 hAB⟩
theorem vx_Zqof {args : Array Value} {s : State} {C n d : String} {A : Nat → Prop} (hl : (Cond.laysStatic C n d).before args s = true) (hini : (Cond.initialized C).before args s = true) (h : (Cond.isRef (.static C n d)).before args s = true) (hA : ∀ a : Nat, a < s.heap.size → ¬ A a) : vx_Zq C n d A s s.heap := by
  refine ⟨va_Zqof hl hini h hA, ?_⟩
  obtain ⟨c, k, i, f, a, cell, h1, h2, h3, h4, h5, h6, h7, h8, h9⟩ := Cond.laysStatic_spec hl
  exact ⟨c, k, i, f, a, cell, h1, h2, h3, h4, h5, h6, h7, h8, h9, hA a (Array.getElem?_eq_some_iff.mp h5).1⟩
theorem vx_isRef {C n d : String} {v : Value} {A : Nat → Prop} {s : State} {args : Array Value} (h : va_Z C n d v A s s.heap) (hv : v.isRef = true) : (Cond.isRef (.static C n d)).before args s = true := by
  obtain ⟨cf, kf, fi, f, a, cell, h1, h2, h3, h4, h5, h6, h7, -⟩ := h
  have he : (Term.static C n d).eval args s none [] s = some v := by
    simp [Term.eval, State.fieldNamed?, h1, h2, h4, h5, h6, h7]
  simp only [Cond.before, Cond.holds, Cond.value, he]
  cases v <;> simp_all [Value.isRef]
theorem vx_isRefq {C n d : String} {A : Nat → Prop} {s : State} {args : Array Value} (h : va_Zq C n d A s s.heap) : (Cond.isRef (.static C n d)).before args s = true := by
  rcases h with h | ⟨t, h⟩
  · exact vx_isRef h rfl
  · exact vx_isRef h rfl
/-- the same frame, seen from here: as if the method were called anew in this heap -/
theorem vx_rebase {T : State} (X : Stand p l e R s m args below meth c T locs cells slots) {R' : Room} (hf : R'.frames ≤ R.frames) (hl : R'.locals ≤ R.locals) (hc : cells + R'.cells ≤ R.cells) (hs : slots + R'.slots ≤ R.slots) :
    Stand p l e R' ((T.setVm s.vm).setFrames (.invoking m args :: below)) m args below meth c T [] 0 0 := by
  have htop : (T.setVm s.vm).topJava?.isSome := X.here.top
  have hF : ((T.setVm s.vm).setFrames (.invoking m args :: below)).frames = .invoking m args :: below := State.frames_setFrames _ (State.cur_lt_of_top htop)
  obtain ⟨g₀, hg0⟩ := Option.isSome_iff_exists.mp htop
  obtain ⟨r, hr⟩ := State.topJava?_eq_some.mp hg0
  have hl9 : e.platform.stackLimits (T.setVm s.vm).me = e.platform.stackLimits s.me := X.limits
  have hb9 : (T.setVm s.vm).me.stackBytes = s.me.stackBytes := X.bytes
  refine ⟨X.admits, X.cas, X.clock, hF, ?_, X.hears, X.method, X.code, X.here, X.tail, X.warmed, ?_, ?_, ?_⟩
  · have h := X.room
    have hU : ((T.setVm s.vm).setFrames (.invoking m args :: below)).localsInUse = s.localsInUse := by
      rw [State.localsInUse_invoking hF (meth := meth) (c := c) X.method X.code, State.localsInUse_invoking X.frames X.method X.code]
    simp only [State.hasRoom, Bool.and_eq_true, decide_eq_true_eq] at h ⊢
    obtain ⟨⟨⟨⟨h1, h2, h3, h4, h5, h6⟩, h7⟩, h8⟩, h9⟩ := h
    rw [X.frames, List.length_cons] at h2 h3
    have q1 := X.heapSize
    have q2 := X.used
    simp only [hF, hU, List.length_cons, State.stackLimits_setFrames, State.stackBytes_setFrames, hl9, hb9]
    refine ⟨⟨⟨⟨by omega, by omega, by omega, by omega, by omega, h6⟩, ?_⟩, ?_⟩, X.book⟩
    · show T.heap.size + R'.cells ≤ e.platform.maxCells
      omega
    · show T.slotsUsed + R'.slots ≤ e.platform.maxSlots
      omega
  · rw [State.stackLimits_setFrames]; rfl
  · rw [State.stackBytes_setFrames]; rfl
  · refine ⟨?_, Nat.le_refl _, Nat.le_refl _, ?_, ?_, fun a c9 h9 => ⟨c9, h9, rfl, rfl, fun _ _ => rfl⟩⟩
    · obtain ⟨t, ht, -⟩ := State.frames_cons hr
      show T.setVm s.vm = { ((T.setVm s.vm).setFrames (.invoking m args :: below)).setFrames (T.setVm s.vm).frames with heap := T.heap, slotsUsed := T.slotsUsed }
      rw [State.setFrames_setFrames, State.setFrames_self ht]
      rfl
    · show T.slotsUsed = T.slotsUsed + ((T.heap.toList.drop T.heap.size).map (·.slots.size)).sum
      rw [List.drop_eq_nil_of_le (Nat.le_of_eq Array.length_toList)]
      rfl
    · show ((T.heap.toList.drop T.heap.size).map (·.slots.size)).sum ≤ 0
      rw [List.drop_eq_nil_of_le (Nat.le_of_eq Array.length_toList)]
      exact Nat.le_refl _
/-- 'throw new E()': new; dup; invokespecial; athrow -/
theorem vx_throw0 {cc : ByteArray} {pc : Nat} (hexec : p.tables.exec = Jvm.exec) (hb : c.code = cc) (hl : l.stackTraces = false) {own cls : String} {names : List String} {ik ic mc ms : Nat} {A : Nat → Prop}
    (hown : s.vm.findClass own = some m.cls) (hcls : Bundle.fit cls = true) (hnames : ∀ n ∈ names, Bundle.fit n = true)
    (hk : (Cond.classLink own ik cls).before args s = true) (hini : (Cond.initialized cls).before args s = true) (hat : ∀ w ∈ vx_at0 own ic cls names, w.before args s = true)
    (hgood : ∀ w ∈ Cond.classLink own ik cls :: Cond.initialized cls :: vx_at0 own ic cls names, vx_ot w = true)
    (hU : vx_Zq Bundle.tN "UNASSIGNED_STACK" Bundle.steD A s s.heap) (hN : vx_Zq Bundle.tN "SUPPRESSED_SENTINEL" Bundle.listD A s s.heap) (hS : va_S A s.heap H locs) (hsize : ls.size = c.maxLocals)
    (d0 : decode cc pc = .ok (.new ik, 3)) (d3 : decode cc (pc + 3) = .ok (.dup, 1)) (d4 : decode cc (pc + 4) = .ok (.invokespecial ic, 3)) (d7 : decode cc (pc + 7) = .ok (.athrow, 1))
    (hout : ∀ x ∈ c.exceptionTable.toList, covers x (pc + 7) = false)
    (hRframes : names.length + 3 < R.frames) (hRlocals : (rest.map fun v => v.category).sum + (13 * (names.length + 1) + 42) ≤ R.locals) (hRcells : cells + 1 ≤ R.cells) (hRslots : slots + 6 ≤ R.slots) (hlocks : meth.locks = false)
    (hx : ∀ t : State, s.vm.Alike t.vm → H.size ≤ t.heap.size → (∀ q : Nat, q < H.size → t.heap[q]? = H[q]?) → XC cls s t)
    (hf : ∀ z ∈ locs, free z.base) (hc : cells + 1 ≤ mc) (hs : slots + 6 ≤ ms) :
    W p l e R s m args below meth c H locs cells slots (vx_MQ below Qc XC args s mc ms free) (F0 m pc ls rest) := by
  intro T hT X
  have htr : e.platform.stackTraces = false := (show e.platform.stackTraces = l.stackTraces by rw [X.admits.platform]).trans hl
  have Y := vx_rebase X (R' := { frames := R.frames, locals := R.locals, cells := 1, slots := 6 }) (Nat.le_refl _) (Nat.le_refl _) hRcells hRslots
  obtain ⟨s', hA⟩ : ∃ z, z = (T.setVm s.vm).setFrames (.invoking m args :: below) := ⟨_, rfl⟩
  rw [← hA] at Y
  have hvm : s'.vm = s.vm := by rw [hA]; rfl
  have hhp : s'.heap = H := by rw [hA]; exact hT
  have hW0 : s.WarmedH s'.vm := by rw [hvm]; exact State.WarmedH.refl s
  have hat' : ∀ w ∈ vx_at0 own ic cls names, w.before args s' = true := fun w hw => vx_ot_at hW0 hvm.symm (hgood w (List.mem_cons_of_mem _ (List.mem_cons_of_mem _ hw))) (hat w hw)
  have hk' : (Cond.classLink own ik cls).before args s' = true := vx_ot_at hW0 hvm.symm (hgood _ List.mem_cons_self) hk
  have hini' : (Cond.initialized cls).before args s' = true := vx_ot_at hW0 hvm.symm (hgood _ (List.mem_cons_of_mem _ List.mem_cons_self)) hini
  have hU' : vx_Zq Bundle.tN "UNASSIGNED_STACK" Bundle.steD A s' s'.heap := by rw [hhp]; exact vx_Zq.moved hW0.alike (hU.kept hS.2.1)
  have hN' : vx_Zq Bundle.tN "SUPPRESSED_SENTINEL" Bundle.listD A s' s'.heap := by rw [hhp]; exact vx_Zq.moved hW0.alike (hN.kept hS.2.1)
  have h : ∀ w ∈ Bundle.ownAtoms0 own ic cls names, w.before args s' = true := vx_own hat' (vx_isRefq hU'.1) (vx_isRefq hN'.1) hU'.2.word hN'.2.word
  have hown' : s'.vm.findClass own = some m.cls := by rw [hvm]; exact hown
  have hins : (Cond.instantiable cls 6).before args s' = true := h _ (by simp [Bundle.ownAtoms0])
  obtain ⟨vm₁, cX, kX, hfX, hkX, -, -, X₁, st1⟩ := Y.newCold hexec (own := own) (C := cls) (index := ik) (n := 6) hown' hk' hins hini'
    (g := F0 m pc ls rest) rfl (by rw [hb]; exact d0) (Nat.le_refl _) (Nat.le_refl _)
  generalize hT1 : (T.setVm vm₁).pushCell { cls := cX, slots := kX.instanceTypes.map defaultValue, vm := .none } = T1 at X₁ st1
  have hcat : (Value.ref T.heap.size).category = 1 := rfl
  have hcellA : T1.heap[T.heap.size]? = some (freshCell cX kX) := by rw [← hT1]; exact State.heap_pushCell_size _ _
  have d3' : decode c.code (pc + 3) = .ok (.dup, 1) := by rw [hb]; exact d3
  obtain ⟨U, hsteps, hrun, hend, hW, hsame, ce, hce, hO⟩ := X₁.ctorThrow0 hexec htr (own := own) (cls := cls) (names := names) (ic := ic) hown' hcls hnames h (fun x hx => nomatch hx) hfX hkX hcellA (by rw [hhp, hT]; exact Nat.le_refl _)
    (g := { method := m, pc := pc + 4, locals := ls, stack := .ref T.heap.size :: .ref T.heap.size :: rest, locked := none }) rfl hsize rfl rfl (rest := rest) rfl
    (by rw [hb]; exact d4) (by rw [hb]; exact d7) hout hRframes (by simp only [List.map_cons, List.sum_cons, hcat]; omega) hlocks
  obtain ⟨f1, f2⟩ := vx_frame hsame
  rw [hhp] at f1 f2
  have hWs : s.WarmedH U.vm := State.WarmedH.trans hW0 hW
  have hcl : s.vm.findClass cls = some ce.cls := by
    have h9 := hO.cls
    rw [hvm] at h9
    exact h9
  have hall : s.sameButNew ({ U with vm := s.vm } : State) locs mc ms := by
    subst hA
    obtain ⟨e1, e2⟩ := hsame
    rw [State.setFrames_setFrames] at e1
    have h2 : (T.setVm s.vm).sameButNew ({ U with vm := s.vm } : State) [] (0 + 1) (0 + 6) := ⟨e1, e2⟩
    have h3 := X.same.trans h2
    rw [List.append_nil] at h3
    exact h3.mono hc hs
  refine ⟨U, ?_, .threw T.heap.size, hrun, hend, Or.inr ⟨T.heap.size, rfl, cls, ce, locs, hx U hWs.alike f1 (fun q hq => f2 q hq (fun z hz => nomatch hz)), hce, hO.vm, hcl, hWs, hall, hf⟩⟩
  refine st1 _ ?_
  show Steps p.tables e below (T1.setTop { method := m, pc := pc + 3, locals := ls, stack := .ref T.heap.size :: rest, locked := none }) _
  jvm_step X₁.here [X₁.here.top, hexec, d3', Value.category]
  exact hsteps
/-- 'throw new E("text")': new; dup; ldc; invokespecial; athrow -/
theorem vx_throwS {cc : ByteArray} {pc : Nat} (hexec : p.tables.exec = Jvm.exec) (hb : c.code = cc) (hl : l.stackTraces = false) {own cls text : String} {names : List String} {ik is ic mc ms sa : Nat} {A : Nat → Prop}
    (hown : s.vm.findClass own = some m.cls) (hcls : Bundle.fit cls = true) (hnames : ∀ n ∈ names, Bundle.fit n = true)
    (hk : (Cond.classLink own ik cls).before args s = true) (hini : (Cond.initialized cls).before args s = true) (hstr : vk_R own is text sa s) (hat : ∀ w ∈ vx_atS own ic cls names, w.before args s = true)
    (hgood : ∀ w ∈ Cond.classLink own ik cls :: Cond.initialized cls :: vx_atS own ic cls names, vx_ot w = true)
    (hU : vx_Zq Bundle.tN "UNASSIGNED_STACK" Bundle.steD A s s.heap) (hN : vx_Zq Bundle.tN "SUPPRESSED_SENTINEL" Bundle.listD A s s.heap) (hS : va_S A s.heap H locs) (hsize : ls.size = c.maxLocals)
    (d0 : decode cc pc = .ok (.new ik, 3)) (d3 : decode cc (pc + 3) = .ok (.dup, 1)) (d4 : decode cc (pc + 4) = .ok (.ldc is, 2)) (d6 : decode cc (pc + 6) = .ok (.invokespecial ic, 3)) (d9 : decode cc (pc + 9) = .ok (.athrow, 1))
    (hout : ∀ x ∈ c.exceptionTable.toList, covers x (pc + 9) = false)
    (hRframes : names.length + 3 < R.frames) (hRlocals : (rest.map fun v => v.category).sum + (13 * (names.length + 1) + 43) ≤ R.locals) (hRcells : cells + 1 ≤ R.cells) (hRslots : slots + 6 ≤ R.slots) (hlocks : meth.locks = false)
    (hx : ∀ t : State, s.vm.Alike t.vm → H.size ≤ t.heap.size → (∀ q : Nat, q < H.size → t.heap[q]? = H[q]?) → XC cls s t)
    (hf : ∀ z ∈ locs, free z.base) (hc : cells + 1 ≤ mc) (hs : slots + 6 ≤ ms) :
    W p l e R s m args below meth c H locs cells slots (vx_MQ below Qc XC args s mc ms free) (F0 m pc ls rest) := by
  intro T hT X
  have htr : e.platform.stackTraces = false := (show e.platform.stackTraces = l.stackTraces by rw [X.admits.platform]).trans hl
  have Y := vx_rebase X (R' := { frames := R.frames, locals := R.locals, cells := 1, slots := 6 }) (Nat.le_refl _) (Nat.le_refl _) hRcells hRslots
  obtain ⟨s', hA⟩ : ∃ z, z = (T.setVm s.vm).setFrames (.invoking m args :: below) := ⟨_, rfl⟩
  rw [← hA] at Y
  have hvm : s'.vm = s.vm := by rw [hA]; rfl
  have hhp : s'.heap = H := by rw [hA]; exact hT
  have hW0 : s.WarmedH s'.vm := by rw [hvm]; exact State.WarmedH.refl s
  have hat' : ∀ w ∈ vx_atS own ic cls names, w.before args s' = true := fun w hw => vx_ot_at hW0 hvm.symm (hgood w (List.mem_cons_of_mem _ (List.mem_cons_of_mem _ hw))) (hat w hw)
  have hk' : (Cond.classLink own ik cls).before args s' = true := vx_ot_at hW0 hvm.symm (hgood _ List.mem_cons_self) hk
  have hini' : (Cond.initialized cls).before args s' = true := vx_ot_at hW0 hvm.symm (hgood _ (List.mem_cons_of_mem _ List.mem_cons_self)) hini
  have hU' : vx_Zq Bundle.tN "UNASSIGNED_STACK" Bundle.steD A s' s'.heap := by rw [hhp]; exact vx_Zq.moved hW0.alike (hU.kept hS.2.1)
  have hN' : vx_Zq Bundle.tN "SUPPRESSED_SENTINEL" Bundle.listD A s' s'.heap := by rw [hhp]; exact vx_Zq.moved hW0.alike (hN.kept hS.2.1)
  have h : ∀ w ∈ Bundle.ownAtoms own ic cls names, w.before args s' = true := vx_own hat' (vx_isRefq hU'.1) (vx_isRefq hN'.1) hU'.2.word hN'.2.word
  have hown' : s'.vm.findClass own = some m.cls := by rw [hvm]; exact hown
  have hins : (Cond.instantiable cls 6).before args s' = true := h _ (by simp [Bundle.ownAtoms])
  obtain ⟨vm₁, cX, kX, hfX, hkX, -, -, X₁, st1⟩ := Y.newCold hexec (own := own) (C := cls) (index := ik) (n := 6) hown' hk' hins hini'
    (g := F0 m pc ls rest) rfl (by rw [hb]; exact d0) (Nat.le_refl _) (Nat.le_refl _)
  generalize hT1 : (T.setVm vm₁).pushCell { cls := cX, slots := kX.instanceTypes.map defaultValue, vm := .none } = T1 at X₁ st1
  have hcat : (Value.ref T.heap.size).category = 1 := rfl
  have hcellA : T1.heap[T.heap.size]? = some (freshCell cX kX) := by rw [← hT1]; exact State.heap_pushCell_size _ _
  have d3' : decode c.code (pc + 3) = .ok (.dup, 1) := by rw [hb]; exact d3
  have d4' : decode c.code (pc + 4) = .ok (.ldc is, 2) := by rw [hb]; exact d4
  have hstr' : vk_R own is text sa s' := vk_R.warm hW0 hstr
  obtain ⟨U, hsteps, hrun, hend, hW, hsame, ce, hce, hO⟩ := X₁.ctorThrowS hexec htr (own := own) (cls := cls) (names := names) (ic := ic) hown' hcls hnames h (fun x hx => nomatch hx) hfX hkX hcellA (by rw [hhp, hT]; exact Nat.le_refl _) (msg := .ref sa) rfl
    (g := { method := m, pc := pc + 6, locals := ls, stack := .ref sa :: .ref T.heap.size :: .ref T.heap.size :: rest, locked := none }) rfl hsize rfl rfl (rest := rest) rfl
    (by rw [hb]; exact d6) (by rw [hb]; exact d9) hout hRframes (by simp only [List.map_cons, List.sum_cons, hcat]; omega) hlocks
  obtain ⟨f1, f2⟩ := vx_frame hsame
  rw [hhp] at f1 f2
  have hWs : s.WarmedH U.vm := State.WarmedH.trans hW0 hW
  have hcl : s.vm.findClass cls = some ce.cls := by
    have h9 := hO.cls
    rw [hvm] at h9
    exact h9
  have hall : s.sameButNew ({ U with vm := s.vm } : State) locs mc ms := by
    subst hA
    obtain ⟨e1, e2⟩ := hsame
    rw [State.setFrames_setFrames] at e1
    have h2 : (T.setVm s.vm).sameButNew ({ U with vm := s.vm } : State) [] (0 + 1) (0 + 6) := ⟨e1, e2⟩
    have h3 := X.same.trans h2
    rw [List.append_nil] at h3
    exact h3.mono hc hs
  refine ⟨U, ?_, .threw T.heap.size, hrun, hend, Or.inr ⟨T.heap.size, rfl, cls, ce, locs, hx U hWs.alike f1 (fun q hq => f2 q hq (fun z hz => nomatch hz)), hce, hO.vm, hcl, hWs, hall, hf⟩⟩
  refine st1 _ ?_
  show Steps p.tables e below (T1.setTop { method := m, pc := pc + 3, locals := ls, stack := .ref T.heap.size :: rest, locked := none }) _
  jvm_step X₁.here [X₁.here.top, hexec, d3', Value.category]
  exact X₁.ldcString hexec (own := own) (text := text) (index := is) (a := sa) hown' hstr'.1 hstr'.2
    (g := { method := m, pc := pc + 4, locals := ls, stack := .ref T.heap.size :: .ref T.heap.size :: rest, locked := none }) rfl d4' _ hsteps
/-- 'throw new E("text")', the text by a wide index -/
theorem vx_throwSW {cc : ByteArray} {pc : Nat} (hexec : p.tables.exec = Jvm.exec) (hb : c.code = cc) (hl : l.stackTraces = false) {own cls text : String} {names : List String} {ik is ic mc ms sa : Nat} {A : Nat → Prop}
    (hown : s.vm.findClass own = some m.cls) (hcls : Bundle.fit cls = true) (hnames : ∀ n ∈ names, Bundle.fit n = true)
    (hk : (Cond.classLink own ik cls).before args s = true) (hini : (Cond.initialized cls).before args s = true) (hstr : vk_R own is text sa s) (hat : ∀ w ∈ vx_atS own ic cls names, w.before args s = true)
    (hgood : ∀ w ∈ Cond.classLink own ik cls :: Cond.initialized cls :: vx_atS own ic cls names, vx_ot w = true)
    (hU : vx_Zq Bundle.tN "UNASSIGNED_STACK" Bundle.steD A s s.heap) (hN : vx_Zq Bundle.tN "SUPPRESSED_SENTINEL" Bundle.listD A s s.heap) (hS : va_S A s.heap H locs) (hsize : ls.size = c.maxLocals)
    (d0 : decode cc pc = .ok (.new ik, 3)) (d3 : decode cc (pc + 3) = .ok (.dup, 1)) (d4 : decode cc (pc + 4) = .ok (.ldc_w is, 3)) (d7 : decode cc (pc + 7) = .ok (.invokespecial ic, 3)) (d10 : decode cc (pc + 10) = .ok (.athrow, 1))
    (hout : ∀ x ∈ c.exceptionTable.toList, covers x (pc + 10) = false)
    (hRframes : names.length + 3 < R.frames) (hRlocals : (rest.map fun v => v.category).sum + (13 * (names.length + 1) + 43) ≤ R.locals) (hRcells : cells + 1 ≤ R.cells) (hRslots : slots + 6 ≤ R.slots) (hlocks : meth.locks = false)
    (hx : ∀ t : State, s.vm.Alike t.vm → H.size ≤ t.heap.size → (∀ q : Nat, q < H.size → t.heap[q]? = H[q]?) → XC cls s t)
    (hf : ∀ z ∈ locs, free z.base) (hc : cells + 1 ≤ mc) (hs : slots + 6 ≤ ms) :
    W p l e R s m args below meth c H locs cells slots (vx_MQ below Qc XC args s mc ms free) (F0 m pc ls rest) := by
  intro T hT X
  have htr : e.platform.stackTraces = false := (show e.platform.stackTraces = l.stackTraces by rw [X.admits.platform]).trans hl
  have Y := vx_rebase X (R' := { frames := R.frames, locals := R.locals, cells := 1, slots := 6 }) (Nat.le_refl _) (Nat.le_refl _) hRcells hRslots
  obtain ⟨s', hA⟩ : ∃ z, z = (T.setVm s.vm).setFrames (.invoking m args :: below) := ⟨_, rfl⟩
  rw [← hA] at Y
  have hvm : s'.vm = s.vm := by rw [hA]; rfl
  have hhp : s'.heap = H := by rw [hA]; exact hT
  have hW0 : s.WarmedH s'.vm := by rw [hvm]; exact State.WarmedH.refl s
  have hat' : ∀ w ∈ vx_atS own ic cls names, w.before args s' = true := fun w hw => vx_ot_at hW0 hvm.symm (hgood w (List.mem_cons_of_mem _ (List.mem_cons_of_mem _ hw))) (hat w hw)
  have hk' : (Cond.classLink own ik cls).before args s' = true := vx_ot_at hW0 hvm.symm (hgood _ List.mem_cons_self) hk
  have hini' : (Cond.initialized cls).before args s' = true := vx_ot_at hW0 hvm.symm (hgood _ (List.mem_cons_of_mem _ List.mem_cons_self)) hini
  have hU' : vx_Zq Bundle.tN "UNASSIGNED_STACK" Bundle.steD A s' s'.heap := by rw [hhp]; exact vx_Zq.moved hW0.alike (hU.kept hS.2.1)
  have hN' : vx_Zq Bundle.tN "SUPPRESSED_SENTINEL" Bundle.listD A s' s'.heap := by rw [hhp]; exact vx_Zq.moved hW0.alike (hN.kept hS.2.1)
  have h : ∀ w ∈ Bundle.ownAtoms own ic cls names, w.before args s' = true := vx_own hat' (vx_isRefq hU'.1) (vx_isRefq hN'.1) hU'.2.word hN'.2.word
  have hown' : s'.vm.findClass own = some m.cls := by rw [hvm]; exact hown
  have hins : (Cond.instantiable cls 6).before args s' = true := h _ (by simp [Bundle.ownAtoms])
  obtain ⟨vm₁, cX, kX, hfX, hkX, -, -, X₁, st1⟩ := Y.newCold hexec (own := own) (C := cls) (index := ik) (n := 6) hown' hk' hins hini'
    (g := F0 m pc ls rest) rfl (by rw [hb]; exact d0) (Nat.le_refl _) (Nat.le_refl _)
  generalize hT1 : (T.setVm vm₁).pushCell { cls := cX, slots := kX.instanceTypes.map defaultValue, vm := .none } = T1 at X₁ st1
  have hcat : (Value.ref T.heap.size).category = 1 := rfl
  have hcellA : T1.heap[T.heap.size]? = some (freshCell cX kX) := by rw [← hT1]; exact State.heap_pushCell_size _ _
  have d3' : decode c.code (pc + 3) = .ok (.dup, 1) := by rw [hb]; exact d3
  have d4' : decode c.code (pc + 4) = .ok (.ldc_w is, 3) := by rw [hb]; exact d4
  have hstr' : vk_R own is text sa s' := vk_R.warm hW0 hstr
  obtain ⟨U, hsteps, hrun, hend, hW, hsame, ce, hce, hO⟩ := X₁.ctorThrowS hexec htr (own := own) (cls := cls) (names := names) (ic := ic) hown' hcls hnames h (fun x hx => nomatch hx) hfX hkX hcellA (by rw [hhp, hT]; exact Nat.le_refl _) (msg := .ref sa) rfl
    (g := { method := m, pc := pc + 7, locals := ls, stack := .ref sa :: .ref T.heap.size :: .ref T.heap.size :: rest, locked := none }) rfl hsize rfl rfl (rest := rest) rfl
    (by rw [hb]; exact d7) (by rw [hb]; exact d10) hout hRframes (by simp only [List.map_cons, List.sum_cons, hcat]; omega) hlocks
  obtain ⟨f1, f2⟩ := vx_frame hsame
  rw [hhp] at f1 f2
  have hWs : s.WarmedH U.vm := State.WarmedH.trans hW0 hW
  have hcl : s.vm.findClass cls = some ce.cls := by
    have h9 := hO.cls
    rw [hvm] at h9
    exact h9
  have hall : s.sameButNew ({ U with vm := s.vm } : State) locs mc ms := by
    subst hA
    obtain ⟨e1, e2⟩ := hsame
    rw [State.setFrames_setFrames] at e1
    have h2 : (T.setVm s.vm).sameButNew ({ U with vm := s.vm } : State) [] (0 + 1) (0 + 6) := ⟨e1, e2⟩
    have h3 := X.same.trans h2
    rw [List.append_nil] at h3
    exact h3.mono hc hs
  refine ⟨U, ?_, .threw T.heap.size, hrun, hend, Or.inr ⟨T.heap.size, rfl, cls, ce, locs, hx U hWs.alike f1 (fun q hq => f2 q hq (fun z hz => nomatch hz)), hce, hO.vm, hcl, hWs, hall, hf⟩⟩
  refine st1 _ ?_
  show Steps p.tables e below (T1.setTop { method := m, pc := pc + 3, locals := ls, stack := .ref T.heap.size :: rest, locked := none }) _
  jvm_step X₁.here [X₁.here.top, hexec, d3', Value.category]
  exact X₁.ldcStringW hexec (own := own) (text := text) (index := is) (a := sa) hown' hstr'.1 hstr'.2
    (g := { method := m, pc := pc + 4, locals := ls, stack := .ref T.heap.size :: .ref T.heap.size :: rest, locked := none }) rfl d4' _ hsteps
end Ends
section Bodies
variable {l : Launch}
theorem vx_ofW {y : MethodName} {ws ws' : List Cond} {rm : Room} {Pc : Array Value → State → Prop} {Qc : Array Value → State → Outcome → State → Prop} {XC : String → State → State → Prop} {mc ms : Nat} {free : Addr → Prop} {cc : ByteArray} {maxL : Nat} {ret : Option FieldType}
    (hy : plainName y.cls = true) (hw : ws = Cond.code y cc maxL ret :: ws')
    (body : ∀ p e s m args below meth c s₁, BodyLoose p l y (headSpec ws rm) cc maxL ret e s m args below meth c s₁ → c.maxLocals = maxL → (∀ x ∈ c.exceptionTable.toList, False) → Pc args s →
      W p l e (headSpec ws rm).room s m args below meth c s.heap [] 0 0 (vx_MQ below Qc XC args s mc ms free) (entryFrame m args maxL)) : vx_Met l y ws rm Pc Qc XC mc ms free := by
  refine MetFree.of_bodyS (code := cc) (maxLocals := maxL) (ret := ret) hy ?_ ?_
  · intro args s m h hn
    obtain ⟨meth, c, h1, h2, h3, h4, h5, h6, -, -⟩ := Cond.code_spec hn (atoms_spec (ws := ws) h _ (by rw [hw]; exact List.mem_cons_self))
    exact ⟨meth, c, h1, h2, h3, h4, h5, h6⟩
  · intro p e s m args below meth c s₁ B hml hP _
    have hh0 : s₁.heap = s.heap := by rw [B.state]; rfl
    have ht : ∀ x ∈ c.exceptionTable.toList, False := by
      obtain ⟨meth9, c9, h1, h2, -, -, -, -, h7, -⟩ := Cond.code_spec B.named (atoms_spec (ws := ws) B.pre _ (by rw [hw]; exact List.mem_cons_self))
      cases Option.some.inj (h1.symm.trans B.method)
      cases Option.some.inj (h2.symm.trans (Stand.of_body B).code)
      intro x hx
      rw [Array.isEmpty_iff.mp h7] at hx
      cases hx
    obtain ⟨t, a1, o, b1, b2, b3⟩ := body p e s m args below meth c s₁ B hml ht hP s₁ hh0 (Stand.of_body B)
    exact ⟨t, o, a1, b1, b2, b3⟩
/-- the table of a body with handlers -/
theorem vx_table {p : Program} {x y : MethodName} {S : Spec} {cc bytes : ByteArray} {maxL maxL' : Nat} {ret ret' : Option FieldType} {e : Env} {s s₁ : State} {m : MethodId} {args : Array Value} {below : List Frame} {meth : Method} {c : Code} {hh : List (Nat × Nat × Nat × Nat)}
    (B : BodyLoose p l y S cc maxL ret e s m args below meth c s₁) (h : (Cond.codeWith y bytes maxL' ret' hh).before args s = true) : c.exceptionTable.toList = tableOf hh := by
  obtain ⟨m9, meth9, c9, hn9, h1, h2, -, -, h6, -⟩ := Cond.codeWith_spec h
  cases Option.some.inj (hn9.symm.trans B.named)
  cases Option.some.inj (h1.symm.trans B.method)
  cases Option.some.inj (h2.symm.trans (Stand.of_body B).code)
  rw [← h6, table_eq]
end Bodies
end VXA
/-! ===== END ===== -/
/-! ===== BEGIN a static call of a method with an exception table ===== -/
section VXS
variable {p : Program} {l : Launch} {e : Env} {R : Room} {s : State} {m : MethodId} {args : Array Value} {below : List Frame} {meth : Method} {c : Code} {T : State} {H : Heap} {locs : List Loc} {cells slots : Nat}
abbrev vx_CSW (R : Room) (s : State) (args : Array Value) (own : String) (index : Nat) (y : MethodName) (bytes : ByteArray) (maxL : Nat) (ret : Option FieldType) (hh : List (Nat × Nat × Nat × Nat)) (ws : List Cond) (rm : Room) (mc ms n : Nat) : Prop :=
  (rm.cells = mc ∧ rm.slots = ms ∧ rm.frames + 1 ≤ R.frames ∧ 8 + (maxL + 11) + rm.locals ≤ R.locals ∧ (∀ w ∈ ws, ∀ (a' : Array Value) (U : State), s.WarmedH U.vm → w.before a' U = true) ∧ Cond.codeWith y bytes maxL ret hh ∈ ws) ∧
  (Cond.codeWith y bytes maxL ret hh).before args s = true ∧ (Cond.initialized y.cls).before args s = true ∧ (y.cls ≠ "java/lang/invoke/MethodHandle" ∧ y.cls ≠ "java/lang/invoke/VarHandle") ∧
  (∀ sig, parseMethodDescriptor y.desc = some sig → n = sig.parameters.length) ∧ (Cond.methodLink own index y).before args s = true ∧ (Cond.static y).before args s = true
theorem vx_cwSW {own : String} {index maxL mc ms : Nat} {y : MethodName} {bytes : ByteArray} {ret : Option FieldType} {hh : List (Nat × Nat × Nat × Nat)} {Ts ws ws' : List Cond} {rm : Room} (n : Nat) (ht : ∀ w ∈ Ts, w.before args s = true) (hT : GoodIn Ts (va_wsS own index y ws)) (hw : ws = Cond.codeWith y bytes maxL ret hh :: ws') (hrc : rm.cells = mc) (hrs : rm.slots = ms)
    (hd : y.cls ≠ "java/lang/invoke/MethodHandle" ∧ y.cls ≠ "java/lang/invoke/VarHandle" ∧ (parseMethodDescriptor y.desc).map (fun d => d.parameters.length) = some n) (hR : rm.frames + 1 ≤ R.frames ∧ 8 + (maxL + 11) + rm.locals ≤ R.locals) :
    vx_CSW R s args own index y bytes maxL ret hh ws rm mc ms n := by
  have ok : ∀ w ∈ va_wsS own index y ws, w.before args s = true := fun w h => ht w (hT w h).1
  have hG : GoodIn Ts ws := fun w h => hT w (by unfold va_wsS; exact List.mem_append_right _ h)
  have hc : Cond.codeWith y bytes maxL ret hh ∈ ws := by rw [hw]; exact List.mem_cons_self
  refine ⟨⟨hrc, hrs, hR.1, hR.2, pay_in ht hG, hc⟩, ht _ (hG _ hc).1, ok _ (by simp [va_wsS]), ⟨hd.1, hd.2.1⟩, fun sig h => ?_, ok _ (by simp [va_wsS]), ok _ (by simp [va_wsS])⟩
  have h2 := hd.2.2
  rw [h] at h2
  exact (Option.some.inj h2).symm
theorem vx_callSW (X : Stand p l e R s m args below meth c T locs cells slots) (hexec : p.tables.exec = Jvm.exec) {own : String} {index : Nat} {y : MethodName} {bytes : ByteArray} {maxL : Nat} {ret : Option FieldType} {hh : List (Nat × Nat × Nat × Nat)}
    (hown : s.vm.findClass own = some m.cls) (hlink : (Cond.methodLink own index y).before args s = true) (hstat : (Cond.static y).before args s = true) (hinit : (Cond.initialized y.cls).before args s = true)
    (hcode : (Cond.codeWith y bytes maxL ret hh).before args s = true) (hy : y.cls ≠ "java/lang/invoke/MethodHandle" ∧ y.cls ≠ "java/lang/invoke/VarHandle")
    {W9 : Nat} {Pre : Pt → Array Value → Prop} {Post : Pt → Array Value → Option Value → Pt → Prop} (hK : Back l R p e below s args y 3 W9 Pre Post)
    {g : JFrame} (hg : g.method = m) (hsize : g.locals.size = c.maxLocals) {argsL rest : List Value} (hlen : ∀ sig, parseMethodDescriptor y.desc = some sig → argsL.length = sig.parameters.length)
    (hstack : g.stack = argsL.reverse ++ rest) (hW : 2 * g.monitorRoom + (rest.map fun v => v.category).sum ≤ W9) (hdg : decode c.code g.pc = .ok (.invokestatic index, 3))
    (hpre : ∀ vm₁, s.WarmedH vm₁ → Pre ⟨T.setVm vm₁, locs, cells, slots⟩ argsL.toArray) :
    ∃ (v : Option Value) (vm₁ : Vm) (B : Pt), s.WarmedH vm₁ ∧ Stand p l e R s m args below meth c B.U B.locs B.cells B.slots ∧ Post ⟨T.setVm vm₁, locs, cells, slots⟩ argsL.toArray v B ∧
      ∀ target, Steps p.tables e below (B.U.setTop { g with pc := g.pc + 3, stack := v.toList ++ rest }) target → Steps p.tables e below (T.setTop g) target := by
  obtain ⟨mk, methM, cM, hnamed, hmethM, -, -, -, -, -, -, hsigM⟩ := Cond.codeWith_spec hcode
  have hstatic : methM.isStatic = true := Cond.static_spec hnamed hmethM hstat
  obtain ⟨kP, hkP, -⟩ := className_of_methodNamed hnamed
  have hinitP : kP.init = .initialized := Cond.initialized_spec (findClass_of_methodNamed hnamed) hkP hinit
  obtain ⟨vm₁, X₁, hstep₁⟩ := X.invokestatic hexec hown hlink hnamed hmethM hstatic hkP hinitP hy (g := g) hg (argsL := argsL) (rest := rest) (hlen _ hsigM) hstack hdg
  obtain ⟨v, B, X', hpost, hsteps⟩ := hK m meth c ⟨T.setVm vm₁, locs, cells, slots⟩ { g with stack := rest } (.invokestatic index) mk argsL.toArray X₁ hg hsize hdg hW (X₁.named hnamed) (hpre vm₁ X₁.warmed)
  exact ⟨v, vm₁, B, X₁.warmed, X', hpost, fun target h => hstep₁ _ fun acts => by rw [doInvoke_state]; exact hsteps.trans h⟩
theorem vx_runSW {y : MethodName} {bytes cc : ByteArray} {maxL nL mc ms n index : Nat} {ret : Option FieldType} {hh : List (Nat × Nat × Nat × Nat)} {ws : List Cond} {rm : Room} {Pc : Array Value → State → Prop} {Qc : Array Value → State → Outcome → State → Prop} {free : Addr → Prop} {Ts : List Cond} {own : String} {As rest : List Value} {g : JFrame}
    (S : CallFix p m c cc nL s args Ts own) (hM : Met l y ws rm Pc Qc mc ms free) (cw : vx_CSW R s args own index y bytes maxL ret hh ws rm mc ms n) (hp : PreS s H Pc As)
    (hg : g.method = m) (hn : As.length = n) (hsize : g.locals.size = nL) (hstack : g.stack = As.reverse ++ rest) (hW : 2 * g.monitorRoom + (rest.map fun v => v.category).sum ≤ 8) (hdg : decode cc g.pc = .ok (.invokestatic index, 3)) (hf : cells + mc ≤ R.cells ∧ slots + ms ≤ R.slots) :
    va_Run p l e R s m args below meth c H locs cells slots mc ms g rest (Qc As.toArray) (free) := by
  obtain ⟨⟨hrc, hrs, hfr, hlo, hws, hcw⟩, hcode, hini, hy, hlen, hl, hstt⟩ := cw
  have hK : Back l R p e below s args y 3 8 (PreOf R mc ms Pc) (PostOf Qc mc ms free) := va_backW (hh := hh) (bytes := bytes) (maxL := maxL) (ret := ret) hM hp.1 hrc hrs hfr hlo hws hcw (fun a' U hW => word_at hW (Or.inl (by first | rfl | simp [Cond.onTables, Cond.keeps, Cond.steady])) hini)
  obtain ⟨hx, hb, hml, ho, -⟩ := S
  intro T hT X
  obtain ⟨v, vm₁, ⟨U', l2, c2, s2⟩, hW₁, X', ⟨g', mk, t, L, e1, e2, hq, h1, hL, h2, h3⟩, st⟩ := vx_callSW X hx (hh := hh) (bytes := bytes) (maxL := maxL) (ret := ret) ho hl hstt hini hcode hy hK hg (hsize.trans hml.symm) (argsL := As) (rest := rest) (fun sig h => hn.trans (hlen sig h)) hstack hW (by rw [hb]; exact hdg)
    (fun vm₁ hW₁ => ⟨hf.1, hf.2, hp.2 (T.setVm vm₁) hT hW₁⟩)
  dsimp only [Pt.U, Pt.locs, Pt.cells, Pt.slots] at X' e1 e2 h1 h2 h3 st
  subst h1; subst h2; subst h3
  exact ⟨v, (T.setVm vm₁).calling g' mk As.toArray, t, U', L, hT, X', hL, e1, e2, hq, st⟩
/-- not caught here, past rows that name other classes: it goes on to the caller -/
theorem vx_outP {p : Program} {l : Launch} {e : Env} {R : Room} {s : State} {m : MethodId} {args : Array Value} {below : List Frame} {meth : Method} {c : Code} {H : Heap} {locs : List Loc} {cells slots : Nat} {free : Addr → Prop} {ls : Array Slot} {rest : List Value} {Qc : Array Value → State → Outcome → State → Prop} {XC : String → State → State → Prop}
    {pc : Nat} {own E : String} {ce : Cell} {q : Addr} {mc ms : Nat} (hown : s.vm.findClass own = some m.cls) (hlocks : meth.locks = false)
    (hpass : ∀ z ∈ c.exceptionTable.toList, covers z pc = false ∨ (z.catchType ≠ 0 ∧ ∃ nm : String, (Cond.classLink own z.catchType nm).before args s = true ∧ va_Nc E nm s)) (hcell : H[q]? = some ce) (hv : ce.vm = .none) (hcl : s.vm.findClass E = some ce.cls)
    (hx : ∀ t : State, t.heap = H → s.vm.Alike t.vm → XC E s t) (hf : ∀ z ∈ locs, free z.base) (hc : cells ≤ mc) (hs : slots ≤ ms) :
    vx_W p l e R s m args below meth c H locs cells slots (vx_MQ below Qc XC args s mc ms free) (F0 m pc ls rest) q := by
  intro T hT X
  have hpl : e.platform.magicAccessors = ({} : Platform).magicAccessors := by rw [X.admits.platform]
  obtain ⟨vm', hW', X', st⟩ := X.outThrough hlocks q (g := F0 m pc ls rest) rfl rfl rfl (cell := ce) (by rw [hT]; exact hcell) (by rw [hv]; rfl)
    (by obtain ⟨k9, h9, -⟩ := Vm.findClass_spec hcl; exact ⟨k9, h9⟩) (fun z hz => by
      rcases hpass z hz with h | ⟨hz0, nm, hl1, hn1⟩
      · exact Or.inl h
      · obtain ⟨c6, hc6, hcl6⟩ := Cond.classLink_spec hown hl1 e.platform hpl
        obtain ⟨a8, b8, h1, h2, h3⟩ := hn1
        cases Option.some.inj (h1.symm.trans hcl)
        cases Option.some.inj (h2.symm.trans hc6)
        exact Or.inr ⟨hz0, _, hcl6, h3⟩)
  obtain ⟨g₀, hfr⟩ := X'.frames_eq
  have hcell9 : ((T.setVm vm').setFrames (.throwing q :: below)).heap[q]? = some ce := by
    show T.heap[q]? = some ce
    rw [hT]; exact hcell
  have hend : Ended ((T.setVm vm').setFrames (.throwing q :: below)) below (.threw q) := State.frames_setFrames _ (State.cur_lt_of_frames hfr)
  refine ⟨(T.setVm vm').setFrames (.throwing q :: below), ?_, .threw q, X'.here.running, hend, Or.inr ⟨q, rfl, E, ce, locs, hx _ hT (X'.ends _).1.alike, hcell9, hv, hcl, (X'.ends _).1, (X'.ends _).2.mono hc hs, hf⟩⟩
  rw [X.pushThrowing_eq]
  exact st
/-- a thing of a world lies in the heap -/
theorem vx_lt {D : va_G} {cl : List vw_C} {ws : va_W} {H1 : Heap} (h : va_P D cl ws H1) {k : Nat} {q : Nat × va_E} (hk : ws[k]? = some q) : q.1 < H1.size := (h k q hk).lt
end VXS
/-! ===== END ===== -/
/-! ===== BEGIN methods with a table of their own: called by a name, returning or throwing ===== -/
section VXH
/-! vx_backW, vx_callVX, vx_callSX, vx_callVW, vx_runVW, vx_runVX, vx_runSX, vx_ofWH follow the same proofs as their sisters above (Free/Laws.lean, Shelf42/LK1.lean); vx_outP calls Shelf42/NT130.lean (outThrough). -/
section
variable {l : Launch} {R : Room} {p : Program} {e : Env} {below : List Frame} {s : State} {sargs : Array Value} {y : MethodName} {len W9 : Nat}
theorem vx_backW {ws : List Cond} {rm : Room} {Pc : Array Value → State → Prop} {Qc : Array Value → State → Outcome → State → Prop} {XC : String → State → State → Prop} {mc ms : Nat} {free : Addr → Prop} {bytes : ByteArray} {maxL : Nat} {ret : Option FieldType} {hh : List (Nat × Nat × Nat × Nat)}
    (hM : vx_Met l y ws rm Pc Qc XC mc ms free) (hblind : FrameBlind Pc) (hrc : rm.cells = mc) (hrs : rm.slots = ms)
    (hframes : rm.frames + 1 ≤ R.frames) (hlocals : W9 + (maxL + 11) + rm.locals ≤ R.locals)
    (hws : ∀ w ∈ ws, ∀ a' U, s.WarmedH U.vm → w.before a' U = true) (hcode : Cond.codeWith y bytes maxL ret hh ∈ ws) (hinit : ∀ a' U, s.WarmedH U.vm → (Cond.initialized y.cls).before a' U = true) :
    vx_Back l R p e below s sargs y len W9 (PreOf R mc ms Pc) (PostOf Qc mc ms free) (vx_Post XC mc ms free) := by
  intro m meth c A g ig mk a X hg hsize hdg hW hn hp
  have h1 : (headSpec ws rm).pre.before a A.U = true := atoms_intro fun w hw => hws w hw _ _ X.warmed
  have h2 : (Cond.codeWith y bytes maxL ret hh).before a A.U = true := hws _ hcode _ _ X.warmed
  have h3 : (Cond.initialized y.cls).before a A.U = true := hinit _ _ X.warmed
  have h4 : A.cells + (headSpec ws rm).room.cells ≤ R.cells := by rw [show (headSpec ws rm).room.cells = mc from hrc]; exact hp.1
  have h5 : A.slots + (headSpec ws rm).room.slots ≤ R.slots := by rw [show (headSpec ws rm).room.slots = ms from hrs]; exact hp.2.1
  have hPc : Pc a (A.U.calling g mk a) := hblind _ _ _ _ hp.2.2
  obtain ⟨U, Ls, c0, s0⟩ := A
  dsimp only [Pt.U, Pt.locs, Pt.cells, Pt.slots] at h1 h2 h3 h4 h5 X hn hPc ⊢
  obtain ⟨m9, methY, cY, hn9, hmY, hcY, -, hlY, -⟩ := Cond.codeWith_spec h2
  cases Option.some.inj (hn9.symm.trans hn)
  obtain ⟨kY, hkY, -⟩ := className_of_methodNamed hn
  have hinitY : kY.init = .initialized := Cond.initialized_spec (findClass_of_methodNamed hn) hkY h3
  have h : At U g.method c below := by rw [hg]; exact X.here
  have hlocals9 : W9 + (maxL + 11) + (headSpec ws rm).room.locals ≤ R.locals := hlocals
  have happ : (headSpec ws rm).appliesLoose y e.platform (U.calling g mk a) = true :=
    Spec.appliesLoose_calling (g := g) h hdg hn hkY hinitY
      (X.room_calling (g := g) (R' := (headSpec ws rm).room) hsize hmY hcY hframes (by rw [hlY]; omega) h4 h5) h1
  obtain ⟨mid, hmid⟩ := h.above
  have hfr : (U.setTop g).frames = (.java g :: mid) ++ below := by rw [State.frames_setTop' g h.top, hmid]; rfl
  obtain ⟨o, s₂, hsteps, -, hend, hq⟩ := Steps.callFree hM p X.admits X.cas X.clock (acts := []) hfr happ hPc trivial
  have hq' : vx_Q Qc XC mc ms free a (U.calling g mk a) o s₂ := hq
  rw [State.frames_setTop' g h.top] at hend
  obtain ⟨g₀, hg0⟩ := Option.isSome_iff_exists.mp h.top
  obtain ⟨r, hr⟩ := State.topJava?_eq_some.mp hg0
  have hr' : (({ U with heap := s₂.heap, slotsUsed := s₂.slotsUsed } : State).setVm s₂.vm).frames = .java g₀ :: r := hr
  rcases hq' with ⟨hqc, L, hfe, hL⟩ | ⟨q, rfl, E, ce, L, hx, hce, hcv, hcl, hW₂, hsm, hL⟩
  · obtain ⟨⟨v, rfl⟩, hW₂, e2, q2, q3, q4, q5, q6⟩ := id hfe
    have e3 : s₂ = ({ (U.calling g mk a).setFrames s₂.frames with heap := s₂.heap, slotsUsed := s₂.slotsUsed } : State).setVm s₂.vm := by
      have : s₂ = ({ s₂ with vm := (U.calling g mk a).vm } : State).setVm s₂.vm := rfl
      rw [e2] at this
      exact this
    obtain ⟨c₂, i₂, len₂, hc₂, hd₂, hf₂⟩ := hend
    have hW' : U.WarmedH s₂.vm := hW₂
    have hcc : c₂ = c := by
      have h1 : s₂.code? g.method = U.code? g.method := by
        rw [State.code?_eq, State.code?_eq, hW'.alike.method?]
      exact Option.some.inj (hc₂.symm.trans (h1.trans h.code))
    subst hcc
    have hlen : len₂ = len := by rw [hdg] at hd₂; cases hd₂; rfl
    subst hlen
    have hs₂ : s₂ = (({ U with heap := s₂.heap, slotsUsed := s₂.slotsUsed } : State).setVm s₂.vm).setTop { g with pc := g.pc + len₂, stack := v.toList ++ g.stack } := by
      refine e3.trans ?_
      rw [hf₂, State.calling_eq h.top, State.setFrames_setFrames, State.setTop_of_frames _ hr', hr]
      rfl
    have hsame : U.sameButNew ({ U with heap := s₂.heap, slotsUsed := s₂.slotsUsed } : State) L mc ms := by
      refine ⟨?_, q2, q3, q4, q5, q6⟩
      obtain ⟨t, ht, -⟩ := State.frames_cons hr
      show ({ U with heap := s₂.heap, slotsUsed := s₂.slotsUsed } : State) = { U.setFrames U.frames with heap := s₂.heap, slotsUsed := s₂.slotsUsed }
      rw [State.setFrames_self ht]
    subst hg
    refine Or.inl ⟨v, ⟨(({ U with heap := s₂.heap, slotsUsed := s₂.slotsUsed } : State).setVm s₂.vm), Ls ++ L, c0 + mc, s0 + ms⟩,
      ⟨X.admits, X.cas, X.clock, X.frames, X.room, X.hears, X.method, X.code, (X.here.setHeapUsed s₂.heap s₂.slotsUsed).setVm hW'.alike, X.tail, State.WarmedH.trans X.warmed hW', X.limits, X.bytes, X.same.trans (hsame.setVm s.vm)⟩,
      ⟨g, mk, s₂, L, rfl, rfl, hqc, rfl, hL, rfl, rfl⟩, ?_⟩
    show Steps p.tables e below _ ((({ U with heap := s₂.heap, slotsUsed := s₂.slotsUsed } : State).setVm s₂.vm).setTop { g with pc := g.pc + len₂, stack := v.toList ++ g.stack })
    rw [← hs₂]
    exact hsteps
  · obtain ⟨e2, q2, q3, q4, q5, q6⟩ := id hsm
    have e3 : s₂ = ({ (U.calling g mk a).setFrames s₂.frames with heap := s₂.heap, slotsUsed := s₂.slotsUsed } : State).setVm s₂.vm := by
      have : s₂ = ({ s₂ with vm := (U.calling g mk a).vm } : State).setVm s₂.vm := rfl
      rw [e2] at this
      exact this
    have hf₂ : s₂.frames = .throwing q :: .java g :: U.frames.tail := hend
    have hW' : U.WarmedH s₂.vm := hW₂
    have hs₂ : s₂ = ((({ U with heap := s₂.heap, slotsUsed := s₂.slotsUsed } : State).setVm s₂.vm).setTop g).pushFrame (.throwing q) := by
      refine e3.trans ?_
      rw [hf₂, State.calling_eq h.top, State.setFrames_setFrames, State.pushFrame, State.frames_setTop _ hr', State.setTop_of_frames _ hr', State.setFrames_setFrames, hr]
      rfl
    have hsame : U.sameButNew ({ U with heap := s₂.heap, slotsUsed := s₂.slotsUsed } : State) L mc ms := by
      refine ⟨?_, q2, q3, q4, q5, q6⟩
      obtain ⟨t, ht, -⟩ := State.frames_cons hr
      show ({ U with heap := s₂.heap, slotsUsed := s₂.slotsUsed } : State) = { U.setFrames U.frames with heap := s₂.heap, slotsUsed := s₂.slotsUsed }
      rw [State.setFrames_self ht]
    subst hg
    refine Or.inr ⟨q, ⟨(({ U with heap := s₂.heap, slotsUsed := s₂.slotsUsed } : State).setVm s₂.vm), Ls ++ L, c0 + mc, s0 + ms⟩,
      ⟨X.admits, X.cas, X.clock, X.frames, X.room, X.hears, X.method, X.code, (X.here.setHeapUsed s₂.heap s₂.slotsUsed).setVm hW'.alike, X.tail, State.WarmedH.trans X.warmed hW', X.limits, X.bytes, X.same.trans (hsame.setVm s.vm)⟩,
      ⟨g, mk, s₂, L, E, ce, rfl, rfl, hx, hce, hcv, hcl, rfl, hL, rfl, rfl⟩, ?_⟩
    show Steps p.tables e below _ (((({ U with heap := s₂.heap, slotsUsed := s₂.slotsUsed } : State).setVm s₂.vm).setTop g).pushFrame (.throwing q))
    rw [← hs₂]
    exact hsteps
end
variable {p : Program} {l : Launch} {e : Env} {R : Room} {s : State} {m : MethodId} {args : Array Value} {below : List Frame} {meth : Method} {c : Code} {T : State} {H : Heap} {locs : List Loc} {cells slots : Nat}
theorem vx_callVX (X : Stand p l e R s m args below meth c T locs cells slots) (hexec : p.tables.exec = Jvm.exec) {own C : String} {index : Nat} {y : MethodName} {bytes : ByteArray} {maxL : Nat} {ret : Option FieldType} {hh : List (Nat × Nat × Nat × Nat)}
    (hown : s.vm.findClass own = some m.cls) (hlink : (Cond.methodLink own index y).before args s = true) (hinst : (Cond.instanceMethod y).before args s = true) (hsel : (Cond.selects C y y).before args s = true)
    (hcode : (Cond.codeWith y bytes maxL ret hh).before args s = true) (hy : y.cls ≠ "java/lang/invoke/MethodHandle" ∧ y.cls ≠ "java/lang/invoke/VarHandle")
    {W9 : Nat} {Pre : Pt → Array Value → Prop} {Post : Pt → Array Value → Option Value → Pt → Prop} {PostX : Pt → Array Value → Addr → Pt → Prop} (hK : vx_Back l R p e below s args y 3 W9 Pre Post PostX)
    {b : Addr} {cellB : Cell} (hcell : T.heap[b]? = some cellB) (hobj : cellB.vm.isStatics = false) (hcls : s.vm.findClass C = some cellB.cls)
    {g : JFrame} (hg : g.method = m) (hsize : g.locals.size = c.maxLocals) {argsL rest : List Value} (hlen : ∀ sig, parseMethodDescriptor y.desc = some sig → argsL.length = sig.parameters.length)
    (hstack : g.stack = argsL.reverse ++ .ref b :: rest) (hW : 2 * g.monitorRoom + (rest.map fun v => v.category).sum ≤ W9) (hdg : decode c.code g.pc = .ok (.invokevirtual index, 3))
    (hpre : ∀ vm₁, s.WarmedH vm₁ → Pre ⟨T.setVm vm₁, locs, cells, slots⟩ (Value.ref b :: argsL).toArray) :
    (∃ (v : Option Value) (vm₁ : Vm) (B : Pt), s.WarmedH vm₁ ∧ Stand p l e R s m args below meth c B.U B.locs B.cells B.slots ∧ Post ⟨T.setVm vm₁, locs, cells, slots⟩ (Value.ref b :: argsL).toArray v B ∧
      ∀ target, Steps p.tables e below (B.U.setTop { g with pc := g.pc + 3, stack := v.toList ++ rest }) target → Steps p.tables e below (T.setTop g) target) ∨
    (∃ (q : Addr) (vm₁ : Vm) (B : Pt), s.WarmedH vm₁ ∧ Stand p l e R s m args below meth c B.U B.locs B.cells B.slots ∧ PostX ⟨T.setVm vm₁, locs, cells, slots⟩ (Value.ref b :: argsL).toArray q B ∧
      Steps p.tables e below (T.setTop g) ((B.U.setTop { g with stack := rest }).pushFrame (.throwing q))) := by
  obtain ⟨mk, methM, hnamed, hmethM, hstM, habM⟩ := Cond.instanceMethod_spec hinst
  obtain ⟨m8, methM', cM, hn8, hmethM', -, -, -, -, -, -, hsigM⟩ := Cond.codeWith_spec hcode
  cases Option.some.inj (hn8.symm.trans hnamed)
  cases hmethM.symm.trans hmethM'
  obtain ⟨c2, r2, m2, q1, q2, q3, q4, kP, hkP, hkPi⟩ := Cond.selects_spec hsel
  cases hcls.symm.trans q1
  cases (State.methodFound?_of_named hnamed hy).symm.trans q2
  cases hnamed.symm.trans q3
  have hselP : selectMethod e.platform s.vm cellB.cls mk = .method mk := by rw [Launch.admits_selectMethod X.admits]; exact q4
  obtain ⟨vm₁, X₁, hstep₁⟩ := X.invokevirtual hexec hown hlink hnamed hmethM hstM hkP hkPi hy (a := b) (cell := cellB) hcell
    (fun z h => by rw [h] at hobj; cases hobj) hselP hmethM habM hkP hkPi (g := g) hg (argsL := argsL) (rest := rest) (hlen _ hsigM) hstack hdg
  rcases hK m meth c ⟨T.setVm vm₁, locs, cells, slots⟩ { g with stack := rest } (.invokevirtual index) mk (Value.ref b :: argsL).toArray X₁ hg hsize hdg hW (X₁.named hnamed) (hpre vm₁ X₁.warmed) with ⟨v, B, X', hpost, hsteps⟩ | ⟨q, B, X', hpost, hsteps⟩
  · exact Or.inl ⟨v, vm₁, B, X₁.warmed, X', hpost, fun target h => hstep₁ _ fun acts => by rw [doInvoke_state]; exact hsteps.trans h⟩
  · exact Or.inr ⟨q, vm₁, B, X₁.warmed, X', hpost, hstep₁ _ fun acts => by rw [doInvoke_state]; exact hsteps⟩
theorem vx_callSX (X : Stand p l e R s m args below meth c T locs cells slots) (hexec : p.tables.exec = Jvm.exec) {own : String} {index : Nat} {y : MethodName} {bytes : ByteArray} {maxL : Nat} {ret : Option FieldType} {hh : List (Nat × Nat × Nat × Nat)}
    (hown : s.vm.findClass own = some m.cls) (hlink : (Cond.methodLink own index y).before args s = true) (hstat : (Cond.static y).before args s = true) (hinit : (Cond.initialized y.cls).before args s = true)
    (hcode : (Cond.codeWith y bytes maxL ret hh).before args s = true) (hy : y.cls ≠ "java/lang/invoke/MethodHandle" ∧ y.cls ≠ "java/lang/invoke/VarHandle")
    {W9 : Nat} {Pre : Pt → Array Value → Prop} {Post : Pt → Array Value → Option Value → Pt → Prop} {PostX : Pt → Array Value → Addr → Pt → Prop} (hK : vx_Back l R p e below s args y 3 W9 Pre Post PostX)
    {g : JFrame} (hg : g.method = m) (hsize : g.locals.size = c.maxLocals) {argsL rest : List Value} (hlen : ∀ sig, parseMethodDescriptor y.desc = some sig → argsL.length = sig.parameters.length)
    (hstack : g.stack = argsL.reverse ++ rest) (hW : 2 * g.monitorRoom + (rest.map fun v => v.category).sum ≤ W9) (hdg : decode c.code g.pc = .ok (.invokestatic index, 3))
    (hpre : ∀ vm₁, s.WarmedH vm₁ → Pre ⟨T.setVm vm₁, locs, cells, slots⟩ argsL.toArray) :
    (∃ (v : Option Value) (vm₁ : Vm) (B : Pt), s.WarmedH vm₁ ∧ Stand p l e R s m args below meth c B.U B.locs B.cells B.slots ∧ Post ⟨T.setVm vm₁, locs, cells, slots⟩ argsL.toArray v B ∧
      ∀ target, Steps p.tables e below (B.U.setTop { g with pc := g.pc + 3, stack := v.toList ++ rest }) target → Steps p.tables e below (T.setTop g) target) ∨
    (∃ (q : Addr) (vm₁ : Vm) (B : Pt), s.WarmedH vm₁ ∧ Stand p l e R s m args below meth c B.U B.locs B.cells B.slots ∧ PostX ⟨T.setVm vm₁, locs, cells, slots⟩ argsL.toArray q B ∧
      Steps p.tables e below (T.setTop g) ((B.U.setTop { g with stack := rest }).pushFrame (.throwing q))) := by
  obtain ⟨mk, methM, cM, hnamed, hmethM, -, -, -, -, -, -, hsigM⟩ := Cond.codeWith_spec hcode
  have hstatic : methM.isStatic = true := Cond.static_spec hnamed hmethM hstat
  obtain ⟨kP, hkP, -⟩ := className_of_methodNamed hnamed
  have hinitP : kP.init = .initialized := Cond.initialized_spec (findClass_of_methodNamed hnamed) hkP hinit
  obtain ⟨vm₁, X₁, hstep₁⟩ := X.invokestatic hexec hown hlink hnamed hmethM hstatic hkP hinitP hy (g := g) hg (argsL := argsL) (rest := rest) (hlen _ hsigM) hstack hdg
  rcases hK m meth c ⟨T.setVm vm₁, locs, cells, slots⟩ { g with stack := rest } (.invokestatic index) mk argsL.toArray X₁ hg hsize hdg hW (X₁.named hnamed) (hpre vm₁ X₁.warmed) with ⟨v, B, X', hpost, hsteps⟩ | ⟨q, B, X', hpost, hsteps⟩
  · exact Or.inl ⟨v, vm₁, B, X₁.warmed, X', hpost, fun target h => hstep₁ _ fun acts => by rw [doInvoke_state]; exact hsteps.trans h⟩
  · exact Or.inr ⟨q, vm₁, B, X₁.warmed, X', hpost, hstep₁ _ fun acts => by rw [doInvoke_state]; exact hsteps⟩
theorem vx_callVW (X : Stand p l e R s m args below meth c T locs cells slots) (hexec : p.tables.exec = Jvm.exec) {own C : String} {index : Nat} {y : MethodName} {bytes : ByteArray} {maxL : Nat} {ret : Option FieldType} {hh : List (Nat × Nat × Nat × Nat)}
    (hown : s.vm.findClass own = some m.cls) (hlink : (Cond.methodLink own index y).before args s = true) (hinst : (Cond.instanceMethod y).before args s = true) (hsel : (Cond.selects C y y).before args s = true)
    (hcode : (Cond.codeWith y bytes maxL ret hh).before args s = true) (hy : y.cls ≠ "java/lang/invoke/MethodHandle" ∧ y.cls ≠ "java/lang/invoke/VarHandle")
    {W9 : Nat} {Pre : Pt → Array Value → Prop} {Post : Pt → Array Value → Option Value → Pt → Prop} (hK : Back l R p e below s args y 3 W9 Pre Post)
    {b : Addr} {cellB : Cell} (hcell : T.heap[b]? = some cellB) (hobj : cellB.vm.isStatics = false) (hcls : s.vm.findClass C = some cellB.cls)
    {g : JFrame} (hg : g.method = m) (hsize : g.locals.size = c.maxLocals) {argsL rest : List Value} (hlen : ∀ sig, parseMethodDescriptor y.desc = some sig → argsL.length = sig.parameters.length)
    (hstack : g.stack = argsL.reverse ++ .ref b :: rest) (hW : 2 * g.monitorRoom + (rest.map fun v => v.category).sum ≤ W9) (hdg : decode c.code g.pc = .ok (.invokevirtual index, 3))
    (hpre : ∀ vm₁, s.WarmedH vm₁ → Pre ⟨T.setVm vm₁, locs, cells, slots⟩ (Value.ref b :: argsL).toArray) :
    ∃ (v : Option Value) (vm₁ : Vm) (B : Pt), s.WarmedH vm₁ ∧ Stand p l e R s m args below meth c B.U B.locs B.cells B.slots ∧ Post ⟨T.setVm vm₁, locs, cells, slots⟩ (Value.ref b :: argsL).toArray v B ∧
      ∀ target, Steps p.tables e below (B.U.setTop { g with pc := g.pc + 3, stack := v.toList ++ rest }) target → Steps p.tables e below (T.setTop g) target := by
  obtain ⟨mk, methM, hnamed, hmethM, hstM, habM⟩ := Cond.instanceMethod_spec hinst
  obtain ⟨m8, methM', cM, hn8, hmethM', -, -, -, -, -, -, hsigM⟩ := Cond.codeWith_spec hcode
  cases Option.some.inj (hn8.symm.trans hnamed)
  cases hmethM.symm.trans hmethM'
  obtain ⟨c2, r2, m2, q1, q2, q3, q4, kP, hkP, hkPi⟩ := Cond.selects_spec hsel
  cases hcls.symm.trans q1
  cases (State.methodFound?_of_named hnamed hy).symm.trans q2
  cases hnamed.symm.trans q3
  have hselP : selectMethod e.platform s.vm cellB.cls mk = .method mk := by rw [Launch.admits_selectMethod X.admits]; exact q4
  obtain ⟨vm₁, X₁, hstep₁⟩ := X.invokevirtual hexec hown hlink hnamed hmethM hstM hkP hkPi hy (a := b) (cell := cellB) hcell
    (fun z h => by rw [h] at hobj; cases hobj) hselP hmethM habM hkP hkPi (g := g) hg (argsL := argsL) (rest := rest) (hlen _ hsigM) hstack hdg
  obtain ⟨v, B, X', hpost, hsteps⟩ := hK m meth c ⟨T.setVm vm₁, locs, cells, slots⟩ { g with stack := rest } (.invokevirtual index) mk (Value.ref b :: argsL).toArray X₁ hg hsize hdg hW (X₁.named hnamed) (hpre vm₁ X₁.warmed)
  exact ⟨v, vm₁, B, X₁.warmed, X', hpost, fun target h => hstep₁ _ fun acts => by rw [doInvoke_state]; exact hsteps.trans h⟩
abbrev vx_CVW (R : Room) (s : State) (args : Array Value) (own C : String) (index : Nat) (y : MethodName) (bytes : ByteArray) (maxL : Nat) (ret : Option FieldType) (hh : List (Nat × Nat × Nat × Nat)) (ws : List Cond) (rm : Room) (mc ms n : Nat) : Prop :=
  (rm.cells = mc ∧ rm.slots = ms ∧ rm.frames + 1 ≤ R.frames ∧ 8 + (maxL + 11) + rm.locals ≤ R.locals ∧ (∀ w ∈ ws, ∀ (a' : Array Value) (U : State), s.WarmedH U.vm → w.before a' U = true) ∧ Cond.codeWith y bytes maxL ret hh ∈ ws) ∧
  (Cond.codeWith y bytes maxL ret hh).before args s = true ∧ (Cond.initialized y.cls).before args s = true ∧ (y.cls ≠ "java/lang/invoke/MethodHandle" ∧ y.cls ≠ "java/lang/invoke/VarHandle") ∧
  (∀ sig, parseMethodDescriptor y.desc = some sig → n = sig.parameters.length) ∧ (Cond.methodLink own index y).before args s = true ∧ (Cond.instanceMethod y).before args s = true ∧ (Cond.selects C y y).before args s = true
theorem vx_cwVW {own C : String} {index maxL mc ms : Nat} {y : MethodName} {bytes : ByteArray} {ret : Option FieldType} {hh : List (Nat × Nat × Nat × Nat)} {Ts ws ws' : List Cond} {rm : Room} (n : Nat) (ht : ∀ w ∈ Ts, w.before args s = true) (hT : GoodIn Ts (wsV own index C y ws)) (hw : ws = Cond.codeWith y bytes maxL ret hh :: ws') (hrc : rm.cells = mc) (hrs : rm.slots = ms)
    (hd : y.cls = C ∧ y.cls ≠ "java/lang/invoke/MethodHandle" ∧ y.cls ≠ "java/lang/invoke/VarHandle" ∧ (parseMethodDescriptor y.desc).map (fun d => d.parameters.length) = some n) (hR : rm.frames + 1 ≤ R.frames ∧ 8 + (maxL + 11) + rm.locals ≤ R.locals) :
    vx_CVW R s args own C index y bytes maxL ret hh ws rm mc ms n := by
  obtain ⟨hC, hd⟩ := hd
  subst hC
  have ok : ∀ w ∈ wsV own index y.cls y ws, w.before args s = true := fun w h => ht w (hT w h).1
  have hG : GoodIn Ts ws := fun w h => hT w (by unfold wsV; exact List.mem_append_right _ h)
  have hc : Cond.codeWith y bytes maxL ret hh ∈ ws := by rw [hw]; exact List.mem_cons_self
  refine ⟨⟨hrc, hrs, hR.1, hR.2, pay_in ht hG, hc⟩, ht _ (hG _ hc).1, ok _ (by simp [wsV]), ⟨hd.1, hd.2.1⟩, fun sig h => ?_, ok _ (by simp [wsV]), ok _ (by simp [wsV]), ok _ (by simp [wsV])⟩
  have h2 := hd.2.2
  rw [h] at h2
  exact (Option.some.inj h2).symm
theorem vx_runVW {y : MethodName} {bytes cc : ByteArray} {maxL nL mc ms n index : Nat} {ret : Option FieldType} {hh : List (Nat × Nat × Nat × Nat)} {ws : List Cond} {rm : Room} {Pc : Array Value → State → Prop} {Qc : Array Value → State → Outcome → State → Prop} {free : Addr → Prop} {Ts : List Cond} {own C : String} {b : Addr} {As rest : List Value} {g : JFrame}
    (S : CallFix p m c cc nL s args Ts own) (hM : Met l y ws rm Pc Qc mc ms free) (cw : vx_CVW R s args own C index y bytes maxL ret hh ws rm mc ms n) (hp : PreV s H C b Pc As)
    (hg : g.method = m) (hn : As.length = n) (hsize : g.locals.size = nL) (hstack : g.stack = As.reverse ++ .ref b :: rest) (hW : 2 * g.monitorRoom + (rest.map fun v => v.category).sum ≤ 8) (hdg : decode cc g.pc = .ok (.invokevirtual index, 3)) (hf : cells + mc ≤ R.cells ∧ slots + ms ≤ R.slots) :
    va_Run p l e R s m args below meth c H locs cells slots mc ms g rest (Qc (Value.ref b :: As).toArray) free := by
  obtain ⟨⟨hrc, hrs, hfr, hlo, hws, hcw⟩, hcode, hini, hy, hlen, hl, hin, hse⟩ := cw
  have hK : Back l R p e below s args y 3 8 (PreOf R mc ms Pc) (PostOf Qc mc ms free) := va_backW (hh := hh) (bytes := bytes) (maxL := maxL) (ret := ret) hM hp.1 hrc hrs hfr hlo hws hcw (fun a' U hW => word_at hW (Or.inl (by first | rfl | simp [Cond.onTables, Cond.keeps, Cond.steady])) hini)
  obtain ⟨hx, hb, hml, ho, -⟩ := S
  obtain ⟨-, ⟨cellB, hcB, hoB, hclB⟩, hPc⟩ := hp
  intro T hT X
  obtain ⟨v, vm₁, ⟨U', l2, c2, s2⟩, hW₁, X', ⟨g', mk, t, L, e1, e2, hq, h1, hL, h2, h3⟩, st⟩ := vx_callVW X hx (C := C) (hh := hh) (bytes := bytes) (maxL := maxL) (ret := ret) ho hl hin hse hcode hy hK (by rw [hT]; exact hcB) hoB hclB hg (hsize.trans hml.symm) (argsL := As) (rest := rest) (fun sig h => hn.trans (hlen sig h)) hstack hW (by rw [hb]; exact hdg)
    (fun vm₁ hW₁ => ⟨hf.1, hf.2, hPc (T.setVm vm₁) hT hW₁⟩)
  dsimp only [Pt.U, Pt.locs, Pt.cells, Pt.slots] at X' e1 e2 h1 h2 h3 st
  subst h1; subst h2; subst h3
  exact ⟨v, (T.setVm vm₁).calling g' mk (Value.ref b :: As).toArray, t, U', L, hT, X', hL, e1, e2, hq, st⟩
section
variable {y : MethodName} {bytes cc : ByteArray} {maxL nL mc ms n index : Nat} {ret : Option FieldType} {ws : List Cond} {rm : Room} {Pc : Array Value → State → Prop} {Qc : Array Value → State → Outcome → State → Prop} {XC : String → State → State → Prop} {free : Addr → Prop} {Ts : List Cond} {own C : String} {b : Addr} {As rest : List Value} {g : JFrame}
theorem vx_runVX {hh : List (Nat × Nat × Nat × Nat)} (S : CallFix p m c cc nL s args Ts own) (hM : vx_Met l y ws rm Pc Qc XC mc ms free) (cw : vx_CVW R s args own C index y bytes maxL ret hh ws rm mc ms n) (hp : PreV s H C b Pc As)
    (hg : g.method = m) (hn : As.length = n) (hsize : g.locals.size = nL) (hstack : g.stack = As.reverse ++ .ref b :: rest) (hW : 2 * g.monitorRoom + (rest.map fun v => v.category).sum ≤ 8) (hdg : decode cc g.pc = .ok (.invokevirtual index, 3)) (hf : cells + mc ≤ R.cells ∧ slots + ms ≤ R.slots) :
    vx_Run p l e R s m args below meth c H locs cells slots mc ms g rest (Qc (Value.ref b :: As).toArray) XC free := by
  obtain ⟨⟨hrc, hrs, hfr, hlo, hws, hcw⟩, hcode, hini, hy, hlen, hl, hin, hse⟩ := cw
  have hK : vx_Back l R p e below s args y 3 8 (PreOf R mc ms Pc) (PostOf Qc mc ms free) (vx_Post XC mc ms free) := vx_backW (hh := hh) (bytes := bytes) (maxL := maxL) (ret := ret) hM hp.1 hrc hrs hfr hlo hws hcw (fun a' U hW => word_at hW (Or.inl (by first | rfl | simp [Cond.onTables, Cond.keeps, Cond.steady])) hini)
  obtain ⟨hx, hb, hml, ho, -⟩ := S
  obtain ⟨-, ⟨cellB, hcB, hoB, hclB⟩, hPc⟩ := hp
  intro T hT X
  rcases vx_callVX X hx (C := C) (hh := hh) (bytes := bytes) (maxL := maxL) (ret := ret) ho hl hin hse hcode hy hK (by rw [hT]; exact hcB) hoB hclB hg (hsize.trans hml.symm) (argsL := As) (rest := rest) (fun sig h => hn.trans (hlen sig h)) hstack hW (by rw [hb]; exact hdg)
    (fun vm₁ hW₁ => ⟨hf.1, hf.2, hPc (T.setVm vm₁) hT hW₁⟩) with ⟨v, vm₁, ⟨U', l2, c2, s2⟩, hW₁, X', ⟨g', mk, t, L, e1, e2, hq, h1, hL, h2, h3⟩, st⟩ | ⟨q, vm₁, ⟨U', l2, c2, s2⟩, hW₁, X', ⟨g', mk, t, L, E, ce, e1, e2, hq, hce, hcv, hcl, h1, hL, h2, h3⟩, st⟩
  · dsimp only [Pt.U, Pt.locs, Pt.cells, Pt.slots] at X' e1 e2 h1 h2 h3 st
    subst h1; subst h2; subst h3
    exact Or.inl ⟨v, (T.setVm vm₁).calling g' mk (Value.ref b :: As).toArray, t, U', L, hT, X', hL, e1, e2, hq, st⟩
  · dsimp only [Pt.U, Pt.locs, Pt.cells, Pt.slots] at X' e1 e2 h1 h2 h3 st hcl
    subst h1; subst h2; subst h3
    exact Or.inr ⟨q, (T.setVm vm₁).calling g' mk (Value.ref b :: As).toArray, t, U', L, E, ce, hT, X', hL, e1, e2, hq, hce, hcv, vx_cls hW₁ hcl, st⟩
theorem vx_runSX {hh : List (Nat × Nat × Nat × Nat)} (S : CallFix p m c cc nL s args Ts own) (hM : vx_Met l y ws rm Pc Qc XC mc ms free) (cw : vx_CSW R s args own index y bytes maxL ret hh ws rm mc ms n) (hp : PreS s H Pc As)
    (hg : g.method = m) (hn : As.length = n) (hsize : g.locals.size = nL) (hstack : g.stack = As.reverse ++ rest) (hW : 2 * g.monitorRoom + (rest.map fun v => v.category).sum ≤ 8) (hdg : decode cc g.pc = .ok (.invokestatic index, 3)) (hf : cells + mc ≤ R.cells ∧ slots + ms ≤ R.slots) :
    vx_Run p l e R s m args below meth c H locs cells slots mc ms g rest (Qc As.toArray) XC free := by
  obtain ⟨⟨hrc, hrs, hfr, hlo, hws, hcw⟩, hcode, hini, hy, hlen, hl, hstt⟩ := cw
  have hK : vx_Back l R p e below s args y 3 8 (PreOf R mc ms Pc) (PostOf Qc mc ms free) (vx_Post XC mc ms free) := vx_backW (hh := hh) (bytes := bytes) (maxL := maxL) (ret := ret) hM hp.1 hrc hrs hfr hlo hws hcw (fun a' U hW => word_at hW (Or.inl (by first | rfl | simp [Cond.onTables, Cond.keeps, Cond.steady])) hini)
  obtain ⟨hx, hb, hml, ho, -⟩ := S
  intro T hT X
  rcases vx_callSX X hx (hh := hh) (bytes := bytes) (maxL := maxL) (ret := ret) ho hl hstt hini hcode hy hK hg (hsize.trans hml.symm) (argsL := As) (rest := rest) (fun sig h => hn.trans (hlen sig h)) hstack hW (by rw [hb]; exact hdg)
    (fun vm₁ hW₁ => ⟨hf.1, hf.2, hp.2 (T.setVm vm₁) hT hW₁⟩) with ⟨v, vm₁, ⟨U', l2, c2, s2⟩, hW₁, X', ⟨g', mk, t, L, e1, e2, hq, h1, hL, h2, h3⟩, st⟩ | ⟨q, vm₁, ⟨U', l2, c2, s2⟩, hW₁, X', ⟨g', mk, t, L, E, ce, e1, e2, hq, hce, hcv, hcl, h1, hL, h2, h3⟩, st⟩
  · dsimp only [Pt.U, Pt.locs, Pt.cells, Pt.slots] at X' e1 e2 h1 h2 h3 st
    subst h1; subst h2; subst h3
    exact Or.inl ⟨v, (T.setVm vm₁).calling g' mk As.toArray, t, U', L, hT, X', hL, e1, e2, hq, st⟩
  · dsimp only [Pt.U, Pt.locs, Pt.cells, Pt.slots] at X' e1 e2 h1 h2 h3 st hcl
    subst h1; subst h2; subst h3
    exact Or.inr ⟨q, (T.setVm vm₁).calling g' mk As.toArray, t, U', L, E, ce, hT, X', hL, e1, e2, hq, hce, hcv, vx_cls hW₁ hcl, st⟩
end
end VXH
theorem vx_ofWH {l : Launch} {y : MethodName} {ws ws' : List Cond} {rm : Room} {Pc : Array Value → State → Prop} {Qc : Array Value → State → Outcome → State → Prop} {XC : String → State → State → Prop} {mc ms : Nat} {free : Addr → Prop} {cc : ByteArray} {maxL : Nat} {ret : Option FieldType} {hh : List (Nat × Nat × Nat × Nat)}
    (hy : plainName y.cls = true) (hw : ws = Cond.codeWith y cc maxL ret hh :: ws')
    (body : ∀ p e s m args below meth c s₁, BodyLoose p l y (headSpec ws rm) cc maxL ret e s m args below meth c s₁ → c.maxLocals = maxL → Pc args s →
      W p l e (headSpec ws rm).room s m args below meth c s.heap [] 0 0 (vx_MQ below Qc XC args s mc ms free) (entryFrame m args maxL)) : vx_Met l y ws rm Pc Qc XC mc ms free := by
  refine MetFree.of_bodyS (code := cc) (maxLocals := maxL) (ret := ret) hy ?_ ?_
  · intro args s m h hn
    obtain ⟨m9, meth, c, hn9, h1, h2, h3, h4, -, h5, h6, -⟩ := Cond.codeWith_spec (atoms_spec (ws := ws) h _ (by rw [hw]; exact List.mem_cons_self))
    cases hn.symm.trans hn9
    exact ⟨meth, c, h1, h2, h3, h4, h5, h6⟩
  · intro p e s m args below meth c s₁ B hml hP _
    have hh0 : s₁.heap = s.heap := by rw [B.state]; rfl
    obtain ⟨t, a1, o, b1, b2, b3⟩ := body p e s m args below meth c s₁ B hml hP s₁ hh0 (Stand.of_body B)
    exact ⟨t, o, a1, b1, b2, b3⟩
/-! ===== END ===== -/

/-! ===== BEGIN printed: names, fields, word lists, decode rows ===== -/
end
section
def RX0 : String := "GlacierBook$Days"
def TX0 : u_T := fun k => match k with
  | 0 => ("GlacierBook$Days", "from", "I", false)
  | _ => ("GlacierBook$Days", "to", "I", false)
def tyX0 : Nat → FieldType := fun k => match k with
  | 0 => .int
  | _ => .int
abbrev wsX00 : List Cond := u_ws RX0 TX0 2
theorem nmX0 : ∀ a, a < 2 → ∀ b, b < 2 → a ≠ b → (TX0 a).2.1 ≠ (TX0 b).2.1 := by decide +kernel
theorem tyX0_ok : ∀ k, k < 2 → parseFieldDescriptor (TX0 k).2.2.1 = some (tyX0 k) := by decide +kernel
abbrev cX0_init : ByteArray := prog_2_method_1_code
def yX0_init : MethodName := ⟨RX0, "<init>", "()V"⟩
abbrev cX0_become : ByteArray := prog_2_method_2_code
def yX0_become : MethodName := ⟨RX0, "become", "(II)V"⟩
abbrev cX0_include : ByteArray := prog_2_method_3_code
def yX0_include : MethodName := ⟨RX0, "include", "(I)Z"⟩
def RX1 : String := "GlacierBook$Depot"
def TX1 : u_T := fun k => match k with
  | 0 => ("GlacierBook$Depot", "number", "I", true)
  | 1 => ("GlacierBook$Depot", "cut", "LGlacierBook$Days;", true)
  | _ => ("GlacierBook$Depot", "warm", "Z", false)
def tyX1 : Nat → FieldType := fun k => match k with
  | 0 => .int
  | 1 => .object "GlacierBook$Days"
  | _ => .boolean
abbrev wsX10 : List Cond := u_ws RX1 TX1 3
theorem nmX1 : ∀ a, a < 3 → ∀ b, b < 3 → a ≠ b → (TX1 a).2.1 ≠ (TX1 b).2.1 := by decide +kernel
theorem tyX1_ok : ∀ k, k < 3 → parseFieldDescriptor (TX1 k).2.2.1 = some (tyX1 k) := by decide +kernel
abbrev cX1_init : ByteArray := prog_3_method_1_code
def yX1_init : MethodName := ⟨RX1, "<init>", "(IZ)V"⟩
def RX2 : String := "GlacierBook$Entry"
def TX2 : u_T := fun k => match k with
  | 0 => ("GlacierBook$Entry", "crew", "I", true)
  | 1 => ("GlacierBook$Entry", "lot", "LGlacierBook$Lot;", true)
  | 2 => ("GlacierBook$Entry", "change", "I", true)
  | _ => ("GlacierBook$Entry", "cause", "I", true)
def tyX2 : Nat → FieldType := fun k => match k with
  | 0 => .int
  | 1 => .object "GlacierBook$Lot"
  | 2 => .int
  | _ => .int
abbrev wsX20 : List Cond := u_ws RX2 TX2 4
theorem nmX2 : ∀ a, a < 4 → ∀ b, b < 4 → a ≠ b → (TX2 a).2.1 ≠ (TX2 b).2.1 := by decide +kernel
theorem tyX2_ok : ∀ k, k < 4 → parseFieldDescriptor (TX2 k).2.2.1 = some (tyX2 k) := by decide +kernel
abbrev cX2_init : ByteArray := prog_4_method_1_code
def yX2_init : MethodName := ⟨RX2, "<init>", "(ILGlacierBook$Lot;II)V"⟩
def RX3 : String := "GlacierBook$Lot"
def TX3 : u_T := fun k => match k with
  | 0 => ("GlacierBook$Lot", "number", "I", true)
  | 1 => ("GlacierBook$Lot", "depot", "LGlacierBook$Depot;", true)
  | 2 => ("GlacierBook$Lot", "good", "I", true)
  | 3 => ("GlacierBook$Lot", "lastDay", "I", true)
  | _ => ("GlacierBook$Lot", "amount", "I", false)
def tyX3 : Nat → FieldType := fun k => match k with
  | 0 => .int
  | 1 => .object "GlacierBook$Depot"
  | 2 => .int
  | 3 => .int
  | _ => .int
abbrev wsX30 : List Cond := u_ws RX3 TX3 5
theorem nmX3 : ∀ a, a < 5 → ∀ b, b < 5 → a ≠ b → (TX3 a).2.1 ≠ (TX3 b).2.1 := by decide +kernel
theorem tyX3_ok : ∀ k, k < 5 → parseFieldDescriptor (TX3 k).2.2.1 = some (tyX3 k) := by decide +kernel
abbrev cX3_init : ByteArray := prog_5_method_1_code
def yX3_init : MethodName := ⟨RX3, "<init>", "(ILGlacierBook$Depot;II)V"⟩
abbrev cX3_isOf : ByteArray := prog_5_method_2_code
def yX3_isOf : MethodName := ⟨RX3, "isOf", "(II)Z"⟩
abbrev cX3_isFoodInStation : ByteArray := prog_5_method_3_code
def yX3_isFoodInStation : MethodName := ⟨RX3, "isFoodInStation", "()Z"⟩
def RX4 : String := "GlacierBook$Workers"
def TX4 : u_T := fun k => match k with
  | 0 => ("GlacierBook$Workers", "unitsEach", "I", true)
  | 1 => ("GlacierBook$Workers", "people", "I", false)
  | 2 => ("GlacierBook$Workers", "ration", "I", false)
  | _ => ("GlacierBook$Workers", "missed", "I", false)
def tyX4 : Nat → FieldType := fun k => match k with
  | 0 => .int
  | 1 => .int
  | 2 => .int
  | _ => .int
abbrev wsX40 : List Cond := u_ws RX4 TX4 4
theorem nmX4 : ∀ a, a < 4 → ∀ b, b < 4 → a ≠ b → (TX4 a).2.1 ≠ (TX4 b).2.1 := by decide +kernel
theorem tyX4_ok : ∀ k, k < 4 → parseFieldDescriptor (TX4 k).2.2.1 = some (tyX4 k) := by decide +kernel
abbrev cX4_init : ByteArray := prog_6_method_1_code
def yX4_init : MethodName := ⟨RX4, "<init>", "(I)V"⟩
abbrev cX4_need : ByteArray := prog_6_method_2_code
def yX4_need : MethodName := ⟨RX4, "need", "()I"⟩
def RX5 : String := "GlacierBook"
def TX5 : u_T := fun k => match k with
  | 0 => ("GlacierBook", "depots", "Ljava/util/ArrayList;", true)
  | 1 => ("GlacierBook", "allLots", "Ljava/util/ArrayList;", true)
  | 2 => ("GlacierBook", "workers", "Ljava/util/ArrayList;", true)
  | 3 => ("GlacierBook", "journal", "Ljava/util/ArrayList;", true)
  | 4 => ("GlacierBook", "frost", "LGlacierBook$Days;", true)
  | 5 => ("GlacierBook", "day", "I", false)
  | _ => ("GlacierBook", "crew", "I", false)
def tyX5 : Nat → FieldType := fun k => match k with
  | 0 => .object "java/util/ArrayList"
  | 1 => .object "java/util/ArrayList"
  | 2 => .object "java/util/ArrayList"
  | 3 => .object "java/util/ArrayList"
  | 4 => .object "GlacierBook$Days"
  | 5 => .int
  | _ => .int
abbrev wsX50 : List Cond := u_ws RX5 TX5 7
theorem nmX5 : ∀ a, a < 7 → ∀ b, b < 7 → a ≠ b → (TX5 a).2.1 ≠ (TX5 b).2.1 := by decide +kernel
theorem tyX5_ok : ∀ k, k < 7 → parseFieldDescriptor (TX5 k).2.2.1 = some (tyX5 k) := by decide +kernel
abbrev cX5_init : ByteArray := prog_1_method_1_code
def yX5_init : MethodName := ⟨RX5, "<init>", "()V"⟩
abbrev cX5_setCut : ByteArray := prog_1_method_2_code
def yX5_setCut : MethodName := ⟨RX5, "setCut", "(III)Z"⟩
abbrev cX5_setWarm : ByteArray := prog_1_method_3_code
def yX5_setWarm : MethodName := ⟨RX5, "setWarm", "(IZ)Z"⟩
abbrev cX5_setFrost : ByteArray := prog_1_method_4_code
def yX5_setFrost : MethodName := ⟨RX5, "setFrost", "(II)Z"⟩
abbrev cX5_fill : ByteArray := prog_1_method_5_code
def yX5_fill : MethodName := ⟨RX5, "fill", "(IIII)I"⟩
abbrev cX5_move : ByteArray := prog_1_method_6_code
def yX5_move : MethodName := ⟨RX5, "move", "(III)I"⟩
abbrev cX5_count : ByteArray := prog_1_method_7_code
def yX5_count : MethodName := ⟨RX5, "count", "(II)I"⟩
abbrev cX5_setPeople : ByteArray := prog_1_method_8_code
def yX5_setPeople : MethodName := ⟨RX5, "setPeople", "(II)I"⟩
abbrev cX5_pass : ByteArray := prog_1_method_9_code
def yX5_pass : MethodName := ⟨RX5, "pass", "(I)I"⟩
abbrev cX5_nextCrew : ByteArray := prog_1_method_10_code
def yX5_nextCrew : MethodName := ⟨RX5, "nextCrew", "()I"⟩
abbrev cX5_today : ByteArray := prog_1_method_11_code
def yX5_today : MethodName := ⟨RX5, "today", "()I"⟩
abbrev cX5_hunger : ByteArray := prog_1_method_12_code
def yX5_hunger : MethodName := ⟨RX5, "hunger", "(I)I"⟩
abbrev cX5_lots : ByteArray := prog_1_method_13_code
def yX5_lots : MethodName := ⟨RX5, "lots", "()I"⟩
abbrev cX5_amount : ByteArray := prog_1_method_14_code
def yX5_amount : MethodName := ⟨RX5, "amount", "(I)I"⟩
abbrev cX5_about : ByteArray := prog_1_method_15_code
def yX5_about : MethodName := ⟨RX5, "about", "(I)I"⟩
abbrev cX5_stock : ByteArray := prog_1_method_16_code
def yX5_stock : MethodName := ⟨RX5, "stock", "(II)I"⟩
abbrev cX5_stockByJournal : ByteArray := prog_1_method_17_code
def yX5_stockByJournal : MethodName := ⟨RX5, "stockByJournal", "(II)I"⟩
abbrev cX5_enoughFor : ByteArray := prog_1_method_18_code
def yX5_enoughFor : MethodName := ⟨RX5, "enoughFor", "()I"⟩
abbrev cX5_entries : ByteArray := prog_1_method_19_code
def yX5_entries : MethodName := ⟨RX5, "entries", "()I"⟩
abbrev cX5_changeOf : ByteArray := prog_1_method_20_code
def yX5_changeOf : MethodName := ⟨RX5, "changeOf", "(I)I"⟩
abbrev cX5_lotOf : ByteArray := prog_1_method_21_code
def yX5_lotOf : MethodName := ⟨RX5, "lotOf", "(I)I"⟩
abbrev cX5_changed : ByteArray := prog_1_method_22_code
def yX5_changed : MethodName := ⟨RX5, "changed", "(II)I"⟩
abbrev cX5_requireDepot : ByteArray := prog_1_method_23_code
def yX5_requireDepot : MethodName := ⟨RX5, "requireDepot", "(I)V"⟩
abbrev cX5_requireGood : ByteArray := prog_1_method_24_code
def yX5_requireGood : MethodName := ⟨RX5, "requireGood", "(I)V"⟩
abbrev cX5_requireLot : ByteArray := prog_1_method_25_code
def yX5_requireLot : MethodName := ⟨RX5, "requireLot", "(I)V"⟩
abbrev cX5_requireWork : ByteArray := prog_1_method_26_code
def yX5_requireWork : MethodName := ⟨RX5, "requireWork", "(I)V"⟩
abbrev cX5_requireEntry : ByteArray := prog_1_method_27_code
def yX5_requireEntry : MethodName := ⟨RX5, "requireEntry", "(I)V"⟩
abbrev cX5_requireIndex : ByteArray := prog_1_method_28_code
def yX5_requireIndex : MethodName := ⟨RX5, "requireIndex", "(II)V"⟩
abbrev cX5_requireRange : ByteArray := prog_1_method_29_code
def yX5_requireRange : MethodName := ⟨RX5, "requireRange", "(III)V"⟩
abbrev cX5_requireDays : ByteArray := prog_1_method_30_code
def yX5_requireDays : MethodName := ⟨RX5, "requireDays", "(II)V"⟩
abbrev cX5_requireReached : ByteArray := prog_1_method_31_code
def yX5_requireReached : MethodName := ⟨RX5, "requireReached", "(LGlacierBook$Depot;)V"⟩
abbrev cX5_requireRoomForLot : ByteArray := prog_1_method_32_code
def yX5_requireRoomForLot : MethodName := ⟨RX5, "requireRoomForLot", "()V"⟩
abbrev cX5_addLot : ByteArray := prog_1_method_33_code
def yX5_addLot : MethodName := ⟨RX5, "addLot", "(LGlacierBook$Lot;II)I"⟩
abbrev cX5_changeAmount : ByteArray := prog_1_method_34_code
def yX5_changeAmount : MethodName := ⟨RX5, "changeAmount", "(LGlacierBook$Lot;II)V"⟩
abbrev cX5_throwAwayOld : ByteArray := prog_1_method_35_code
def yX5_throwAwayOld : MethodName := ⟨RX5, "throwAwayOld", "()V"⟩
abbrev cX5_freeze : ByteArray := prog_1_method_36_code
def yX5_freeze : MethodName := ⟨RX5, "freeze", "()V"⟩
abbrev cX5_feedPeople : ByteArray := prog_1_method_37_code
def yX5_feedPeople : MethodName := ⟨RX5, "feedPeople", "()I"⟩
abbrev cX5_foodInStation : ByteArray := prog_1_method_38_code
def yX5_foodInStation : MethodName := ⟨RX5, "foodInStation", "()I"⟩
abbrev cX5_needOfAll : ByteArray := prog_1_method_39_code
def yX5_needOfAll : MethodName := ⟨RX5, "needOfAll", "()I"⟩
abbrev cX5_cutRations : ByteArray := prog_1_method_40_code
def yX5_cutRations : MethodName := ⟨RX5, "cutRations", "(II)V"⟩
abbrev cX5_eatFromLots : ByteArray := prog_1_method_41_code
def yX5_eatFromLots : MethodName := ⟨RX5, "eatFromLots", "(I)V"⟩
abbrev cX5_nextToEat : ByteArray := prog_1_method_42_code
def yX5_nextToEat : MethodName := ⟨RX5, "nextToEat", "()LGlacierBook$Lot;"⟩
def RX6 : String := "GlacierBookModel"
def TX6 : u_T := fun k => match k with
  | 0 => ("GlacierBookModel", "thrown", "I", false)
  | 1 => ("GlacierBookModel", "today", "I", false)
  | 2 => ("GlacierBookModel", "crew", "I", false)
  | 3 => ("GlacierBookModel", "isWarm", "[Z", true)
  | 4 => ("GlacierBookModel", "cutFrom", "[I", true)
  | 5 => ("GlacierBookModel", "cutTo", "[I", true)
  | 6 => ("GlacierBookModel", "frostFrom", "I", false)
  | 7 => ("GlacierBookModel", "frostTo", "I", false)
  | 8 => ("GlacierBookModel", "lots", "I", false)
  | 9 => ("GlacierBookModel", "depot", "[I", true)
  | 10 => ("GlacierBookModel", "good", "[I", true)
  | 11 => ("GlacierBookModel", "amount", "[I", true)
  | 12 => ("GlacierBookModel", "lastDay", "[I", true)
  | 13 => ("GlacierBookModel", "people", "[I", true)
  | 14 => ("GlacierBookModel", "hunger", "[I", true)
  | 15 => ("GlacierBookModel", "entries", "I", false)
  | 16 => ("GlacierBookModel", "itsCrew", "[I", true)
  | 17 => ("GlacierBookModel", "itsLot", "[I", true)
  | 18 => ("GlacierBookModel", "change", "[I", true)
  | 19 => ("GlacierBookModel", "cause", "[I", true)
  | 20 => ("GlacierBookModel", "need", "[I", true)
  | _ => ("GlacierBookModel", "gets", "[I", true)
def tyX6 : Nat → FieldType := fun k => match k with
  | 0 => .int
  | 1 => .int
  | 2 => .int
  | 3 => .array .boolean
  | 4 => .array .int
  | 5 => .array .int
  | 6 => .int
  | 7 => .int
  | 8 => .int
  | 9 => .array .int
  | 10 => .array .int
  | 11 => .array .int
  | 12 => .array .int
  | 13 => .array .int
  | 14 => .array .int
  | 15 => .int
  | 16 => .array .int
  | 17 => .array .int
  | 18 => .array .int
  | 19 => .array .int
  | 20 => .array .int
  | _ => .array .int
abbrev wsX60 : List Cond := u_ws RX6 TX6 22
theorem nmX6 : ∀ a, a < 22 → ∀ b, b < 22 → a ≠ b → (TX6 a).2.1 ≠ (TX6 b).2.1 := by decide +kernel
theorem tyX6_ok : ∀ k, k < 22 → parseFieldDescriptor (TX6 k).2.2.1 = some (tyX6 k) := by decide +kernel
abbrev cX6_init : ByteArray := prog_8_method_1_code
def yX6_init : MethodName := ⟨RX6, "<init>", "()V"⟩
abbrev cX6_thrown : ByteArray := prog_8_method_2_code
def yX6_thrown : MethodName := ⟨RX6, "thrown", "()I"⟩
abbrev cX6_in : ByteArray := prog_8_method_3_code
def yX6_in : MethodName := ⟨RX6, "in", "(III)Z"⟩
abbrev cX6_isDepot : ByteArray := prog_8_method_4_code
def yX6_isDepot : MethodName := ⟨RX6, "isDepot", "(I)Z"⟩
abbrev cX6_isGood : ByteArray := prog_8_method_5_code
def yX6_isGood : MethodName := ⟨RX6, "isGood", "(I)Z"⟩
abbrev cX6_isLot : ByteArray := prog_8_method_6_code
def yX6_isLot : MethodName := ⟨RX6, "isLot", "(I)Z"⟩
abbrev cX6_areDays : ByteArray := prog_8_method_7_code
def yX6_areDays : MethodName := ⟨RX6, "areDays", "(II)Z"⟩
abbrev cX6_isCut : ByteArray := prog_8_method_8_code
def yX6_isCut : MethodName := ⟨RX6, "isCut", "(I)Z"⟩
abbrev cX6_setCut : ByteArray := prog_8_method_9_code
def yX6_setCut : MethodName := ⟨RX6, "setCut", "(III)Z"⟩
abbrev cX6_setWarm : ByteArray := prog_8_method_10_code
def yX6_setWarm : MethodName := ⟨RX6, "setWarm", "(IZ)Z"⟩
abbrev cX6_isFrost : ByteArray := prog_8_method_11_code
def yX6_isFrost : MethodName := ⟨RX6, "isFrost", "()Z"⟩
abbrev cX6_setFrost : ByteArray := prog_8_method_12_code
def yX6_setFrost : MethodName := ⟨RX6, "setFrost", "(II)Z"⟩
abbrev cX6_changes : ByteArray := prog_8_method_13_code
def yX6_changes : MethodName := ⟨RX6, "changes", "(III)V"⟩
abbrev cX6_makes : ByteArray := prog_8_method_14_code
def yX6_makes : MethodName := ⟨RX6, "makes", "(III)I"⟩
abbrev cX6_fill : ByteArray := prog_8_method_15_code
def yX6_fill : MethodName := ⟨RX6, "fill", "(IIII)I"⟩
abbrev cX6_move : ByteArray := prog_8_method_16_code
def yX6_move : MethodName := ⟨RX6, "move", "(III)I"⟩
abbrev cX6_count : ByteArray := prog_8_method_17_code
def yX6_count : MethodName := ⟨RX6, "count", "(II)I"⟩
abbrev cX6_setPeople : ByteArray := prog_8_method_18_code
def yX6_setPeople : MethodName := ⟨RX6, "setPeople", "(II)I"⟩
abbrev cX6_allNeed : ByteArray := prog_8_method_19_code
def yX6_allNeed : MethodName := ⟨RX6, "allNeed", "()I"⟩
abbrev cX6_isFoodHere : ByteArray := prog_8_method_20_code
def yX6_isFoodHere : MethodName := ⟨RX6, "isFoodHere", "(I)Z"⟩
abbrev cX6_allFood : ByteArray := prog_8_method_21_code
def yX6_allFood : MethodName := ⟨RX6, "allFood", "()I"⟩
abbrev cX6_shares : ByteArray := prog_8_method_22_code
def yX6_shares : MethodName := ⟨RX6, "shares", "(II)V"⟩
abbrev cX6_nextLot : ByteArray := prog_8_method_23_code
def yX6_nextLot : MethodName := ⟨RX6, "nextLot", "()I"⟩
abbrev cX6_eats : ByteArray := prog_8_method_24_code
def yX6_eats : MethodName := ⟨RX6, "eats", "()I"⟩
abbrev cX6_passes : ByteArray := prog_8_method_25_code
def yX6_passes : MethodName := ⟨RX6, "passes", "()I"⟩
abbrev cX6_pass : ByteArray := prog_8_method_26_code
def yX6_pass : MethodName := ⟨RX6, "pass", "(I)I"⟩
abbrev cX6_nextCrew : ByteArray := prog_8_method_27_code
def yX6_nextCrew : MethodName := ⟨RX6, "nextCrew", "()I"⟩
abbrev cX6_today : ByteArray := prog_8_method_28_code
def yX6_today : MethodName := ⟨RX6, "today", "()I"⟩
abbrev cX6_hunger : ByteArray := prog_8_method_29_code
def yX6_hunger : MethodName := ⟨RX6, "hunger", "(I)I"⟩
abbrev cX6_lots : ByteArray := prog_8_method_30_code
def yX6_lots : MethodName := ⟨RX6, "lots", "()I"⟩
abbrev cX6_asks : ByteArray := prog_8_method_31_code
def yX6_asks : MethodName := ⟨RX6, "asks", "(I)Z"⟩
abbrev cX6_amount : ByteArray := prog_8_method_32_code
def yX6_amount : MethodName := ⟨RX6, "amount", "(I)I"⟩
abbrev cX6_about : ByteArray := prog_8_method_33_code
def yX6_about : MethodName := ⟨RX6, "about", "(I)I"⟩
abbrev cX6_stock : ByteArray := prog_8_method_34_code
def yX6_stock : MethodName := ⟨RX6, "stock", "(II)I"⟩
abbrev cX6_stockByJournal : ByteArray := prog_8_method_35_code
def yX6_stockByJournal : MethodName := ⟨RX6, "stockByJournal", "(II)I"⟩
abbrev cX6_enoughFor : ByteArray := prog_8_method_36_code
def yX6_enoughFor : MethodName := ⟨RX6, "enoughFor", "()I"⟩
abbrev cX6_entries : ByteArray := prog_8_method_37_code
def yX6_entries : MethodName := ⟨RX6, "entries", "()I"⟩
abbrev cX6_isEntry : ByteArray := prog_8_method_38_code
def yX6_isEntry : MethodName := ⟨RX6, "isEntry", "(I)Z"⟩
abbrev cX6_changeOf : ByteArray := prog_8_method_39_code
def yX6_changeOf : MethodName := ⟨RX6, "changeOf", "(I)I"⟩
abbrev cX6_lotOf : ByteArray := prog_8_method_40_code
def yX6_lotOf : MethodName := ⟨RX6, "lotOf", "(I)I"⟩
abbrev cX6_changed : ByteArray := prog_8_method_41_code
def yX6_changed : MethodName := ⟨RX6, "changed", "(II)I"⟩
def RJx145de : String := "java/io/Serializable"
def TJx145de : u_T := fun k => match k with
  | _ => ("", "", "", false)
def tyJx145de : Nat → FieldType := fun k => match k with
  | _ => .int
abbrev wsJx145de0 : List Cond := u_ws RJx145de TJx145de 0
theorem nmJx145de : ∀ a, a < 0 → ∀ b, b < 0 → a ≠ b → (TJx145de a).2.1 ≠ (TJx145de b).2.1 := by decide +kernel
theorem tyJx145de_ok : ∀ k, k < 0 → parseFieldDescriptor (TJx145de k).2.2.1 = some (tyJx145de k) := by decide +kernel
def RJx8e188 : String := "java/lang/Cloneable"
def TJx8e188 : u_T := fun k => match k with
  | _ => ("", "", "", false)
def tyJx8e188 : Nat → FieldType := fun k => match k with
  | _ => .int
abbrev wsJx8e1880 : List Cond := u_ws RJx8e188 TJx8e188 0
theorem nmJx8e188 : ∀ a, a < 0 → ∀ b, b < 0 → a ≠ b → (TJx8e188 a).2.1 ≠ (TJx8e188 b).2.1 := by decide +kernel
theorem tyJx8e188_ok : ∀ k, k < 0 → parseFieldDescriptor (TJx8e188 k).2.2.1 = some (tyJx8e188 k) := by decide +kernel
def RJxab1ab : String := "java/lang/Iterable"
def TJxab1ab : u_T := fun k => match k with
  | _ => ("", "", "", false)
def tyJxab1ab : Nat → FieldType := fun k => match k with
  | _ => .int
abbrev wsJxab1ab0 : List Cond := u_ws RJxab1ab TJxab1ab 0
theorem nmJxab1ab : ∀ a, a < 0 → ∀ b, b < 0 → a ≠ b → (TJxab1ab a).2.1 ≠ (TJxab1ab b).2.1 := by decide +kernel
theorem tyJxab1ab_ok : ∀ k, k < 0 → parseFieldDescriptor (TJxab1ab k).2.2.1 = some (tyJxab1ab k) := by decide +kernel
def RJ9 : String := "java/lang/Math"
def TJ9 : u_T := fun k => match k with
  | _ => ("", "", "", false)
def tyJ9 : Nat → FieldType := fun k => match k with
  | _ => .int
abbrev wsJ90 : List Cond := u_ws RJ9 TJ9 0
theorem nmJ9 : ∀ a, a < 0 → ∀ b, b < 0 → a ≠ b → (TJ9 a).2.1 ≠ (TJ9 b).2.1 := by decide +kernel
theorem tyJ9_ok : ∀ k, k < 0 → parseFieldDescriptor (TJ9 k).2.2.1 = some (tyJ9 k) := by decide +kernel
abbrev cJ9_max_7cf53 : ByteArray := prog_16_method_65_code
def yJ9_max_7cf53 : MethodName := ⟨RJ9, "max", "(II)I"⟩
abbrev cJ9_min_7cf53 : ByteArray := prog_16_method_69_code
def yJ9_min_7cf53 : MethodName := ⟨RJ9, "min", "(II)I"⟩
def RJ0 : String := "java/lang/String"
def TJ0 : u_T := fun k => match k with
  | _ => ("", "", "", false)
def tyJ0 : Nat → FieldType := fun k => match k with
  | _ => .int
abbrev wsJ00 : List Cond := u_ws RJ0 TJ0 0
theorem nmJ0 : ∀ a, a < 0 → ∀ b, b < 0 → a ≠ b → (TJ0 a).2.1 ≠ (TJ0 b).2.1 := by decide +kernel
theorem tyJ0_ok : ∀ k, k < 0 → parseFieldDescriptor (TJ0 k).2.2.1 = some (tyJ0 k) := by decide +kernel
def RJ10 : String := "java/lang/System"
def TJ10 : u_T := fun k => match k with
  | _ => ("", "", "", false)
def tyJ10 : Nat → FieldType := fun k => match k with
  | _ => .int
abbrev wsJ100 : List Cond := u_ws RJ10 TJ10 0
theorem nmJ10 : ∀ a, a < 0 → ∀ b, b < 0 → a ≠ b → (TJ10 a).2.1 ≠ (TJ10 b).2.1 := by decide +kernel
theorem tyJ10_ok : ∀ k, k < 0 → parseFieldDescriptor (TJ10 k).2.2.1 = some (tyJ10 k) := by decide +kernel
def RJxa1e45 : String := "java/util/AbstractCollection"
def TJxa1e45 : u_T := fun k => match k with
  | _ => ("", "", "", false)
def tyJxa1e45 : Nat → FieldType := fun k => match k with
  | _ => .int
abbrev wsJxa1e450 : List Cond := u_ws RJxa1e45 TJxa1e45 0
theorem nmJxa1e45 : ∀ a, a < 0 → ∀ b, b < 0 → a ≠ b → (TJxa1e45 a).2.1 ≠ (TJxa1e45 b).2.1 := by decide +kernel
theorem tyJxa1e45_ok : ∀ k, k < 0 → parseFieldDescriptor (TJxa1e45 k).2.2.1 = some (tyJxa1e45 k) := by decide +kernel
abbrev cJxa1e45_init_da8c8 : ByteArray := prog_21_method_1_code
def yJxa1e45_init_da8c8 : MethodName := ⟨RJxa1e45, "<init>", "()V"⟩
def RJxc12de : String := "java/util/AbstractList"
def TJxc12de : u_T := fun k => match k with
  | _ => ("", "", "", false)
def tyJxc12de : Nat → FieldType := fun k => match k with
  | _ => .int
abbrev wsJxc12de0 : List Cond := u_ws RJxc12de TJxc12de 0
theorem nmJxc12de : ∀ a, a < 0 → ∀ b, b < 0 → a ≠ b → (TJxc12de a).2.1 ≠ (TJxc12de b).2.1 := by decide +kernel
theorem tyJxc12de_ok : ∀ k, k < 0 → parseFieldDescriptor (TJxc12de k).2.2.1 = some (tyJxc12de k) := by decide +kernel
abbrev cJxc12de_init_da8c8 : ByteArray := prog_22_method_1_code
def yJxc12de_init_da8c8 : MethodName := ⟨RJxc12de, "<init>", "()V"⟩
def RJx4a65c : String := "java/util/ArrayList"
def TJx4a65c : u_T := fun k => match k with
  | 0 => ("java/util/AbstractList", "modCount", "I", false)
  | 1 => ("java/util/ArrayList", "elementData", "[Ljava/lang/Object;", false)
  | _ => ("java/util/ArrayList", "size", "I", false)
def tyJx4a65c : Nat → FieldType := fun k => match k with
  | 0 => .int
  | 1 => .array (.object "java/lang/Object")
  | _ => .int
abbrev wsJx4a65c0 : List Cond := u_ws RJx4a65c TJx4a65c 3
theorem nmJx4a65c : ∀ a, a < 3 → ∀ b, b < 3 → a ≠ b → (TJx4a65c a).2.1 ≠ (TJx4a65c b).2.1 := by decide +kernel
theorem tyJx4a65c_ok : ∀ k, k < 3 → parseFieldDescriptor (TJx4a65c k).2.2.1 = some (tyJx4a65c k) := by decide +kernel
abbrev cJx4a65c_init_da8c8 : ByteArray := prog_23_method_2_code
def yJx4a65c_init_da8c8 : MethodName := ⟨RJx4a65c, "<init>", "()V"⟩
abbrev cJx4a65c_grow_92f84 : ByteArray := prog_23_method_6_code
def yJx4a65c_grow_92f84 : MethodName := ⟨RJx4a65c, "grow", "(I)[Ljava/lang/Object;"⟩
abbrev cJx4a65c_grow_d5877 : ByteArray := prog_23_method_7_code
def yJx4a65c_grow_d5877 : MethodName := ⟨RJx4a65c, "grow", "()[Ljava/lang/Object;"⟩
abbrev cJx4a65c_size_8abf5 : ByteArray := prog_23_method_8_code
def yJx4a65c_size_8abf5 : MethodName := ⟨RJx4a65c, "size", "()I"⟩
abbrev cJx4a65c_elementData_915e3 : ByteArray := prog_23_method_18_code
def yJx4a65c_elementData_915e3 : MethodName := ⟨RJx4a65c, "elementData", "(I)Ljava/lang/Object;"⟩
abbrev cJx4a65c_get_915e3 : ByteArray := prog_23_method_20_code
def yJx4a65c_get_915e3 : MethodName := ⟨RJx4a65c, "get", "(I)Ljava/lang/Object;"⟩
abbrev cJx4a65c_add_72be8 : ByteArray := prog_23_method_24_code
def yJx4a65c_add_72be8 : MethodName := ⟨RJx4a65c, "add", "(Ljava/lang/Object;[Ljava/lang/Object;I)V"⟩
abbrev cJx4a65c_add_9ea2d : ByteArray := prog_23_method_25_code
def yJx4a65c_add_9ea2d : MethodName := ⟨RJx4a65c, "add", "(Ljava/lang/Object;)Z"⟩
def RJ7 : String := "java/util/Arrays"
def TJ7 : u_T := fun k => match k with
  | _ => ("", "", "", false)
def tyJ7 : Nat → FieldType := fun k => match k with
  | _ => .int
abbrev wsJ70 : List Cond := u_ws RJ7 TJ7 0
theorem nmJ7 : ∀ a, a < 0 → ∀ b, b < 0 → a ≠ b → (TJ7 a).2.1 ≠ (TJ7 b).2.1 := by decide +kernel
theorem tyJ7_ok : ∀ k, k < 0 → parseFieldDescriptor (TJ7 k).2.2.1 = some (tyJ7 k) := by decide +kernel
abbrev cJ7_copyOf_1904c : ByteArray := prog_24_method_119_code
def yJ7_copyOf_1904c : MethodName := ⟨RJ7, "copyOf", "([Ljava/lang/Object;I)[Ljava/lang/Object;"⟩
abbrev cJ7_copyOf_6403c : ByteArray := prog_24_method_120_code
def yJ7_copyOf_6403c : MethodName := ⟨RJ7, "copyOf", "([Ljava/lang/Object;ILjava/lang/Class;)[Ljava/lang/Object;"⟩
def RJx5ef63 : String := "java/util/Collection"
def TJx5ef63 : u_T := fun k => match k with
  | _ => ("", "", "", false)
def tyJx5ef63 : Nat → FieldType := fun k => match k with
  | _ => .int
abbrev wsJx5ef630 : List Cond := u_ws RJx5ef63 TJx5ef63 0
theorem nmJx5ef63 : ∀ a, a < 0 → ∀ b, b < 0 → a ≠ b → (TJx5ef63 a).2.1 ≠ (TJx5ef63 b).2.1 := by decide +kernel
theorem tyJx5ef63_ok : ∀ k, k < 0 → parseFieldDescriptor (TJx5ef63 k).2.2.1 = some (tyJx5ef63 k) := by decide +kernel
def RJxbd725 : String := "java/util/List"
def TJxbd725 : u_T := fun k => match k with
  | _ => ("", "", "", false)
def tyJxbd725 : Nat → FieldType := fun k => match k with
  | _ => .int
abbrev wsJxbd7250 : List Cond := u_ws RJxbd725 TJxbd725 0
theorem nmJxbd725 : ∀ a, a < 0 → ∀ b, b < 0 → a ≠ b → (TJxbd725 a).2.1 ≠ (TJxbd725 b).2.1 := by decide +kernel
theorem tyJxbd725_ok : ∀ k, k < 0 → parseFieldDescriptor (TJxbd725 k).2.2.1 = some (tyJxbd725 k) := by decide +kernel
def RJ15 : String := "java/util/Objects"
def TJ15 : u_T := fun k => match k with
  | _ => ("", "", "", false)
def tyJ15 : Nat → FieldType := fun k => match k with
  | _ => .int
abbrev wsJ150 : List Cond := u_ws RJ15 TJ15 0
theorem nmJ15 : ∀ a, a < 0 → ∀ b, b < 0 → a ≠ b → (TJ15 a).2.1 ≠ (TJ15 b).2.1 := by decide +kernel
theorem tyJ15_ok : ∀ k, k < 0 → parseFieldDescriptor (TJ15 k).2.2.1 = some (tyJ15 k) := by decide +kernel
abbrev cJ15_checkIndex_7cf53 : ByteArray := prog_27_method_17_code
def yJ15_checkIndex_7cf53 : MethodName := ⟨RJ15, "checkIndex", "(II)I"⟩
def RJxf0a74 : String := "java/util/RandomAccess"
def TJxf0a74 : u_T := fun k => match k with
  | _ => ("", "", "", false)
def tyJxf0a74 : Nat → FieldType := fun k => match k with
  | _ => .int
abbrev wsJxf0a740 : List Cond := u_ws RJxf0a74 TJxf0a74 0
theorem nmJxf0a74 : ∀ a, a < 0 → ∀ b, b < 0 → a ≠ b → (TJxf0a74 a).2.1 ≠ (TJxf0a74 b).2.1 := by decide +kernel
theorem tyJxf0a74_ok : ∀ k, k < 0 → parseFieldDescriptor (TJxf0a74 k).2.2.1 = some (tyJxf0a74 k) := by decide +kernel
def RJxa66e6 : String := "java/util/SequencedCollection"
def TJxa66e6 : u_T := fun k => match k with
  | _ => ("", "", "", false)
def tyJxa66e6 : Nat → FieldType := fun k => match k with
  | _ => .int
abbrev wsJxa66e60 : List Cond := u_ws RJxa66e6 TJxa66e6 0
theorem nmJxa66e6 : ∀ a, a < 0 → ∀ b, b < 0 → a ≠ b → (TJxa66e6 a).2.1 ≠ (TJxa66e6 b).2.1 := by decide +kernel
theorem tyJxa66e6_ok : ∀ k, k < 0 → parseFieldDescriptor (TJxa66e6 k).2.2.1 = some (tyJxa66e6 k) := by decide +kernel
def RJ8 : String := "jdk/internal/util/ArraysSupport"
def TJ8 : u_T := fun k => match k with
  | _ => ("", "", "", false)
def tyJ8 : Nat → FieldType := fun k => match k with
  | _ => .int
abbrev wsJ80 : List Cond := u_ws RJ8 TJ8 0
theorem nmJ8 : ∀ a, a < 0 → ∀ b, b < 0 → a ≠ b → (TJ8 a).2.1 ≠ (TJ8 b).2.1 := by decide +kernel
theorem tyJ8_ok : ∀ k, k < 0 → parseFieldDescriptor (TJ8 k).2.2.1 = some (tyJ8 k) := by decide +kernel
abbrev cJ8_newLength_cabcc : ByteArray := prog_30_method_27_code
def yJ8_newLength_cabcc : MethodName := ⟨RJ8, "newLength", "(III)I"⟩
abbrev cJ8_hugeLength_7cf53 : ByteArray := prog_30_method_28_code
def yJ8_hugeLength_7cf53 : MethodName := ⟨RJ8, "hugeLength", "(II)I"⟩
def RJ3 : String := "jdk/internal/util/Preconditions"
def TJ3 : u_T := fun k => match k with
  | _ => ("", "", "", false)
def tyJ3 : Nat → FieldType := fun k => match k with
  | _ => .int
abbrev wsJ30 : List Cond := u_ws RJ3 TJ3 0
theorem nmJ3 : ∀ a, a < 0 → ∀ b, b < 0 → a ≠ b → (TJ3 a).2.1 ≠ (TJ3 b).2.1 := by decide +kernel
theorem tyJ3_ok : ∀ k, k < 0 → parseFieldDescriptor (TJ3 k).2.2.1 = some (tyJ3 k) := by decide +kernel
abbrev cJ3_checkIndex_8e157 : ByteArray := prog_31_method_11_code
def yJ3_checkIndex_8e157 : MethodName := ⟨RJ3, "checkIndex", "(IILjava/util/function/BiFunction;)I"⟩
def RL : String := "GlacierBookLaw"
abbrev cL_setCut : ByteArray := method_3_code
def yL_setCut : MethodName := ⟨RL, "setCut", "(LGlacierBook;III[J)I"⟩
abbrev cL_setWarm : ByteArray := method_4_code
def yL_setWarm : MethodName := ⟨RL, "setWarm", "(LGlacierBook;IZ[J)I"⟩
abbrev cL_setFrost : ByteArray := method_5_code
def yL_setFrost : MethodName := ⟨RL, "setFrost", "(LGlacierBook;II[J)I"⟩
abbrev cL_fill : ByteArray := method_6_code
def yL_fill : MethodName := ⟨RL, "fill", "(LGlacierBook;IIII[J)I"⟩
abbrev cL_move : ByteArray := method_7_code
def yL_move : MethodName := ⟨RL, "move", "(LGlacierBook;III[J)I"⟩
abbrev cL_count : ByteArray := method_8_code
def yL_count : MethodName := ⟨RL, "count", "(LGlacierBook;II[J)I"⟩
abbrev cL_setPeople : ByteArray := method_9_code
def yL_setPeople : MethodName := ⟨RL, "setPeople", "(LGlacierBook;II[J)I"⟩
abbrev cL_pass : ByteArray := method_10_code
def yL_pass : MethodName := ⟨RL, "pass", "(LGlacierBook;I[J)I"⟩
abbrev cL_nextCrew : ByteArray := method_11_code
def yL_nextCrew : MethodName := ⟨RL, "nextCrew", "(LGlacierBook;[J)I"⟩
abbrev cL_hunger : ByteArray := method_12_code
def yL_hunger : MethodName := ⟨RL, "hunger", "(LGlacierBook;I[J)I"⟩
abbrev cL_amount : ByteArray := method_13_code
def yL_amount : MethodName := ⟨RL, "amount", "(LGlacierBook;I[J)I"⟩
abbrev cL_about : ByteArray := method_14_code
def yL_about : MethodName := ⟨RL, "about", "(LGlacierBook;I[J)I"⟩
abbrev cL_stock : ByteArray := method_15_code
def yL_stock : MethodName := ⟨RL, "stock", "(LGlacierBook;II[J)I"⟩
abbrev cL_stockByJournal : ByteArray := method_16_code
def yL_stockByJournal : MethodName := ⟨RL, "stockByJournal", "(LGlacierBook;II[J)I"⟩
abbrev cL_changeOf : ByteArray := method_17_code
def yL_changeOf : MethodName := ⟨RL, "changeOf", "(LGlacierBook;I[J)I"⟩
abbrev cL_lotOf : ByteArray := method_18_code
def yL_lotOf : MethodName := ⟨RL, "lotOf", "(LGlacierBook;I[J)I"⟩
abbrev cL_changed : ByteArray := method_19_code
def yL_changed : MethodName := ⟨RL, "changed", "(LGlacierBook;II[J)I"⟩
abbrev cL_law : ByteArray := code
def yL_law : MethodName := ⟨RL, "law", "([I)Z"⟩
def wsX0_init : List Cond := .code yX0_init cX0_init 1 none :: ([.methodLink RX0 3 objectInit, .instanceMethod objectInit, .code objectInit ⟨#[0xb1]⟩ 1 none, .fieldLink RX0 9 "GlacierBook$Days" "from" "I", .fieldLink RX0 15 "GlacierBook$Days" "to" "I"] ++ wsX00)
def wsX0_become : List Cond := .code yX0_become cX0_become 3 none :: ([.fieldLink RX0 9 "GlacierBook$Days" "from" "I", .fieldLink RX0 15 "GlacierBook$Days" "to" "I"] ++ wsX00)
def wsX0_include : List Cond := .code yX0_include cX0_include 2 (some .boolean) :: ([.fieldLink RX0 9 "GlacierBook$Days" "from" "I", .fieldLink RX0 15 "GlacierBook$Days" "to" "I"] ++ wsX00)
def wsX1_init : List Cond := .code yX1_init cX1_init 3 none :: ([.methodLink RX1 1 objectInit, .instanceMethod objectInit, .code objectInit ⟨#[0xb1]⟩ 1 none, .classLink RX1 7 RX0, .instantiable RX0 2, .initialized RX0, .fieldLink RX1 10 "GlacierBook$Depot" "cut" "LGlacierBook$Days;", .fieldLink RX1 16 "GlacierBook$Depot" "number" "I", .fieldLink RX1 20 "GlacierBook$Depot" "warm" "Z", .instanceMethod yX0_init, .code yX0_init cX0_init 1 none, .methodLink RX0 3 objectInit, .fieldLink RX0 9 "GlacierBook$Days" "from" "I", .fieldLink RX0 15 "GlacierBook$Days" "to" "I"] ++ wsX00 ++ wsX10)
def wsX2_init : List Cond := .code yX2_init cX2_init 5 none :: ([.methodLink RX2 1 objectInit, .instanceMethod objectInit, .code objectInit ⟨#[0xb1]⟩ 1 none, .fieldLink RX2 7 "GlacierBook$Entry" "crew" "I", .fieldLink RX2 13 "GlacierBook$Entry" "lot" "LGlacierBook$Lot;", .fieldLink RX2 17 "GlacierBook$Entry" "change" "I", .fieldLink RX2 20 "GlacierBook$Entry" "cause" "I"] ++ wsX20)
def wsX3_init : List Cond := .code yX3_init cX3_init 5 none :: ([.methodLink RX3 3 objectInit, .instanceMethod objectInit, .code objectInit ⟨#[0xb1]⟩ 1 none, .fieldLink RX3 9 "GlacierBook$Lot" "amount" "I", .fieldLink RX3 15 "GlacierBook$Lot" "number" "I", .fieldLink RX3 18 "GlacierBook$Lot" "depot" "LGlacierBook$Depot;", .fieldLink RX3 22 "GlacierBook$Lot" "good" "I", .fieldLink RX3 25 "GlacierBook$Lot" "lastDay" "I"] ++ wsX30)
def wsX3_isOf : List Cond := .code yX3_isOf cX3_isOf 3 (some .boolean) :: ([.fieldLink RX3 18 "GlacierBook$Lot" "depot" "LGlacierBook$Depot;", .fieldLink RX3 28 "GlacierBook$Depot" "number" "I", .fieldLink RX3 22 "GlacierBook$Lot" "good" "I"] ++ wsX30 ++ wsX10)
def wsX3_isFoodInStation : List Cond := .code yX3_isFoodInStation cX3_isFoodInStation 1 (some .boolean) :: ([.fieldLink RX3 18 "GlacierBook$Lot" "depot" "LGlacierBook$Depot;", .fieldLink RX3 28 "GlacierBook$Depot" "number" "I", .fieldLink RX3 22 "GlacierBook$Lot" "good" "I"] ++ wsX30 ++ wsX10)
def wsX4_init : List Cond := .code yX4_init cX4_init 2 none :: ([.methodLink RX4 1 objectInit, .instanceMethod objectInit, .code objectInit ⟨#[0xb1]⟩ 1 none, .fieldLink RX4 7 "GlacierBook$Workers" "people" "I", .fieldLink RX4 13 "GlacierBook$Workers" "ration" "I", .fieldLink RX4 16 "GlacierBook$Workers" "missed" "I", .fieldLink RX4 19 "GlacierBook$Workers" "unitsEach" "I"] ++ wsX40)
def wsX4_need : List Cond := .code yX4_need cX4_need 1 (some .int) :: ([.fieldLink RX4 7 "GlacierBook$Workers" "people" "I", .fieldLink RX4 19 "GlacierBook$Workers" "unitsEach" "I"] ++ wsX40)
def wsJxa1e45_init_da8c8 : List Cond := .code yJxa1e45_init_da8c8 cJxa1e45_init_da8c8 1 none :: ([.methodLink RJxa1e45 1 objectInit, .instanceMethod objectInit, .code objectInit ⟨#[0xb1]⟩ 1 none])
def wsJxc12de_init_da8c8 : List Cond := .code yJxc12de_init_da8c8 cJxc12de_init_da8c8 1 none :: ([.fieldLink RJxc12de 7 "java/util/AbstractList" "modCount" "I", .methodLink RJxc12de 1 yJxa1e45_init_da8c8, .instanceMethod yJxa1e45_init_da8c8, .initialized RJxa1e45, .code yJxa1e45_init_da8c8 cJxa1e45_init_da8c8 1 none, .methodLink RJxa1e45 1 objectInit, .instanceMethod objectInit, .code objectInit ⟨#[0xb1]⟩ 1 none] ++ wsJx4a65c0)
def wsJx4a65c_init_da8c8 : List Cond := .code yJx4a65c_init_da8c8 cJx4a65c_init_da8c8 1 none :: ([.fieldLink RJx4a65c 39 "java/util/ArrayList" "DEFAULTCAPACITY_EMPTY_ELEMENTDATA" "[Ljava/lang/Object;", .fieldLink RJx4a65c 9 "java/util/ArrayList" "elementData" "[Ljava/lang/Object;", .methodLink RJx4a65c 1 yJxc12de_init_da8c8, .instanceMethod yJxc12de_init_da8c8, .initialized RJxc12de, .code yJxc12de_init_da8c8 cJxc12de_init_da8c8 1 none, .fieldLink RJxc12de 7 "java/util/AbstractList" "modCount" "I", .methodLink RJxc12de 1 yJxa1e45_init_da8c8, .instanceMethod yJxa1e45_init_da8c8, .initialized RJxa1e45, .code yJxa1e45_init_da8c8 cJxa1e45_init_da8c8 1 none, .methodLink RJxa1e45 1 objectInit, .instanceMethod objectInit, .code objectInit ⟨#[0xb1]⟩ 1 none] ++ wsJx4a65c0)
def wsJ8_hugeLength_7cf53 : List Cond := .code yJ8_hugeLength_7cf53 cJ8_hugeLength_7cf53 3 (some .int) :: ([.constant RJ8 200 (2147483639)])
def wsJ8_newLength_cabcc : List Cond := .code yJ8_newLength_cabcc cJ8_newLength_cabcc 4 (some .int) :: ([.methodLink RJ8 194 Lib.Math.max.name, .static Lib.Math.max.name, .initialized "java/lang/Math", .code Lib.Math.max.name Lib.Math.max.code 2 (some .int), .constant RJ8 200 (2147483639), .methodLink RJ8 201 yJ8_hugeLength_7cf53, .static yJ8_hugeLength_7cf53, .initialized RJ8, .code yJ8_hugeLength_7cf53 cJ8_hugeLength_7cf53 3 (some .int)])
def wsJ7_copyOf_6403c : List Cond := .code yJ7_copyOf_6403c cJ7_copyOf_6403c 4 (some (.array (.object "java/lang/Object"))) :: ([.classLink RJ7 110 "[Ljava/lang/Object;", .classLink RJ7 2 "java/lang/Object", .methodLink RJ7 304 Lib.Math.min.name, .static Lib.Math.min.name, .initialized "java/lang/Math", .code Lib.Math.min.name Lib.Math.min.code 2 (some .int), .methodLink RJ7 150 arraycopyName, .native arraycopyName, .static arraycopyName, .initialized "java/lang/System"])
def wsJ7_copyOf_1904c : List Cond := .code yJ7_copyOf_1904c cJ7_copyOf_1904c 2 (some (.array (.object "java/lang/Object"))) :: ([.methodLink RJ7 86 ⟨"java/lang/Object", "getClass", "()Ljava/lang/Class;"⟩, .selects "[Ljava/lang/Object;" ⟨"java/lang/Object", "getClass", "()Ljava/lang/Class;"⟩ ⟨"java/lang/Object", "getClass", "()Ljava/lang/Class;"⟩, .instanceMethod ⟨"java/lang/Object", "getClass", "()Ljava/lang/Class;"⟩, .native ⟨"java/lang/Object", "getClass", "()Ljava/lang/Class;"⟩, .methodLink RJ7 300 yJ7_copyOf_6403c, .static yJ7_copyOf_6403c, .initialized RJ7, .code yJ7_copyOf_6403c cJ7_copyOf_6403c 4 (some (.array (.object "java/lang/Object"))), .classLink RJ7 110 "[Ljava/lang/Object;", .classLink RJ7 2 "java/lang/Object", .methodLink RJ7 304 Lib.Math.min.name, .static Lib.Math.min.name, .initialized "java/lang/Math", .code Lib.Math.min.name Lib.Math.min.code 2 (some .int), .methodLink RJ7 150 arraycopyName, .native arraycopyName, .static arraycopyName, .initialized "java/lang/System"])
def wsJx4a65c_grow_92f84_r1 : List Cond := [Cond.fieldLink RJx4a65c 9 "java/util/ArrayList" "elementData" "[Ljava/lang/Object;", Cond.fieldLink RJx4a65c 39 "java/util/ArrayList" "DEFAULTCAPACITY_EMPTY_ELEMENTDATA" "[Ljava/lang/Object;", Cond.methodLink RJx4a65c 79 Lib.Math.max.name, Cond.static Lib.Math.max.name, Cond.initialized "java/lang/Math", Cond.code Lib.Math.max.name Lib.Math.max.code 2 (some .int), Cond.classLink RJx4a65c 7 "java/lang/Object", Cond.methodLink RJx4a65c 73 yJ8_newLength_cabcc, Cond.static yJ8_newLength_cabcc, Cond.initialized RJ8, Cond.code yJ8_newLength_cabcc cJ8_newLength_cabcc 4 (some .int), Cond.methodLink RJ8 194 Lib.Math.max.name, Cond.constant RJ8 200 (2147483639), Cond.methodLink RJ8 201 yJ8_hugeLength_7cf53, Cond.static yJ8_hugeLength_7cf53, Cond.code yJ8_hugeLength_7cf53 cJ8_hugeLength_7cf53 3 (some .int), Cond.methodLink RJx4a65c 66 yJ7_copyOf_1904c, Cond.static yJ7_copyOf_1904c, Cond.initialized RJ7, Cond.code yJ7_copyOf_1904c cJ7_copyOf_1904c 2 (some (.array (.object "java/lang/Object"))), Cond.methodLink RJ7 86 ⟨"java/lang/Object", "getClass", "()Ljava/lang/Class;"⟩, Cond.selects "[Ljava/lang/Object;" ⟨"java/lang/Object", "getClass", "()Ljava/lang/Class;"⟩ ⟨"java/lang/Object", "getClass", "()Ljava/lang/Class;"⟩, Cond.instanceMethod ⟨"java/lang/Object", "getClass", "()Ljava/lang/Class;"⟩, Cond.native ⟨"java/lang/Object", "getClass", "()Ljava/lang/Class;"⟩]
def wsJx4a65c_grow_92f84_r2 : List Cond := [Cond.methodLink RJ7 300 yJ7_copyOf_6403c, Cond.static yJ7_copyOf_6403c, Cond.code yJ7_copyOf_6403c cJ7_copyOf_6403c 4 (some (.array (.object "java/lang/Object"))), Cond.classLink RJ7 110 "[Ljava/lang/Object;", Cond.classLink RJ7 2 "java/lang/Object", Cond.methodLink RJ7 304 Lib.Math.min.name, Cond.static Lib.Math.min.name, Cond.code Lib.Math.min.name Lib.Math.min.code 2 (some .int), Cond.methodLink RJ7 150 arraycopyName, Cond.native arraycopyName, Cond.static arraycopyName, Cond.initialized "java/lang/System"]
def wsJx4a65c_grow_92f84 : List Cond := .code yJx4a65c_grow_92f84 cJx4a65c_grow_92f84 4 (some (.array (.object "java/lang/Object"))) :: ((wsJx4a65c_grow_92f84_r1 ++ wsJx4a65c_grow_92f84_r2) ++ wsJx4a65c0)
def wsJx4a65c_grow_d5877_r1 : List Cond := [Cond.fieldLink RJx4a65c 48 "java/util/ArrayList" "size" "I", Cond.methodLink RJx4a65c 69 yJx4a65c_grow_92f84, Cond.instanceMethod yJx4a65c_grow_92f84, Cond.selects RJx4a65c yJx4a65c_grow_92f84 yJx4a65c_grow_92f84, Cond.initialized RJx4a65c, Cond.code yJx4a65c_grow_92f84 cJx4a65c_grow_92f84 4 (some (.array (.object "java/lang/Object"))), Cond.fieldLink RJx4a65c 9 "java/util/ArrayList" "elementData" "[Ljava/lang/Object;", Cond.fieldLink RJx4a65c 39 "java/util/ArrayList" "DEFAULTCAPACITY_EMPTY_ELEMENTDATA" "[Ljava/lang/Object;", Cond.methodLink RJx4a65c 79 Lib.Math.max.name, Cond.static Lib.Math.max.name, Cond.initialized "java/lang/Math", Cond.code Lib.Math.max.name Lib.Math.max.code 2 (some .int), Cond.classLink RJx4a65c 7 "java/lang/Object", Cond.methodLink RJx4a65c 73 yJ8_newLength_cabcc, Cond.static yJ8_newLength_cabcc, Cond.initialized RJ8, Cond.code yJ8_newLength_cabcc cJ8_newLength_cabcc 4 (some .int), Cond.methodLink RJ8 194 Lib.Math.max.name, Cond.constant RJ8 200 (2147483639), Cond.methodLink RJ8 201 yJ8_hugeLength_7cf53, Cond.static yJ8_hugeLength_7cf53, Cond.code yJ8_hugeLength_7cf53 cJ8_hugeLength_7cf53 3 (some .int), Cond.methodLink RJx4a65c 66 yJ7_copyOf_1904c, Cond.static yJ7_copyOf_1904c]
def wsJx4a65c_grow_d5877_r2 : List Cond := [Cond.initialized RJ7, Cond.code yJ7_copyOf_1904c cJ7_copyOf_1904c 2 (some (.array (.object "java/lang/Object"))), Cond.methodLink RJ7 86 ⟨"java/lang/Object", "getClass", "()Ljava/lang/Class;"⟩, Cond.selects "[Ljava/lang/Object;" ⟨"java/lang/Object", "getClass", "()Ljava/lang/Class;"⟩ ⟨"java/lang/Object", "getClass", "()Ljava/lang/Class;"⟩, Cond.instanceMethod ⟨"java/lang/Object", "getClass", "()Ljava/lang/Class;"⟩, Cond.native ⟨"java/lang/Object", "getClass", "()Ljava/lang/Class;"⟩, Cond.methodLink RJ7 300 yJ7_copyOf_6403c, Cond.static yJ7_copyOf_6403c, Cond.code yJ7_copyOf_6403c cJ7_copyOf_6403c 4 (some (.array (.object "java/lang/Object"))), Cond.classLink RJ7 110 "[Ljava/lang/Object;", Cond.classLink RJ7 2 "java/lang/Object", Cond.methodLink RJ7 304 Lib.Math.min.name, Cond.static Lib.Math.min.name, Cond.code Lib.Math.min.name Lib.Math.min.code 2 (some .int), Cond.methodLink RJ7 150 arraycopyName, Cond.native arraycopyName, Cond.static arraycopyName, Cond.initialized "java/lang/System"]
def wsJx4a65c_grow_d5877 : List Cond := .code yJx4a65c_grow_d5877 cJx4a65c_grow_d5877 1 (some (.array (.object "java/lang/Object"))) :: ((wsJx4a65c_grow_d5877_r1 ++ wsJx4a65c_grow_d5877_r2) ++ wsJx4a65c0)
def wsJx4a65c_add_72be8_r1 : List Cond := [Cond.fieldLink RJx4a65c 48 "java/util/ArrayList" "size" "I", Cond.methodLink RJx4a65c 129 yJx4a65c_grow_d5877, Cond.instanceMethod yJx4a65c_grow_d5877, Cond.selects RJx4a65c yJx4a65c_grow_d5877 yJx4a65c_grow_d5877, Cond.initialized RJx4a65c, Cond.code yJx4a65c_grow_d5877 cJx4a65c_grow_d5877 1 (some (.array (.object "java/lang/Object"))), Cond.methodLink RJx4a65c 69 yJx4a65c_grow_92f84, Cond.instanceMethod yJx4a65c_grow_92f84, Cond.selects RJx4a65c yJx4a65c_grow_92f84 yJx4a65c_grow_92f84, Cond.code yJx4a65c_grow_92f84 cJx4a65c_grow_92f84 4 (some (.array (.object "java/lang/Object"))), Cond.fieldLink RJx4a65c 9 "java/util/ArrayList" "elementData" "[Ljava/lang/Object;", Cond.fieldLink RJx4a65c 39 "java/util/ArrayList" "DEFAULTCAPACITY_EMPTY_ELEMENTDATA" "[Ljava/lang/Object;", Cond.methodLink RJx4a65c 79 Lib.Math.max.name, Cond.static Lib.Math.max.name, Cond.initialized "java/lang/Math", Cond.code Lib.Math.max.name Lib.Math.max.code 2 (some .int), Cond.classLink RJx4a65c 7 "java/lang/Object", Cond.methodLink RJx4a65c 73 yJ8_newLength_cabcc, Cond.static yJ8_newLength_cabcc, Cond.initialized RJ8, Cond.code yJ8_newLength_cabcc cJ8_newLength_cabcc 4 (some .int), Cond.methodLink RJ8 194 Lib.Math.max.name, Cond.constant RJ8 200 (2147483639), Cond.methodLink RJ8 201 yJ8_hugeLength_7cf53]
def wsJx4a65c_add_72be8_r2 : List Cond := [Cond.static yJ8_hugeLength_7cf53, Cond.code yJ8_hugeLength_7cf53 cJ8_hugeLength_7cf53 3 (some .int), Cond.methodLink RJx4a65c 66 yJ7_copyOf_1904c, Cond.static yJ7_copyOf_1904c, Cond.initialized RJ7, Cond.code yJ7_copyOf_1904c cJ7_copyOf_1904c 2 (some (.array (.object "java/lang/Object"))), Cond.methodLink RJ7 86 ⟨"java/lang/Object", "getClass", "()Ljava/lang/Class;"⟩, Cond.selects "[Ljava/lang/Object;" ⟨"java/lang/Object", "getClass", "()Ljava/lang/Class;"⟩ ⟨"java/lang/Object", "getClass", "()Ljava/lang/Class;"⟩, Cond.instanceMethod ⟨"java/lang/Object", "getClass", "()Ljava/lang/Class;"⟩, Cond.native ⟨"java/lang/Object", "getClass", "()Ljava/lang/Class;"⟩, Cond.methodLink RJ7 300 yJ7_copyOf_6403c, Cond.static yJ7_copyOf_6403c, Cond.code yJ7_copyOf_6403c cJ7_copyOf_6403c 4 (some (.array (.object "java/lang/Object"))), Cond.classLink RJ7 110 "[Ljava/lang/Object;", Cond.classLink RJ7 2 "java/lang/Object", Cond.methodLink RJ7 304 Lib.Math.min.name, Cond.static Lib.Math.min.name, Cond.code Lib.Math.min.name Lib.Math.min.code 2 (some .int), Cond.methodLink RJ7 150 arraycopyName, Cond.native arraycopyName, Cond.static arraycopyName, Cond.initialized "java/lang/System"]
def wsJx4a65c_add_72be8 : List Cond := .code yJx4a65c_add_72be8 cJx4a65c_add_72be8 4 none :: ((wsJx4a65c_add_72be8_r1 ++ wsJx4a65c_add_72be8_r2) ++ wsJx4a65c0)
def wsJx4a65c_add_9ea2d_r1 : List Cond := [Cond.fieldLink RJx4a65c 63 "java/util/ArrayList" "modCount" "I", Cond.sameField "java/util/ArrayList" "java/util/AbstractList" "modCount" "I", Cond.fieldLink RJx4a65c 9 "java/util/ArrayList" "elementData" "[Ljava/lang/Object;", Cond.fieldLink RJx4a65c 48 "java/util/ArrayList" "size" "I", Cond.methodLink RJx4a65c 131 yJx4a65c_add_72be8, Cond.instanceMethod yJx4a65c_add_72be8, Cond.selects RJx4a65c yJx4a65c_add_72be8 yJx4a65c_add_72be8, Cond.initialized RJx4a65c, Cond.code yJx4a65c_add_72be8 cJx4a65c_add_72be8 4 none, Cond.methodLink RJx4a65c 129 yJx4a65c_grow_d5877, Cond.instanceMethod yJx4a65c_grow_d5877, Cond.selects RJx4a65c yJx4a65c_grow_d5877 yJx4a65c_grow_d5877, Cond.code yJx4a65c_grow_d5877 cJx4a65c_grow_d5877 1 (some (.array (.object "java/lang/Object"))), Cond.methodLink RJx4a65c 69 yJx4a65c_grow_92f84, Cond.instanceMethod yJx4a65c_grow_92f84, Cond.selects RJx4a65c yJx4a65c_grow_92f84 yJx4a65c_grow_92f84, Cond.code yJx4a65c_grow_92f84 cJx4a65c_grow_92f84 4 (some (.array (.object "java/lang/Object"))), Cond.fieldLink RJx4a65c 39 "java/util/ArrayList" "DEFAULTCAPACITY_EMPTY_ELEMENTDATA" "[Ljava/lang/Object;", Cond.methodLink RJx4a65c 79 Lib.Math.max.name, Cond.static Lib.Math.max.name, Cond.initialized "java/lang/Math", Cond.code Lib.Math.max.name Lib.Math.max.code 2 (some .int), Cond.classLink RJx4a65c 7 "java/lang/Object", Cond.methodLink RJx4a65c 73 yJ8_newLength_cabcc]
def wsJx4a65c_add_9ea2d_r2 : List Cond := [Cond.static yJ8_newLength_cabcc, Cond.initialized RJ8, Cond.code yJ8_newLength_cabcc cJ8_newLength_cabcc 4 (some .int), Cond.methodLink RJ8 194 Lib.Math.max.name, Cond.constant RJ8 200 (2147483639), Cond.methodLink RJ8 201 yJ8_hugeLength_7cf53, Cond.static yJ8_hugeLength_7cf53, Cond.code yJ8_hugeLength_7cf53 cJ8_hugeLength_7cf53 3 (some .int), Cond.methodLink RJx4a65c 66 yJ7_copyOf_1904c, Cond.static yJ7_copyOf_1904c, Cond.initialized RJ7, Cond.code yJ7_copyOf_1904c cJ7_copyOf_1904c 2 (some (.array (.object "java/lang/Object"))), Cond.methodLink RJ7 86 ⟨"java/lang/Object", "getClass", "()Ljava/lang/Class;"⟩, Cond.selects "[Ljava/lang/Object;" ⟨"java/lang/Object", "getClass", "()Ljava/lang/Class;"⟩ ⟨"java/lang/Object", "getClass", "()Ljava/lang/Class;"⟩, Cond.instanceMethod ⟨"java/lang/Object", "getClass", "()Ljava/lang/Class;"⟩, Cond.native ⟨"java/lang/Object", "getClass", "()Ljava/lang/Class;"⟩, Cond.methodLink RJ7 300 yJ7_copyOf_6403c, Cond.static yJ7_copyOf_6403c, Cond.code yJ7_copyOf_6403c cJ7_copyOf_6403c 4 (some (.array (.object "java/lang/Object"))), Cond.classLink RJ7 110 "[Ljava/lang/Object;", Cond.classLink RJ7 2 "java/lang/Object", Cond.methodLink RJ7 304 Lib.Math.min.name, Cond.static Lib.Math.min.name, Cond.code Lib.Math.min.name Lib.Math.min.code 2 (some .int)]
def wsJx4a65c_add_9ea2d_r3 : List Cond := [Cond.methodLink RJ7 150 arraycopyName, Cond.native arraycopyName, Cond.static arraycopyName, Cond.initialized "java/lang/System"]
def wsJx4a65c_add_9ea2d : List Cond := .code yJx4a65c_add_9ea2d cJx4a65c_add_9ea2d 2 (some .boolean) :: ((wsJx4a65c_add_9ea2d_r1 ++ (wsJx4a65c_add_9ea2d_r2 ++ wsJx4a65c_add_9ea2d_r3)) ++ wsJx4a65c0)
def wsX5_init_r1 : List Cond := [Cond.methodLink RX5 1 objectInit, Cond.instanceMethod objectInit, Cond.code objectInit ⟨#[0xb1]⟩ 1 none, Cond.classLink RX5 7 RJx4a65c, Cond.instantiable RJx4a65c 3, Cond.initialized RJx4a65c, Cond.fieldLink RX5 10 "GlacierBook" "depots" "Ljava/util/ArrayList;", Cond.fieldLink RX5 16 "GlacierBook" "allLots" "Ljava/util/ArrayList;", Cond.fieldLink RX5 19 "GlacierBook" "workers" "Ljava/util/ArrayList;", Cond.fieldLink RX5 22 "GlacierBook" "journal" "Ljava/util/ArrayList;", Cond.classLink RX5 25 RX0, Cond.instantiable RX0 2, Cond.initialized RX0, Cond.fieldLink RX5 28 "GlacierBook" "frost" "LGlacierBook$Days;", Cond.fieldLink RX5 32 "GlacierBook" "day" "I", Cond.fieldLink RX5 36 "GlacierBook" "crew" "I", Cond.classLink RX5 39 RX1, Cond.instantiable RX1 3, Cond.initialized RX1, Cond.classLink RX5 48 RX4, Cond.instantiable RX4 4, Cond.initialized RX4, Cond.methodLink RX5 9 yJx4a65c_init_da8c8, Cond.instanceMethod yJx4a65c_init_da8c8]
def wsX5_init_r2 : List Cond := [Cond.code yJx4a65c_init_da8c8 cJx4a65c_init_da8c8 1 none, Cond.fieldLink RJx4a65c 39 "java/util/ArrayList" "DEFAULTCAPACITY_EMPTY_ELEMENTDATA" "[Ljava/lang/Object;", Cond.fieldLink RJx4a65c 9 "java/util/ArrayList" "elementData" "[Ljava/lang/Object;", Cond.methodLink RJx4a65c 1 yJxc12de_init_da8c8, Cond.instanceMethod yJxc12de_init_da8c8, Cond.initialized RJxc12de, Cond.code yJxc12de_init_da8c8 cJxc12de_init_da8c8 1 none, Cond.fieldLink RJxc12de 7 "java/util/AbstractList" "modCount" "I", Cond.methodLink RJxc12de 1 yJxa1e45_init_da8c8, Cond.instanceMethod yJxa1e45_init_da8c8, Cond.initialized RJxa1e45, Cond.code yJxa1e45_init_da8c8 cJxa1e45_init_da8c8 1 none, Cond.methodLink RJxa1e45 1 objectInit, Cond.instanceMethod yX0_init, Cond.code yX0_init cX0_init 1 none, Cond.methodLink RX0 3 objectInit, Cond.fieldLink RX0 9 "GlacierBook$Days" "from" "I", Cond.fieldLink RX0 15 "GlacierBook$Days" "to" "I", Cond.methodLink RX5 41 yX1_init, Cond.instanceMethod yX1_init, Cond.code yX1_init cX1_init 3 none, Cond.methodLink RX1 1 objectInit, Cond.classLink RX1 7 RX0, Cond.fieldLink RX1 10 "GlacierBook$Depot" "cut" "LGlacierBook$Days;"]
def wsX5_init_r3 : List Cond := [Cond.fieldLink RX1 16 "GlacierBook$Depot" "number" "I", Cond.fieldLink RX1 20 "GlacierBook$Depot" "warm" "Z", Cond.methodLink RX5 44 yJx4a65c_add_9ea2d, Cond.instanceMethod yJx4a65c_add_9ea2d, Cond.selects RJx4a65c yJx4a65c_add_9ea2d yJx4a65c_add_9ea2d, Cond.code yJx4a65c_add_9ea2d cJx4a65c_add_9ea2d 2 (some .boolean), Cond.fieldLink RJx4a65c 63 "java/util/ArrayList" "modCount" "I", Cond.sameField "java/util/ArrayList" "java/util/AbstractList" "modCount" "I", Cond.fieldLink RJx4a65c 48 "java/util/ArrayList" "size" "I", Cond.methodLink RJx4a65c 131 yJx4a65c_add_72be8, Cond.instanceMethod yJx4a65c_add_72be8, Cond.selects RJx4a65c yJx4a65c_add_72be8 yJx4a65c_add_72be8, Cond.code yJx4a65c_add_72be8 cJx4a65c_add_72be8 4 none, Cond.methodLink RJx4a65c 129 yJx4a65c_grow_d5877, Cond.instanceMethod yJx4a65c_grow_d5877, Cond.selects RJx4a65c yJx4a65c_grow_d5877 yJx4a65c_grow_d5877, Cond.code yJx4a65c_grow_d5877 cJx4a65c_grow_d5877 1 (some (.array (.object "java/lang/Object"))), Cond.methodLink RJx4a65c 69 yJx4a65c_grow_92f84, Cond.instanceMethod yJx4a65c_grow_92f84, Cond.selects RJx4a65c yJx4a65c_grow_92f84 yJx4a65c_grow_92f84, Cond.code yJx4a65c_grow_92f84 cJx4a65c_grow_92f84 4 (some (.array (.object "java/lang/Object"))), Cond.methodLink RJx4a65c 79 Lib.Math.max.name, Cond.static Lib.Math.max.name, Cond.initialized "java/lang/Math"]
def wsX5_init_r4 : List Cond := [Cond.code Lib.Math.max.name Lib.Math.max.code 2 (some .int), Cond.classLink RJx4a65c 7 "java/lang/Object", Cond.methodLink RJx4a65c 73 yJ8_newLength_cabcc, Cond.static yJ8_newLength_cabcc, Cond.initialized RJ8, Cond.code yJ8_newLength_cabcc cJ8_newLength_cabcc 4 (some .int), Cond.methodLink RJ8 194 Lib.Math.max.name, Cond.constant RJ8 200 (2147483639), Cond.methodLink RJ8 201 yJ8_hugeLength_7cf53, Cond.static yJ8_hugeLength_7cf53, Cond.code yJ8_hugeLength_7cf53 cJ8_hugeLength_7cf53 3 (some .int), Cond.methodLink RJx4a65c 66 yJ7_copyOf_1904c, Cond.static yJ7_copyOf_1904c, Cond.initialized RJ7, Cond.code yJ7_copyOf_1904c cJ7_copyOf_1904c 2 (some (.array (.object "java/lang/Object"))), Cond.methodLink RJ7 86 ⟨"java/lang/Object", "getClass", "()Ljava/lang/Class;"⟩, Cond.selects "[Ljava/lang/Object;" ⟨"java/lang/Object", "getClass", "()Ljava/lang/Class;"⟩ ⟨"java/lang/Object", "getClass", "()Ljava/lang/Class;"⟩, Cond.instanceMethod ⟨"java/lang/Object", "getClass", "()Ljava/lang/Class;"⟩, Cond.native ⟨"java/lang/Object", "getClass", "()Ljava/lang/Class;"⟩, Cond.methodLink RJ7 300 yJ7_copyOf_6403c, Cond.static yJ7_copyOf_6403c, Cond.code yJ7_copyOf_6403c cJ7_copyOf_6403c 4 (some (.array (.object "java/lang/Object"))), Cond.classLink RJ7 110 "[Ljava/lang/Object;", Cond.classLink RJ7 2 "java/lang/Object"]
def wsX5_init_r5 : List Cond := [Cond.methodLink RJ7 304 Lib.Math.min.name, Cond.static Lib.Math.min.name, Cond.code Lib.Math.min.name Lib.Math.min.code 2 (some .int), Cond.methodLink RJ7 150 arraycopyName, Cond.native arraycopyName, Cond.static arraycopyName, Cond.initialized "java/lang/System", Cond.methodLink RX5 50 yX4_init, Cond.instanceMethod yX4_init, Cond.code yX4_init cX4_init 2 none, Cond.methodLink RX4 1 objectInit, Cond.fieldLink RX4 7 "GlacierBook$Workers" "people" "I", Cond.fieldLink RX4 13 "GlacierBook$Workers" "ration" "I", Cond.fieldLink RX4 16 "GlacierBook$Workers" "missed" "I", Cond.fieldLink RX4 19 "GlacierBook$Workers" "unitsEach" "I"]
def wsX5_init : List Cond := .code yX5_init cX5_init 2 none :: ((wsX5_init_r1 ++ (wsX5_init_r2 ++ (wsX5_init_r3 ++ (wsX5_init_r4 ++ wsX5_init_r5)))) ++ wsJx4a65c0 ++ wsX50 ++ wsX00 ++ wsX10 ++ wsX40)
def wsJx4a65c_size_8abf5 : List Cond := .code yJx4a65c_size_8abf5 cJx4a65c_size_8abf5 1 (some .int) :: ([.fieldLink RJx4a65c 48 "java/util/ArrayList" "size" "I"] ++ wsJx4a65c0)
def wsX5_requireIndex : List Cond := .code yX5_requireIndex cX5_requireIndex 2 none :: ([.classLink RX5 194 "java/lang/IndexOutOfBoundsException", .initialized "java/lang/IndexOutOfBoundsException"] ++ (vx_atS RX5 198 "java/lang/IndexOutOfBoundsException" ["java/lang/RuntimeException", "java/lang/Exception"]).filter goodWord)
def wsX5_requireDepot : List Cond := .code yX5_requireDepot cX5_requireDepot 2 none :: ([.fieldLink RX5 10 "GlacierBook" "depots" "Ljava/util/ArrayList;", .methodLink RX5 90 yJx4a65c_size_8abf5, .instanceMethod yJx4a65c_size_8abf5, .selects RJx4a65c yJx4a65c_size_8abf5 yJx4a65c_size_8abf5, .initialized RJx4a65c, .code yJx4a65c_size_8abf5 cJx4a65c_size_8abf5 1 (some .int), .fieldLink RJx4a65c 48 "java/util/ArrayList" "size" "I", .methodLink RX5 191 yX5_requireIndex, .static yX5_requireIndex, .initialized RX5, .code yX5_requireIndex cX5_requireIndex 2 none, .classLink RX5 194 "java/lang/IndexOutOfBoundsException", .initialized "java/lang/IndexOutOfBoundsException"] ++ wsX50 ++ wsJx4a65c0 ++ (vx_atS RX5 198 "java/lang/IndexOutOfBoundsException" ["java/lang/RuntimeException", "java/lang/Exception"]).filter goodWord)
def wsX5_requireRange : List Cond := .code yX5_requireRange cX5_requireRange 3 none :: ([.classLink RX5 108 "java/lang/IllegalArgumentException", .initialized "java/lang/IllegalArgumentException"] ++ (vx_atS RX5 112 "java/lang/IllegalArgumentException" ["java/lang/RuntimeException", "java/lang/Exception"]).filter goodWord)
def wsX5_requireDays : List Cond := .code yX5_requireDays cX5_requireDays 2 none :: ([.methodLink RX5 81 yX5_requireRange, .static yX5_requireRange, .initialized RX5, .code yX5_requireRange cX5_requireRange 3 none, .classLink RX5 108 "java/lang/IllegalArgumentException", .initialized "java/lang/IllegalArgumentException"] ++ (vx_atS RX5 112 "java/lang/IllegalArgumentException" ["java/lang/RuntimeException", "java/lang/Exception"]).filter goodWord)
def wsJ3_checkIndex_8e157 : List Cond := .code yJ3_checkIndex_8e157 cJ3_checkIndex_8e157 3 (some .int) :: ([])
def wsJ15_checkIndex_7cf53 : List Cond := .code yJ15_checkIndex_7cf53 cJ15_checkIndex_7cf53 2 (some .int) :: ([.methodLink RJ15 105 yJ3_checkIndex_8e157, .static yJ3_checkIndex_8e157, .initialized RJ3, .code yJ3_checkIndex_8e157 cJ3_checkIndex_8e157 3 (some .int)])
def wsJx4a65c_elementData_915e3 : List Cond := .code yJx4a65c_elementData_915e3 cJx4a65c_elementData_915e3 2 (some (.object "java/lang/Object")) :: ([.fieldLink RJx4a65c 9 "java/util/ArrayList" "elementData" "[Ljava/lang/Object;"] ++ wsJx4a65c0)
def wsJx4a65c_get_915e3 : List Cond := .code yJx4a65c_get_915e3 cJx4a65c_get_915e3 2 (some (.object "java/lang/Object")) :: ([.fieldLink RJx4a65c 48 "java/util/ArrayList" "size" "I", .methodLink RJx4a65c 118 yJ15_checkIndex_7cf53, .static yJ15_checkIndex_7cf53, .initialized RJ15, .code yJ15_checkIndex_7cf53 cJ15_checkIndex_7cf53 2 (some .int), .methodLink RJ15 105 yJ3_checkIndex_8e157, .static yJ3_checkIndex_8e157, .initialized RJ3, .code yJ3_checkIndex_8e157 cJ3_checkIndex_8e157 3 (some .int), .methodLink RJx4a65c 123 yJx4a65c_elementData_915e3, .instanceMethod yJx4a65c_elementData_915e3, .selects RJx4a65c yJx4a65c_elementData_915e3 yJx4a65c_elementData_915e3, .initialized RJx4a65c, .code yJx4a65c_elementData_915e3 cJx4a65c_elementData_915e3 2 (some (.object "java/lang/Object")), .fieldLink RJx4a65c 9 "java/util/ArrayList" "elementData" "[Ljava/lang/Object;"] ++ wsJx4a65c0)
def wsX5_setCut_r1 : List Cond := [Cond.fieldLink RX5 10 "GlacierBook" "depots" "Ljava/util/ArrayList;", Cond.classLink RX5 39 "GlacierBook$Depot", Cond.fieldLink RX5 64 "GlacierBook$Depot" "cut" "LGlacierBook$Days;", Cond.fieldLink RX5 32 "GlacierBook" "day" "I", Cond.methodLink RX5 53 yX5_requireDepot, Cond.instanceMethod yX5_requireDepot, Cond.selects RX5 yX5_requireDepot yX5_requireDepot, Cond.initialized RX5, Cond.code yX5_requireDepot cX5_requireDepot 2 none, Cond.methodLink RX5 90 yJx4a65c_size_8abf5, Cond.instanceMethod yJx4a65c_size_8abf5, Cond.selects RJx4a65c yJx4a65c_size_8abf5 yJx4a65c_size_8abf5, Cond.initialized RJx4a65c, Cond.code yJx4a65c_size_8abf5 cJx4a65c_size_8abf5 1 (some .int), Cond.fieldLink RJx4a65c 48 "java/util/ArrayList" "size" "I", Cond.methodLink RX5 191 yX5_requireIndex, Cond.static yX5_requireIndex, Cond.code yX5_requireIndex cX5_requireIndex 2 none, Cond.classLink RX5 194 "java/lang/IndexOutOfBoundsException", Cond.initialized "java/lang/IndexOutOfBoundsException", Cond.methodLink RX5 56 yX5_requireDays, Cond.static yX5_requireDays, Cond.code yX5_requireDays cX5_requireDays 2 none, Cond.methodLink RX5 81 yX5_requireRange]
def wsX5_setCut_r2 : List Cond := [Cond.static yX5_requireRange, Cond.code yX5_requireRange cX5_requireRange 3 none, Cond.classLink RX5 108 "java/lang/IllegalArgumentException", Cond.initialized "java/lang/IllegalArgumentException", Cond.methodLink RX5 60 yJx4a65c_get_915e3, Cond.instanceMethod yJx4a65c_get_915e3, Cond.selects RJx4a65c yJx4a65c_get_915e3 yJx4a65c_get_915e3, Cond.code yJx4a65c_get_915e3 cJx4a65c_get_915e3 2 (some (.object "java/lang/Object")), Cond.methodLink RJx4a65c 118 yJ15_checkIndex_7cf53, Cond.static yJ15_checkIndex_7cf53, Cond.initialized RJ15, Cond.code yJ15_checkIndex_7cf53 cJ15_checkIndex_7cf53 2 (some .int), Cond.methodLink RJ15 105 yJ3_checkIndex_8e157, Cond.static yJ3_checkIndex_8e157, Cond.initialized RJ3, Cond.code yJ3_checkIndex_8e157 cJ3_checkIndex_8e157 3 (some .int), Cond.methodLink RJx4a65c 123 yJx4a65c_elementData_915e3, Cond.instanceMethod yJx4a65c_elementData_915e3, Cond.selects RJx4a65c yJx4a65c_elementData_915e3 yJx4a65c_elementData_915e3, Cond.code yJx4a65c_elementData_915e3 cJx4a65c_elementData_915e3 2 (some (.object "java/lang/Object")), Cond.fieldLink RJx4a65c 9 "java/util/ArrayList" "elementData" "[Ljava/lang/Object;", Cond.methodLink RX5 67 yX0_become, Cond.instanceMethod yX0_become, Cond.selects RX0 yX0_become yX0_become]
def wsX5_setCut_r3 : List Cond := [Cond.initialized RX0, Cond.code yX0_become cX0_become 3 none, Cond.fieldLink RX0 9 "GlacierBook$Days" "from" "I", Cond.fieldLink RX0 15 "GlacierBook$Days" "to" "I", Cond.methodLink RX5 70 yX0_include, Cond.instanceMethod yX0_include, Cond.selects RX0 yX0_include yX0_include, Cond.code yX0_include cX0_include 2 (some .boolean)]
def wsX5_setCut : List Cond := .code yX5_setCut cX5_setCut 5 (some .boolean) :: ((wsX5_setCut_r1 ++ (wsX5_setCut_r2 ++ wsX5_setCut_r3)) ++ wsX50 ++ wsX10 ++ wsJx4a65c0 ++ wsX00 ++ (vx_atS RX5 198 "java/lang/IndexOutOfBoundsException" ["java/lang/RuntimeException", "java/lang/Exception"]).filter goodWord ++ (vx_atS RX5 112 "java/lang/IllegalArgumentException" ["java/lang/RuntimeException", "java/lang/Exception"]).filter goodWord)
def wsX5_setWarm_r1 : List Cond := [Cond.fieldLink RX5 10 "GlacierBook" "depots" "Ljava/util/ArrayList;", Cond.classLink RX5 39 "GlacierBook$Depot", Cond.fieldLink RX5 74 "GlacierBook$Depot" "warm" "Z", Cond.methodLink RX5 53 yX5_requireDepot, Cond.instanceMethod yX5_requireDepot, Cond.selects RX5 yX5_requireDepot yX5_requireDepot, Cond.initialized RX5, Cond.code yX5_requireDepot cX5_requireDepot 2 none, Cond.methodLink RX5 90 yJx4a65c_size_8abf5, Cond.instanceMethod yJx4a65c_size_8abf5, Cond.selects RJx4a65c yJx4a65c_size_8abf5 yJx4a65c_size_8abf5, Cond.initialized RJx4a65c, Cond.code yJx4a65c_size_8abf5 cJx4a65c_size_8abf5 1 (some .int), Cond.fieldLink RJx4a65c 48 "java/util/ArrayList" "size" "I", Cond.methodLink RX5 191 yX5_requireIndex, Cond.static yX5_requireIndex, Cond.code yX5_requireIndex cX5_requireIndex 2 none, Cond.classLink RX5 194 "java/lang/IndexOutOfBoundsException", Cond.initialized "java/lang/IndexOutOfBoundsException", Cond.methodLink RX5 60 yJx4a65c_get_915e3, Cond.instanceMethod yJx4a65c_get_915e3, Cond.selects RJx4a65c yJx4a65c_get_915e3 yJx4a65c_get_915e3, Cond.code yJx4a65c_get_915e3 cJx4a65c_get_915e3 2 (some (.object "java/lang/Object")), Cond.methodLink RJx4a65c 118 yJ15_checkIndex_7cf53]
def wsX5_setWarm_r2 : List Cond := [Cond.static yJ15_checkIndex_7cf53, Cond.initialized RJ15, Cond.code yJ15_checkIndex_7cf53 cJ15_checkIndex_7cf53 2 (some .int), Cond.methodLink RJ15 105 yJ3_checkIndex_8e157, Cond.static yJ3_checkIndex_8e157, Cond.initialized RJ3, Cond.code yJ3_checkIndex_8e157 cJ3_checkIndex_8e157 3 (some .int), Cond.methodLink RJx4a65c 123 yJx4a65c_elementData_915e3, Cond.instanceMethod yJx4a65c_elementData_915e3, Cond.selects RJx4a65c yJx4a65c_elementData_915e3 yJx4a65c_elementData_915e3, Cond.code yJx4a65c_elementData_915e3 cJx4a65c_elementData_915e3 2 (some (.object "java/lang/Object")), Cond.fieldLink RJx4a65c 9 "java/util/ArrayList" "elementData" "[Ljava/lang/Object;"]
def wsX5_setWarm : List Cond := .code yX5_setWarm cX5_setWarm 5 (some .boolean) :: ((wsX5_setWarm_r1 ++ wsX5_setWarm_r2) ++ wsX50 ++ wsX10 ++ wsJx4a65c0 ++ (vx_atS RX5 198 "java/lang/IndexOutOfBoundsException" ["java/lang/RuntimeException", "java/lang/Exception"]).filter goodWord)
def wsX5_setFrost : List Cond := .code yX5_setFrost cX5_setFrost 3 (some .boolean) :: ([.fieldLink RX5 28 "GlacierBook" "frost" "LGlacierBook$Days;", .fieldLink RX5 32 "GlacierBook" "day" "I", .methodLink RX5 56 yX5_requireDays, .static yX5_requireDays, .initialized RX5, .code yX5_requireDays cX5_requireDays 2 none, .methodLink RX5 81 yX5_requireRange, .static yX5_requireRange, .code yX5_requireRange cX5_requireRange 3 none, .classLink RX5 108 "java/lang/IllegalArgumentException", .initialized "java/lang/IllegalArgumentException", .methodLink RX5 67 yX0_become, .instanceMethod yX0_become, .selects RX0 yX0_become yX0_become, .initialized RX0, .code yX0_become cX0_become 3 none, .fieldLink RX0 9 "GlacierBook$Days" "from" "I", .fieldLink RX0 15 "GlacierBook$Days" "to" "I", .methodLink RX5 70 yX0_include, .instanceMethod yX0_include, .selects RX0 yX0_include yX0_include, .code yX0_include cX0_include 2 (some .boolean)] ++ wsX50 ++ wsX00 ++ (vx_atS RX5 112 "java/lang/IllegalArgumentException" ["java/lang/RuntimeException", "java/lang/Exception"]).filter goodWord)
def wsX5_requireGood : List Cond := .code yX5_requireGood cX5_requireGood 2 none :: ([.methodLink RX5 191 yX5_requireIndex, .static yX5_requireIndex, .initialized RX5, .code yX5_requireIndex cX5_requireIndex 2 none, .classLink RX5 194 "java/lang/IndexOutOfBoundsException", .initialized "java/lang/IndexOutOfBoundsException"] ++ (vx_atS RX5 198 "java/lang/IndexOutOfBoundsException" ["java/lang/RuntimeException", "java/lang/Exception"]).filter goodWord)
def wsX5_requireRoomForLot : List Cond := .code yX5_requireRoomForLot cX5_requireRoomForLot 1 none :: ([.classLink RX5 122 "java/lang/IllegalStateException", .initialized "java/lang/IllegalStateException", .fieldLink RX5 16 "GlacierBook" "allLots" "Ljava/util/ArrayList;", .methodLink RX5 90 yJx4a65c_size_8abf5, .instanceMethod yJx4a65c_size_8abf5, .selects RJx4a65c yJx4a65c_size_8abf5 yJx4a65c_size_8abf5, .initialized RJx4a65c, .code yJx4a65c_size_8abf5 cJx4a65c_size_8abf5 1 (some .int), .fieldLink RJx4a65c 48 "java/util/ArrayList" "size" "I"] ++ wsX50 ++ wsJx4a65c0 ++ (vx_atS RX5 126 "java/lang/IllegalStateException" ["java/lang/RuntimeException", "java/lang/Exception"]).filter goodWord)
def wsX5_changeAmount_r1 : List Cond := [Cond.fieldLink RX5 119 "GlacierBook$Lot" "amount" "I", Cond.fieldLink RX5 22 "GlacierBook" "journal" "Ljava/util/ArrayList;", Cond.constant RX5 205 (65536), Cond.classLink RX5 166 RX2, Cond.instantiable RX2 4, Cond.initialized RX2, Cond.fieldLink RX5 36 "GlacierBook" "crew" "I", Cond.methodLink RX5 90 yJx4a65c_size_8abf5, Cond.instanceMethod yJx4a65c_size_8abf5, Cond.selects RJx4a65c yJx4a65c_size_8abf5 yJx4a65c_size_8abf5, Cond.initialized RJx4a65c, Cond.code yJx4a65c_size_8abf5 cJx4a65c_size_8abf5 1 (some .int), Cond.fieldLink RJx4a65c 48 "java/util/ArrayList" "size" "I", Cond.methodLink RX5 206 yX2_init, Cond.instanceMethod yX2_init, Cond.code yX2_init cX2_init 5 none, Cond.methodLink RX2 1 objectInit, Cond.instanceMethod objectInit, Cond.code objectInit ⟨#[0xb1]⟩ 1 none, Cond.fieldLink RX2 7 "GlacierBook$Entry" "crew" "I", Cond.fieldLink RX2 13 "GlacierBook$Entry" "lot" "LGlacierBook$Lot;", Cond.fieldLink RX2 17 "GlacierBook$Entry" "change" "I", Cond.fieldLink RX2 20 "GlacierBook$Entry" "cause" "I", Cond.methodLink RX5 44 yJx4a65c_add_9ea2d]
def wsX5_changeAmount_r2 : List Cond := [Cond.instanceMethod yJx4a65c_add_9ea2d, Cond.selects RJx4a65c yJx4a65c_add_9ea2d yJx4a65c_add_9ea2d, Cond.code yJx4a65c_add_9ea2d cJx4a65c_add_9ea2d 2 (some .boolean), Cond.fieldLink RJx4a65c 63 "java/util/ArrayList" "modCount" "I", Cond.sameField "java/util/ArrayList" "java/util/AbstractList" "modCount" "I", Cond.fieldLink RJx4a65c 9 "java/util/ArrayList" "elementData" "[Ljava/lang/Object;", Cond.methodLink RJx4a65c 131 yJx4a65c_add_72be8, Cond.instanceMethod yJx4a65c_add_72be8, Cond.selects RJx4a65c yJx4a65c_add_72be8 yJx4a65c_add_72be8, Cond.code yJx4a65c_add_72be8 cJx4a65c_add_72be8 4 none, Cond.methodLink RJx4a65c 129 yJx4a65c_grow_d5877, Cond.instanceMethod yJx4a65c_grow_d5877, Cond.selects RJx4a65c yJx4a65c_grow_d5877 yJx4a65c_grow_d5877, Cond.code yJx4a65c_grow_d5877 cJx4a65c_grow_d5877 1 (some (.array (.object "java/lang/Object"))), Cond.methodLink RJx4a65c 69 yJx4a65c_grow_92f84, Cond.instanceMethod yJx4a65c_grow_92f84, Cond.selects RJx4a65c yJx4a65c_grow_92f84 yJx4a65c_grow_92f84, Cond.code yJx4a65c_grow_92f84 cJx4a65c_grow_92f84 4 (some (.array (.object "java/lang/Object"))), Cond.fieldLink RJx4a65c 39 "java/util/ArrayList" "DEFAULTCAPACITY_EMPTY_ELEMENTDATA" "[Ljava/lang/Object;", Cond.methodLink RJx4a65c 79 Lib.Math.max.name, Cond.static Lib.Math.max.name, Cond.initialized "java/lang/Math", Cond.code Lib.Math.max.name Lib.Math.max.code 2 (some .int), Cond.classLink RJx4a65c 7 "java/lang/Object"]
def wsX5_changeAmount_r3 : List Cond := [Cond.methodLink RJx4a65c 73 yJ8_newLength_cabcc, Cond.static yJ8_newLength_cabcc, Cond.initialized RJ8, Cond.code yJ8_newLength_cabcc cJ8_newLength_cabcc 4 (some .int), Cond.methodLink RJ8 194 Lib.Math.max.name, Cond.constant RJ8 200 (2147483639), Cond.methodLink RJ8 201 yJ8_hugeLength_7cf53, Cond.static yJ8_hugeLength_7cf53, Cond.code yJ8_hugeLength_7cf53 cJ8_hugeLength_7cf53 3 (some .int), Cond.methodLink RJx4a65c 66 yJ7_copyOf_1904c, Cond.static yJ7_copyOf_1904c, Cond.initialized RJ7, Cond.code yJ7_copyOf_1904c cJ7_copyOf_1904c 2 (some (.array (.object "java/lang/Object"))), Cond.methodLink RJ7 86 ⟨"java/lang/Object", "getClass", "()Ljava/lang/Class;"⟩, Cond.selects "[Ljava/lang/Object;" ⟨"java/lang/Object", "getClass", "()Ljava/lang/Class;"⟩ ⟨"java/lang/Object", "getClass", "()Ljava/lang/Class;"⟩, Cond.instanceMethod ⟨"java/lang/Object", "getClass", "()Ljava/lang/Class;"⟩, Cond.native ⟨"java/lang/Object", "getClass", "()Ljava/lang/Class;"⟩, Cond.methodLink RJ7 300 yJ7_copyOf_6403c, Cond.static yJ7_copyOf_6403c, Cond.code yJ7_copyOf_6403c cJ7_copyOf_6403c 4 (some (.array (.object "java/lang/Object"))), Cond.classLink RJ7 110 "[Ljava/lang/Object;", Cond.classLink RJ7 2 "java/lang/Object", Cond.methodLink RJ7 304 Lib.Math.min.name, Cond.static Lib.Math.min.name]
def wsX5_changeAmount_r4 : List Cond := [Cond.code Lib.Math.min.name Lib.Math.min.code 2 (some .int), Cond.methodLink RJ7 150 arraycopyName, Cond.native arraycopyName, Cond.static arraycopyName, Cond.initialized "java/lang/System"]
def wsX5_changeAmount : List Cond := .code yX5_changeAmount cX5_changeAmount 4 none :: ((wsX5_changeAmount_r1 ++ (wsX5_changeAmount_r2 ++ (wsX5_changeAmount_r3 ++ wsX5_changeAmount_r4))) ++ wsX30 ++ wsX50 ++ wsX20 ++ wsJx4a65c0)
def wsX5_addLot_r1 : List Cond := [Cond.fieldLink RX5 16 "GlacierBook" "allLots" "Ljava/util/ArrayList;", Cond.fieldLink RX5 184 "GlacierBook$Lot" "number" "I", Cond.methodLink RX5 44 yJx4a65c_add_9ea2d, Cond.instanceMethod yJx4a65c_add_9ea2d, Cond.selects RJx4a65c yJx4a65c_add_9ea2d yJx4a65c_add_9ea2d, Cond.initialized RJx4a65c, Cond.code yJx4a65c_add_9ea2d cJx4a65c_add_9ea2d 2 (some .boolean), Cond.fieldLink RJx4a65c 63 "java/util/ArrayList" "modCount" "I", Cond.sameField "java/util/ArrayList" "java/util/AbstractList" "modCount" "I", Cond.fieldLink RJx4a65c 9 "java/util/ArrayList" "elementData" "[Ljava/lang/Object;", Cond.fieldLink RJx4a65c 48 "java/util/ArrayList" "size" "I", Cond.methodLink RJx4a65c 131 yJx4a65c_add_72be8, Cond.instanceMethod yJx4a65c_add_72be8, Cond.selects RJx4a65c yJx4a65c_add_72be8 yJx4a65c_add_72be8, Cond.code yJx4a65c_add_72be8 cJx4a65c_add_72be8 4 none, Cond.methodLink RJx4a65c 129 yJx4a65c_grow_d5877, Cond.instanceMethod yJx4a65c_grow_d5877, Cond.selects RJx4a65c yJx4a65c_grow_d5877 yJx4a65c_grow_d5877, Cond.code yJx4a65c_grow_d5877 cJx4a65c_grow_d5877 1 (some (.array (.object "java/lang/Object"))), Cond.methodLink RJx4a65c 69 yJx4a65c_grow_92f84, Cond.instanceMethod yJx4a65c_grow_92f84, Cond.selects RJx4a65c yJx4a65c_grow_92f84 yJx4a65c_grow_92f84, Cond.code yJx4a65c_grow_92f84 cJx4a65c_grow_92f84 4 (some (.array (.object "java/lang/Object"))), Cond.fieldLink RJx4a65c 39 "java/util/ArrayList" "DEFAULTCAPACITY_EMPTY_ELEMENTDATA" "[Ljava/lang/Object;"]
def wsX5_addLot_r2 : List Cond := [Cond.methodLink RJx4a65c 79 Lib.Math.max.name, Cond.static Lib.Math.max.name, Cond.initialized "java/lang/Math", Cond.code Lib.Math.max.name Lib.Math.max.code 2 (some .int), Cond.classLink RJx4a65c 7 "java/lang/Object", Cond.methodLink RJx4a65c 73 yJ8_newLength_cabcc, Cond.static yJ8_newLength_cabcc, Cond.initialized RJ8, Cond.code yJ8_newLength_cabcc cJ8_newLength_cabcc 4 (some .int), Cond.methodLink RJ8 194 Lib.Math.max.name, Cond.constant RJ8 200 (2147483639), Cond.methodLink RJ8 201 yJ8_hugeLength_7cf53, Cond.static yJ8_hugeLength_7cf53, Cond.code yJ8_hugeLength_7cf53 cJ8_hugeLength_7cf53 3 (some .int), Cond.methodLink RJx4a65c 66 yJ7_copyOf_1904c, Cond.static yJ7_copyOf_1904c, Cond.initialized RJ7, Cond.code yJ7_copyOf_1904c cJ7_copyOf_1904c 2 (some (.array (.object "java/lang/Object"))), Cond.methodLink RJ7 86 ⟨"java/lang/Object", "getClass", "()Ljava/lang/Class;"⟩, Cond.selects "[Ljava/lang/Object;" ⟨"java/lang/Object", "getClass", "()Ljava/lang/Class;"⟩ ⟨"java/lang/Object", "getClass", "()Ljava/lang/Class;"⟩, Cond.instanceMethod ⟨"java/lang/Object", "getClass", "()Ljava/lang/Class;"⟩, Cond.native ⟨"java/lang/Object", "getClass", "()Ljava/lang/Class;"⟩, Cond.methodLink RJ7 300 yJ7_copyOf_6403c, Cond.static yJ7_copyOf_6403c]
def wsX5_addLot_r3 : List Cond := [Cond.code yJ7_copyOf_6403c cJ7_copyOf_6403c 4 (some (.array (.object "java/lang/Object"))), Cond.classLink RJ7 110 "[Ljava/lang/Object;", Cond.classLink RJ7 2 "java/lang/Object", Cond.methodLink RJ7 304 Lib.Math.min.name, Cond.static Lib.Math.min.name, Cond.code Lib.Math.min.name Lib.Math.min.code 2 (some .int), Cond.methodLink RJ7 150 arraycopyName, Cond.native arraycopyName, Cond.static arraycopyName, Cond.initialized "java/lang/System", Cond.methodLink RX5 127 yX5_changeAmount, Cond.instanceMethod yX5_changeAmount, Cond.selects RX5 yX5_changeAmount yX5_changeAmount, Cond.initialized RX5, Cond.code yX5_changeAmount cX5_changeAmount 4 none, Cond.fieldLink RX5 119 "GlacierBook$Lot" "amount" "I", Cond.fieldLink RX5 22 "GlacierBook" "journal" "Ljava/util/ArrayList;", Cond.constant RX5 205 (65536), Cond.classLink RX5 166 RX2, Cond.instantiable RX2 4, Cond.initialized RX2, Cond.fieldLink RX5 36 "GlacierBook" "crew" "I", Cond.methodLink RX5 90 yJx4a65c_size_8abf5, Cond.instanceMethod yJx4a65c_size_8abf5]
def wsX5_addLot_r4 : List Cond := [Cond.selects RJx4a65c yJx4a65c_size_8abf5 yJx4a65c_size_8abf5, Cond.code yJx4a65c_size_8abf5 cJx4a65c_size_8abf5 1 (some .int), Cond.methodLink RX5 206 yX2_init, Cond.instanceMethod yX2_init, Cond.code yX2_init cX2_init 5 none, Cond.methodLink RX2 1 objectInit, Cond.instanceMethod objectInit, Cond.code objectInit ⟨#[0xb1]⟩ 1 none, Cond.fieldLink RX2 7 "GlacierBook$Entry" "crew" "I", Cond.fieldLink RX2 13 "GlacierBook$Entry" "lot" "LGlacierBook$Lot;", Cond.fieldLink RX2 17 "GlacierBook$Entry" "change" "I", Cond.fieldLink RX2 20 "GlacierBook$Entry" "cause" "I"]
def wsX5_addLot : List Cond := .code yX5_addLot cX5_addLot 4 (some .int) :: ((wsX5_addLot_r1 ++ (wsX5_addLot_r2 ++ (wsX5_addLot_r3 ++ wsX5_addLot_r4))) ++ wsX50 ++ wsX30 ++ wsJx4a65c0 ++ wsX20)
def wsX5_fill_r1 : List Cond := [Cond.classLink RX5 88 RX3, Cond.instantiable RX3 5, Cond.initialized RX3, Cond.fieldLink RX5 16 "GlacierBook" "allLots" "Ljava/util/ArrayList;", Cond.fieldLink RX5 10 "GlacierBook" "depots" "Ljava/util/ArrayList;", Cond.classLink RX5 39 "GlacierBook$Depot", Cond.methodLink RX5 53 yX5_requireDepot, Cond.instanceMethod yX5_requireDepot, Cond.selects RX5 yX5_requireDepot yX5_requireDepot, Cond.initialized RX5, Cond.code yX5_requireDepot cX5_requireDepot 2 none, Cond.methodLink RX5 90 yJx4a65c_size_8abf5, Cond.instanceMethod yJx4a65c_size_8abf5, Cond.selects RJx4a65c yJx4a65c_size_8abf5 yJx4a65c_size_8abf5, Cond.initialized RJx4a65c, Cond.code yJx4a65c_size_8abf5 cJx4a65c_size_8abf5 1 (some .int), Cond.fieldLink RJx4a65c 48 "java/util/ArrayList" "size" "I", Cond.methodLink RX5 191 yX5_requireIndex, Cond.static yX5_requireIndex, Cond.code yX5_requireIndex cX5_requireIndex 2 none, Cond.classLink RX5 194 "java/lang/IndexOutOfBoundsException", Cond.initialized "java/lang/IndexOutOfBoundsException", Cond.methodLink RX5 78 yX5_requireGood, Cond.instanceMethod yX5_requireGood]
def wsX5_fill_r2 : List Cond := [Cond.selects RX5 yX5_requireGood yX5_requireGood, Cond.code yX5_requireGood cX5_requireGood 2 none, Cond.methodLink RX5 81 yX5_requireRange, Cond.static yX5_requireRange, Cond.code yX5_requireRange cX5_requireRange 3 none, Cond.classLink RX5 108 "java/lang/IllegalArgumentException", Cond.initialized "java/lang/IllegalArgumentException", Cond.methodLink RX5 85 yX5_requireRoomForLot, Cond.instanceMethod yX5_requireRoomForLot, Cond.selects RX5 yX5_requireRoomForLot yX5_requireRoomForLot, Cond.code yX5_requireRoomForLot cX5_requireRoomForLot 1 none, Cond.classLink RX5 122 "java/lang/IllegalStateException", Cond.initialized "java/lang/IllegalStateException", Cond.methodLink RX5 60 yJx4a65c_get_915e3, Cond.instanceMethod yJx4a65c_get_915e3, Cond.selects RJx4a65c yJx4a65c_get_915e3 yJx4a65c_get_915e3, Cond.code yJx4a65c_get_915e3 cJx4a65c_get_915e3 2 (some (.object "java/lang/Object")), Cond.methodLink RJx4a65c 118 yJ15_checkIndex_7cf53, Cond.static yJ15_checkIndex_7cf53, Cond.initialized RJ15, Cond.code yJ15_checkIndex_7cf53 cJ15_checkIndex_7cf53 2 (some .int), Cond.methodLink RJ15 105 yJ3_checkIndex_8e157, Cond.static yJ3_checkIndex_8e157, Cond.initialized RJ3]
def wsX5_fill_r3 : List Cond := [Cond.code yJ3_checkIndex_8e157 cJ3_checkIndex_8e157 3 (some .int), Cond.methodLink RJx4a65c 123 yJx4a65c_elementData_915e3, Cond.instanceMethod yJx4a65c_elementData_915e3, Cond.selects RJx4a65c yJx4a65c_elementData_915e3 yJx4a65c_elementData_915e3, Cond.code yJx4a65c_elementData_915e3 cJx4a65c_elementData_915e3 2 (some (.object "java/lang/Object")), Cond.fieldLink RJx4a65c 9 "java/util/ArrayList" "elementData" "[Ljava/lang/Object;", Cond.methodLink RX5 94 yX3_init, Cond.instanceMethod yX3_init, Cond.code yX3_init cX3_init 5 none, Cond.methodLink RX3 3 objectInit, Cond.instanceMethod objectInit, Cond.code objectInit ⟨#[0xb1]⟩ 1 none, Cond.fieldLink RX3 9 "GlacierBook$Lot" "amount" "I", Cond.fieldLink RX3 15 "GlacierBook$Lot" "number" "I", Cond.fieldLink RX3 18 "GlacierBook$Lot" "depot" "LGlacierBook$Depot;", Cond.fieldLink RX3 22 "GlacierBook$Lot" "good" "I", Cond.fieldLink RX3 25 "GlacierBook$Lot" "lastDay" "I", Cond.methodLink RX5 97 yX5_addLot, Cond.instanceMethod yX5_addLot, Cond.selects RX5 yX5_addLot yX5_addLot, Cond.code yX5_addLot cX5_addLot 4 (some .int), Cond.fieldLink RX5 184 "GlacierBook$Lot" "number" "I", Cond.methodLink RX5 44 yJx4a65c_add_9ea2d, Cond.instanceMethod yJx4a65c_add_9ea2d]
def wsX5_fill_r4 : List Cond := [Cond.selects RJx4a65c yJx4a65c_add_9ea2d yJx4a65c_add_9ea2d, Cond.code yJx4a65c_add_9ea2d cJx4a65c_add_9ea2d 2 (some .boolean), Cond.fieldLink RJx4a65c 63 "java/util/ArrayList" "modCount" "I", Cond.sameField "java/util/ArrayList" "java/util/AbstractList" "modCount" "I", Cond.methodLink RJx4a65c 131 yJx4a65c_add_72be8, Cond.instanceMethod yJx4a65c_add_72be8, Cond.selects RJx4a65c yJx4a65c_add_72be8 yJx4a65c_add_72be8, Cond.code yJx4a65c_add_72be8 cJx4a65c_add_72be8 4 none, Cond.methodLink RJx4a65c 129 yJx4a65c_grow_d5877, Cond.instanceMethod yJx4a65c_grow_d5877, Cond.selects RJx4a65c yJx4a65c_grow_d5877 yJx4a65c_grow_d5877, Cond.code yJx4a65c_grow_d5877 cJx4a65c_grow_d5877 1 (some (.array (.object "java/lang/Object"))), Cond.methodLink RJx4a65c 69 yJx4a65c_grow_92f84, Cond.instanceMethod yJx4a65c_grow_92f84, Cond.selects RJx4a65c yJx4a65c_grow_92f84 yJx4a65c_grow_92f84, Cond.code yJx4a65c_grow_92f84 cJx4a65c_grow_92f84 4 (some (.array (.object "java/lang/Object"))), Cond.fieldLink RJx4a65c 39 "java/util/ArrayList" "DEFAULTCAPACITY_EMPTY_ELEMENTDATA" "[Ljava/lang/Object;", Cond.methodLink RJx4a65c 79 Lib.Math.max.name, Cond.static Lib.Math.max.name, Cond.initialized "java/lang/Math", Cond.code Lib.Math.max.name Lib.Math.max.code 2 (some .int), Cond.classLink RJx4a65c 7 "java/lang/Object", Cond.methodLink RJx4a65c 73 yJ8_newLength_cabcc, Cond.static yJ8_newLength_cabcc]
def wsX5_fill_r5 : List Cond := [Cond.initialized RJ8, Cond.code yJ8_newLength_cabcc cJ8_newLength_cabcc 4 (some .int), Cond.methodLink RJ8 194 Lib.Math.max.name, Cond.constant RJ8 200 (2147483639), Cond.methodLink RJ8 201 yJ8_hugeLength_7cf53, Cond.static yJ8_hugeLength_7cf53, Cond.code yJ8_hugeLength_7cf53 cJ8_hugeLength_7cf53 3 (some .int), Cond.methodLink RJx4a65c 66 yJ7_copyOf_1904c, Cond.static yJ7_copyOf_1904c, Cond.initialized RJ7, Cond.code yJ7_copyOf_1904c cJ7_copyOf_1904c 2 (some (.array (.object "java/lang/Object"))), Cond.methodLink RJ7 86 ⟨"java/lang/Object", "getClass", "()Ljava/lang/Class;"⟩, Cond.selects "[Ljava/lang/Object;" ⟨"java/lang/Object", "getClass", "()Ljava/lang/Class;"⟩ ⟨"java/lang/Object", "getClass", "()Ljava/lang/Class;"⟩, Cond.instanceMethod ⟨"java/lang/Object", "getClass", "()Ljava/lang/Class;"⟩, Cond.native ⟨"java/lang/Object", "getClass", "()Ljava/lang/Class;"⟩, Cond.methodLink RJ7 300 yJ7_copyOf_6403c, Cond.static yJ7_copyOf_6403c, Cond.code yJ7_copyOf_6403c cJ7_copyOf_6403c 4 (some (.array (.object "java/lang/Object"))), Cond.classLink RJ7 110 "[Ljava/lang/Object;", Cond.classLink RJ7 2 "java/lang/Object", Cond.methodLink RJ7 304 Lib.Math.min.name, Cond.static Lib.Math.min.name, Cond.code Lib.Math.min.name Lib.Math.min.code 2 (some .int), Cond.methodLink RJ7 150 arraycopyName]
def wsX5_fill_r6 : List Cond := [Cond.native arraycopyName, Cond.static arraycopyName, Cond.initialized "java/lang/System", Cond.methodLink RX5 127 yX5_changeAmount, Cond.instanceMethod yX5_changeAmount, Cond.selects RX5 yX5_changeAmount yX5_changeAmount, Cond.code yX5_changeAmount cX5_changeAmount 4 none, Cond.fieldLink RX5 119 "GlacierBook$Lot" "amount" "I", Cond.fieldLink RX5 22 "GlacierBook" "journal" "Ljava/util/ArrayList;", Cond.constant RX5 205 (65536), Cond.classLink RX5 166 RX2, Cond.instantiable RX2 4, Cond.initialized RX2, Cond.fieldLink RX5 36 "GlacierBook" "crew" "I", Cond.methodLink RX5 206 yX2_init, Cond.instanceMethod yX2_init, Cond.code yX2_init cX2_init 5 none, Cond.methodLink RX2 1 objectInit, Cond.fieldLink RX2 7 "GlacierBook$Entry" "crew" "I", Cond.fieldLink RX2 13 "GlacierBook$Entry" "lot" "LGlacierBook$Lot;", Cond.fieldLink RX2 17 "GlacierBook$Entry" "change" "I", Cond.fieldLink RX2 20 "GlacierBook$Entry" "cause" "I"]
def wsX5_fill : List Cond := .code yX5_fill cX5_fill 5 (some .int) :: ((wsX5_fill_r1 ++ (wsX5_fill_r2 ++ (wsX5_fill_r3 ++ (wsX5_fill_r4 ++ (wsX5_fill_r5 ++ wsX5_fill_r6))))) ++ wsX30 ++ wsX50 ++ wsJx4a65c0 ++ wsX20 ++ (vx_atS RX5 198 "java/lang/IndexOutOfBoundsException" ["java/lang/RuntimeException", "java/lang/Exception"]).filter goodWord ++ (vx_atS RX5 112 "java/lang/IllegalArgumentException" ["java/lang/RuntimeException", "java/lang/Exception"]).filter goodWord ++ (vx_atS RX5 126 "java/lang/IllegalStateException" ["java/lang/RuntimeException", "java/lang/Exception"]).filter goodWord)
def wsX5_requireLot : List Cond := .code yX5_requireLot cX5_requireLot 2 none :: ([.fieldLink RX5 16 "GlacierBook" "allLots" "Ljava/util/ArrayList;", .methodLink RX5 90 yJx4a65c_size_8abf5, .instanceMethod yJx4a65c_size_8abf5, .selects RJx4a65c yJx4a65c_size_8abf5 yJx4a65c_size_8abf5, .initialized RJx4a65c, .code yJx4a65c_size_8abf5 cJx4a65c_size_8abf5 1 (some .int), .fieldLink RJx4a65c 48 "java/util/ArrayList" "size" "I", .methodLink RX5 191 yX5_requireIndex, .static yX5_requireIndex, .initialized RX5, .code yX5_requireIndex cX5_requireIndex 2 none, .classLink RX5 194 "java/lang/IndexOutOfBoundsException", .initialized "java/lang/IndexOutOfBoundsException"] ++ wsX50 ++ wsJx4a65c0 ++ (vx_atS RX5 198 "java/lang/IndexOutOfBoundsException" ["java/lang/RuntimeException", "java/lang/Exception"]).filter goodWord)
def wsX5_requireReached : List Cond := .code yX5_requireReached cX5_requireReached 2 none :: ([.classLink RX5 122 "java/lang/IllegalStateException", .initialized "java/lang/IllegalStateException", .fieldLink RX5 64 "GlacierBook$Depot" "cut" "LGlacierBook$Days;", .fieldLink RX5 32 "GlacierBook" "day" "I", .methodLink RX5 70 yX0_include, .instanceMethod yX0_include, .selects RX0 yX0_include yX0_include, .initialized RX0, .code yX0_include cX0_include 2 (some .boolean), .fieldLink RX0 9 "GlacierBook$Days" "from" "I", .fieldLink RX0 15 "GlacierBook$Days" "to" "I"] ++ wsX10 ++ wsX50 ++ wsX00 ++ (vx_atS RX5 126 "java/lang/IllegalStateException" ["java/lang/RuntimeException", "java/lang/Exception"]).filter goodWord)
def wsX5_move_r1 : List Cond := [Cond.classLink RX5 108 "java/lang/IllegalArgumentException", Cond.initialized "java/lang/IllegalArgumentException", Cond.classLink RX5 122 "java/lang/IllegalStateException", Cond.initialized "java/lang/IllegalStateException", Cond.fieldLink RX5 16 "GlacierBook" "allLots" "Ljava/util/ArrayList;", Cond.classLink RX5 88 "GlacierBook$Lot", Cond.fieldLink RX5 10 "GlacierBook" "depots" "Ljava/util/ArrayList;", Cond.classLink RX5 39 "GlacierBook$Depot", Cond.fieldLink RX5 104 "GlacierBook$Lot" "depot" "LGlacierBook$Depot;", Cond.fieldLink RX5 119 "GlacierBook$Lot" "amount" "I", Cond.classLink RX5 88 RX3, Cond.instantiable RX3 5, Cond.initialized RX3, Cond.fieldLink RX5 131 "GlacierBook$Lot" "good" "I", Cond.fieldLink RX5 134 "GlacierBook$Lot" "lastDay" "I", Cond.methodLink RX5 101 yX5_requireLot, Cond.instanceMethod yX5_requireLot, Cond.selects RX5 yX5_requireLot yX5_requireLot, Cond.initialized RX5, Cond.code yX5_requireLot cX5_requireLot 2 none, Cond.methodLink RX5 90 yJx4a65c_size_8abf5, Cond.instanceMethod yJx4a65c_size_8abf5, Cond.selects RJx4a65c yJx4a65c_size_8abf5 yJx4a65c_size_8abf5, Cond.initialized RJx4a65c]
def wsX5_move_r2 : List Cond := [Cond.code yJx4a65c_size_8abf5 cJx4a65c_size_8abf5 1 (some .int), Cond.fieldLink RJx4a65c 48 "java/util/ArrayList" "size" "I", Cond.methodLink RX5 191 yX5_requireIndex, Cond.static yX5_requireIndex, Cond.code yX5_requireIndex cX5_requireIndex 2 none, Cond.classLink RX5 194 "java/lang/IndexOutOfBoundsException", Cond.initialized "java/lang/IndexOutOfBoundsException", Cond.methodLink RX5 53 yX5_requireDepot, Cond.instanceMethod yX5_requireDepot, Cond.selects RX5 yX5_requireDepot yX5_requireDepot, Cond.code yX5_requireDepot cX5_requireDepot 2 none, Cond.methodLink RX5 60 yJx4a65c_get_915e3, Cond.instanceMethod yJx4a65c_get_915e3, Cond.selects RJx4a65c yJx4a65c_get_915e3 yJx4a65c_get_915e3, Cond.code yJx4a65c_get_915e3 cJx4a65c_get_915e3 2 (some (.object "java/lang/Object")), Cond.methodLink RJx4a65c 118 yJ15_checkIndex_7cf53, Cond.static yJ15_checkIndex_7cf53, Cond.initialized RJ15, Cond.code yJ15_checkIndex_7cf53 cJ15_checkIndex_7cf53 2 (some .int), Cond.methodLink RJ15 105 yJ3_checkIndex_8e157, Cond.static yJ3_checkIndex_8e157, Cond.initialized RJ3, Cond.code yJ3_checkIndex_8e157 cJ3_checkIndex_8e157 3 (some .int), Cond.methodLink RJx4a65c 123 yJx4a65c_elementData_915e3]
def wsX5_move_r3 : List Cond := [Cond.instanceMethod yJx4a65c_elementData_915e3, Cond.selects RJx4a65c yJx4a65c_elementData_915e3 yJx4a65c_elementData_915e3, Cond.code yJx4a65c_elementData_915e3 cJx4a65c_elementData_915e3 2 (some (.object "java/lang/Object")), Cond.fieldLink RJx4a65c 9 "java/util/ArrayList" "elementData" "[Ljava/lang/Object;", Cond.methodLink RX5 81 yX5_requireRange, Cond.static yX5_requireRange, Cond.code yX5_requireRange cX5_requireRange 3 none, Cond.methodLink RX5 115 yX5_requireReached, Cond.instanceMethod yX5_requireReached, Cond.selects RX5 yX5_requireReached yX5_requireReached, Cond.code yX5_requireReached cX5_requireReached 2 none, Cond.fieldLink RX5 64 "GlacierBook$Depot" "cut" "LGlacierBook$Days;", Cond.fieldLink RX5 32 "GlacierBook" "day" "I", Cond.methodLink RX5 70 yX0_include, Cond.instanceMethod yX0_include, Cond.selects RX0 yX0_include yX0_include, Cond.initialized RX0, Cond.code yX0_include cX0_include 2 (some .boolean), Cond.fieldLink RX0 9 "GlacierBook$Days" "from" "I", Cond.fieldLink RX0 15 "GlacierBook$Days" "to" "I", Cond.methodLink RX5 85 yX5_requireRoomForLot, Cond.instanceMethod yX5_requireRoomForLot, Cond.selects RX5 yX5_requireRoomForLot yX5_requireRoomForLot, Cond.code yX5_requireRoomForLot cX5_requireRoomForLot 1 none]
def wsX5_move_r4 : List Cond := [Cond.methodLink RX5 127 yX5_changeAmount, Cond.instanceMethod yX5_changeAmount, Cond.selects RX5 yX5_changeAmount yX5_changeAmount, Cond.code yX5_changeAmount cX5_changeAmount 4 none, Cond.fieldLink RX5 22 "GlacierBook" "journal" "Ljava/util/ArrayList;", Cond.constant RX5 205 (65536), Cond.classLink RX5 166 RX2, Cond.instantiable RX2 4, Cond.initialized RX2, Cond.fieldLink RX5 36 "GlacierBook" "crew" "I", Cond.methodLink RX5 206 yX2_init, Cond.instanceMethod yX2_init, Cond.code yX2_init cX2_init 5 none, Cond.methodLink RX2 1 objectInit, Cond.instanceMethod objectInit, Cond.code objectInit ⟨#[0xb1]⟩ 1 none, Cond.fieldLink RX2 7 "GlacierBook$Entry" "crew" "I", Cond.fieldLink RX2 13 "GlacierBook$Entry" "lot" "LGlacierBook$Lot;", Cond.fieldLink RX2 17 "GlacierBook$Entry" "change" "I", Cond.fieldLink RX2 20 "GlacierBook$Entry" "cause" "I", Cond.methodLink RX5 44 yJx4a65c_add_9ea2d, Cond.instanceMethod yJx4a65c_add_9ea2d, Cond.selects RJx4a65c yJx4a65c_add_9ea2d yJx4a65c_add_9ea2d, Cond.code yJx4a65c_add_9ea2d cJx4a65c_add_9ea2d 2 (some .boolean)]
def wsX5_move_r5 : List Cond := [Cond.fieldLink RJx4a65c 63 "java/util/ArrayList" "modCount" "I", Cond.sameField "java/util/ArrayList" "java/util/AbstractList" "modCount" "I", Cond.methodLink RJx4a65c 131 yJx4a65c_add_72be8, Cond.instanceMethod yJx4a65c_add_72be8, Cond.selects RJx4a65c yJx4a65c_add_72be8 yJx4a65c_add_72be8, Cond.code yJx4a65c_add_72be8 cJx4a65c_add_72be8 4 none, Cond.methodLink RJx4a65c 129 yJx4a65c_grow_d5877, Cond.instanceMethod yJx4a65c_grow_d5877, Cond.selects RJx4a65c yJx4a65c_grow_d5877 yJx4a65c_grow_d5877, Cond.code yJx4a65c_grow_d5877 cJx4a65c_grow_d5877 1 (some (.array (.object "java/lang/Object"))), Cond.methodLink RJx4a65c 69 yJx4a65c_grow_92f84, Cond.instanceMethod yJx4a65c_grow_92f84, Cond.selects RJx4a65c yJx4a65c_grow_92f84 yJx4a65c_grow_92f84, Cond.code yJx4a65c_grow_92f84 cJx4a65c_grow_92f84 4 (some (.array (.object "java/lang/Object"))), Cond.fieldLink RJx4a65c 39 "java/util/ArrayList" "DEFAULTCAPACITY_EMPTY_ELEMENTDATA" "[Ljava/lang/Object;", Cond.methodLink RJx4a65c 79 Lib.Math.max.name, Cond.static Lib.Math.max.name, Cond.initialized "java/lang/Math", Cond.code Lib.Math.max.name Lib.Math.max.code 2 (some .int), Cond.classLink RJx4a65c 7 "java/lang/Object", Cond.methodLink RJx4a65c 73 yJ8_newLength_cabcc, Cond.static yJ8_newLength_cabcc, Cond.initialized RJ8, Cond.code yJ8_newLength_cabcc cJ8_newLength_cabcc 4 (some .int)]
def wsX5_move_r6 : List Cond := [Cond.methodLink RJ8 194 Lib.Math.max.name, Cond.constant RJ8 200 (2147483639), Cond.methodLink RJ8 201 yJ8_hugeLength_7cf53, Cond.static yJ8_hugeLength_7cf53, Cond.code yJ8_hugeLength_7cf53 cJ8_hugeLength_7cf53 3 (some .int), Cond.methodLink RJx4a65c 66 yJ7_copyOf_1904c, Cond.static yJ7_copyOf_1904c, Cond.initialized RJ7, Cond.code yJ7_copyOf_1904c cJ7_copyOf_1904c 2 (some (.array (.object "java/lang/Object"))), Cond.methodLink RJ7 86 ⟨"java/lang/Object", "getClass", "()Ljava/lang/Class;"⟩, Cond.selects "[Ljava/lang/Object;" ⟨"java/lang/Object", "getClass", "()Ljava/lang/Class;"⟩ ⟨"java/lang/Object", "getClass", "()Ljava/lang/Class;"⟩, Cond.instanceMethod ⟨"java/lang/Object", "getClass", "()Ljava/lang/Class;"⟩, Cond.native ⟨"java/lang/Object", "getClass", "()Ljava/lang/Class;"⟩, Cond.methodLink RJ7 300 yJ7_copyOf_6403c, Cond.static yJ7_copyOf_6403c, Cond.code yJ7_copyOf_6403c cJ7_copyOf_6403c 4 (some (.array (.object "java/lang/Object"))), Cond.classLink RJ7 110 "[Ljava/lang/Object;", Cond.classLink RJ7 2 "java/lang/Object", Cond.methodLink RJ7 304 Lib.Math.min.name, Cond.static Lib.Math.min.name, Cond.code Lib.Math.min.name Lib.Math.min.code 2 (some .int), Cond.methodLink RJ7 150 arraycopyName, Cond.native arraycopyName, Cond.static arraycopyName]
def wsX5_move_r7 : List Cond := [Cond.initialized "java/lang/System", Cond.methodLink RX5 94 yX3_init, Cond.instanceMethod yX3_init, Cond.code yX3_init cX3_init 5 none, Cond.methodLink RX3 3 objectInit, Cond.fieldLink RX3 9 "GlacierBook$Lot" "amount" "I", Cond.fieldLink RX3 15 "GlacierBook$Lot" "number" "I", Cond.fieldLink RX3 18 "GlacierBook$Lot" "depot" "LGlacierBook$Depot;", Cond.fieldLink RX3 22 "GlacierBook$Lot" "good" "I", Cond.fieldLink RX3 25 "GlacierBook$Lot" "lastDay" "I", Cond.methodLink RX5 97 yX5_addLot, Cond.instanceMethod yX5_addLot, Cond.selects RX5 yX5_addLot yX5_addLot, Cond.code yX5_addLot cX5_addLot 4 (some .int), Cond.fieldLink RX5 184 "GlacierBook$Lot" "number" "I"]
def wsX5_move : List Cond := .code yX5_move cX5_move 6 (some .int) :: ((wsX5_move_r1 ++ (wsX5_move_r2 ++ (wsX5_move_r3 ++ (wsX5_move_r4 ++ (wsX5_move_r5 ++ (wsX5_move_r6 ++ wsX5_move_r7)))))) ++ wsX50 ++ wsX30 ++ wsJx4a65c0 ++ wsX10 ++ wsX00 ++ wsX20 ++ (vx_atS RX5 112 "java/lang/IllegalArgumentException" ["java/lang/RuntimeException", "java/lang/Exception"]).filter goodWord ++ (vx_atS RX5 126 "java/lang/IllegalStateException" ["java/lang/RuntimeException", "java/lang/Exception"]).filter goodWord ++ (vx_atS RX5 198 "java/lang/IndexOutOfBoundsException" ["java/lang/RuntimeException", "java/lang/Exception"]).filter goodWord)
def wsX5_count_r1 : List Cond := [Cond.fieldLink RX5 16 "GlacierBook" "allLots" "Ljava/util/ArrayList;", Cond.classLink RX5 88 "GlacierBook$Lot", Cond.fieldLink RX5 104 "GlacierBook$Lot" "depot" "LGlacierBook$Depot;", Cond.fieldLink RX5 119 "GlacierBook$Lot" "amount" "I", Cond.methodLink RX5 101 yX5_requireLot, Cond.instanceMethod yX5_requireLot, Cond.selects RX5 yX5_requireLot yX5_requireLot, Cond.initialized RX5, Cond.code yX5_requireLot cX5_requireLot 2 none, Cond.methodLink RX5 90 yJx4a65c_size_8abf5, Cond.instanceMethod yJx4a65c_size_8abf5, Cond.selects RJx4a65c yJx4a65c_size_8abf5 yJx4a65c_size_8abf5, Cond.initialized RJx4a65c, Cond.code yJx4a65c_size_8abf5 cJx4a65c_size_8abf5 1 (some .int), Cond.fieldLink RJx4a65c 48 "java/util/ArrayList" "size" "I", Cond.methodLink RX5 191 yX5_requireIndex, Cond.static yX5_requireIndex, Cond.code yX5_requireIndex cX5_requireIndex 2 none, Cond.classLink RX5 194 "java/lang/IndexOutOfBoundsException", Cond.initialized "java/lang/IndexOutOfBoundsException", Cond.methodLink RX5 81 yX5_requireRange, Cond.static yX5_requireRange, Cond.code yX5_requireRange cX5_requireRange 3 none, Cond.classLink RX5 108 "java/lang/IllegalArgumentException"]
def wsX5_count_r2 : List Cond := [Cond.initialized "java/lang/IllegalArgumentException", Cond.methodLink RX5 60 yJx4a65c_get_915e3, Cond.instanceMethod yJx4a65c_get_915e3, Cond.selects RJx4a65c yJx4a65c_get_915e3 yJx4a65c_get_915e3, Cond.code yJx4a65c_get_915e3 cJx4a65c_get_915e3 2 (some (.object "java/lang/Object")), Cond.methodLink RJx4a65c 118 yJ15_checkIndex_7cf53, Cond.static yJ15_checkIndex_7cf53, Cond.initialized RJ15, Cond.code yJ15_checkIndex_7cf53 cJ15_checkIndex_7cf53 2 (some .int), Cond.methodLink RJ15 105 yJ3_checkIndex_8e157, Cond.static yJ3_checkIndex_8e157, Cond.initialized RJ3, Cond.code yJ3_checkIndex_8e157 cJ3_checkIndex_8e157 3 (some .int), Cond.methodLink RJx4a65c 123 yJx4a65c_elementData_915e3, Cond.instanceMethod yJx4a65c_elementData_915e3, Cond.selects RJx4a65c yJx4a65c_elementData_915e3 yJx4a65c_elementData_915e3, Cond.code yJx4a65c_elementData_915e3 cJx4a65c_elementData_915e3 2 (some (.object "java/lang/Object")), Cond.fieldLink RJx4a65c 9 "java/util/ArrayList" "elementData" "[Ljava/lang/Object;", Cond.methodLink RX5 115 yX5_requireReached, Cond.instanceMethod yX5_requireReached, Cond.selects RX5 yX5_requireReached yX5_requireReached, Cond.code yX5_requireReached cX5_requireReached 2 none, Cond.classLink RX5 122 "java/lang/IllegalStateException", Cond.initialized "java/lang/IllegalStateException"]
def wsX5_count_r3 : List Cond := [Cond.fieldLink RX5 64 "GlacierBook$Depot" "cut" "LGlacierBook$Days;", Cond.fieldLink RX5 32 "GlacierBook" "day" "I", Cond.methodLink RX5 70 yX0_include, Cond.instanceMethod yX0_include, Cond.selects RX0 yX0_include yX0_include, Cond.initialized RX0, Cond.code yX0_include cX0_include 2 (some .boolean), Cond.fieldLink RX0 9 "GlacierBook$Days" "from" "I", Cond.fieldLink RX0 15 "GlacierBook$Days" "to" "I", Cond.methodLink RX5 127 yX5_changeAmount, Cond.instanceMethod yX5_changeAmount, Cond.selects RX5 yX5_changeAmount yX5_changeAmount, Cond.code yX5_changeAmount cX5_changeAmount 4 none, Cond.fieldLink RX5 22 "GlacierBook" "journal" "Ljava/util/ArrayList;", Cond.constant RX5 205 (65536), Cond.classLink RX5 166 RX2, Cond.instantiable RX2 4, Cond.initialized RX2, Cond.fieldLink RX5 36 "GlacierBook" "crew" "I", Cond.methodLink RX5 206 yX2_init, Cond.instanceMethod yX2_init, Cond.code yX2_init cX2_init 5 none, Cond.methodLink RX2 1 objectInit, Cond.instanceMethod objectInit]
def wsX5_count_r4 : List Cond := [Cond.code objectInit ⟨#[0xb1]⟩ 1 none, Cond.fieldLink RX2 7 "GlacierBook$Entry" "crew" "I", Cond.fieldLink RX2 13 "GlacierBook$Entry" "lot" "LGlacierBook$Lot;", Cond.fieldLink RX2 17 "GlacierBook$Entry" "change" "I", Cond.fieldLink RX2 20 "GlacierBook$Entry" "cause" "I", Cond.methodLink RX5 44 yJx4a65c_add_9ea2d, Cond.instanceMethod yJx4a65c_add_9ea2d, Cond.selects RJx4a65c yJx4a65c_add_9ea2d yJx4a65c_add_9ea2d, Cond.code yJx4a65c_add_9ea2d cJx4a65c_add_9ea2d 2 (some .boolean), Cond.fieldLink RJx4a65c 63 "java/util/ArrayList" "modCount" "I", Cond.sameField "java/util/ArrayList" "java/util/AbstractList" "modCount" "I", Cond.methodLink RJx4a65c 131 yJx4a65c_add_72be8, Cond.instanceMethod yJx4a65c_add_72be8, Cond.selects RJx4a65c yJx4a65c_add_72be8 yJx4a65c_add_72be8, Cond.code yJx4a65c_add_72be8 cJx4a65c_add_72be8 4 none, Cond.methodLink RJx4a65c 129 yJx4a65c_grow_d5877, Cond.instanceMethod yJx4a65c_grow_d5877, Cond.selects RJx4a65c yJx4a65c_grow_d5877 yJx4a65c_grow_d5877, Cond.code yJx4a65c_grow_d5877 cJx4a65c_grow_d5877 1 (some (.array (.object "java/lang/Object"))), Cond.methodLink RJx4a65c 69 yJx4a65c_grow_92f84, Cond.instanceMethod yJx4a65c_grow_92f84, Cond.selects RJx4a65c yJx4a65c_grow_92f84 yJx4a65c_grow_92f84, Cond.code yJx4a65c_grow_92f84 cJx4a65c_grow_92f84 4 (some (.array (.object "java/lang/Object"))), Cond.fieldLink RJx4a65c 39 "java/util/ArrayList" "DEFAULTCAPACITY_EMPTY_ELEMENTDATA" "[Ljava/lang/Object;"]
def wsX5_count_r5 : List Cond := [Cond.methodLink RJx4a65c 79 Lib.Math.max.name, Cond.static Lib.Math.max.name, Cond.initialized "java/lang/Math", Cond.code Lib.Math.max.name Lib.Math.max.code 2 (some .int), Cond.classLink RJx4a65c 7 "java/lang/Object", Cond.methodLink RJx4a65c 73 yJ8_newLength_cabcc, Cond.static yJ8_newLength_cabcc, Cond.initialized RJ8, Cond.code yJ8_newLength_cabcc cJ8_newLength_cabcc 4 (some .int), Cond.methodLink RJ8 194 Lib.Math.max.name, Cond.constant RJ8 200 (2147483639), Cond.methodLink RJ8 201 yJ8_hugeLength_7cf53, Cond.static yJ8_hugeLength_7cf53, Cond.code yJ8_hugeLength_7cf53 cJ8_hugeLength_7cf53 3 (some .int), Cond.methodLink RJx4a65c 66 yJ7_copyOf_1904c, Cond.static yJ7_copyOf_1904c, Cond.initialized RJ7, Cond.code yJ7_copyOf_1904c cJ7_copyOf_1904c 2 (some (.array (.object "java/lang/Object"))), Cond.methodLink RJ7 86 ⟨"java/lang/Object", "getClass", "()Ljava/lang/Class;"⟩, Cond.selects "[Ljava/lang/Object;" ⟨"java/lang/Object", "getClass", "()Ljava/lang/Class;"⟩ ⟨"java/lang/Object", "getClass", "()Ljava/lang/Class;"⟩, Cond.instanceMethod ⟨"java/lang/Object", "getClass", "()Ljava/lang/Class;"⟩, Cond.native ⟨"java/lang/Object", "getClass", "()Ljava/lang/Class;"⟩, Cond.methodLink RJ7 300 yJ7_copyOf_6403c, Cond.static yJ7_copyOf_6403c]
def wsX5_count_r6 : List Cond := [Cond.code yJ7_copyOf_6403c cJ7_copyOf_6403c 4 (some (.array (.object "java/lang/Object"))), Cond.classLink RJ7 110 "[Ljava/lang/Object;", Cond.classLink RJ7 2 "java/lang/Object", Cond.methodLink RJ7 304 Lib.Math.min.name, Cond.static Lib.Math.min.name, Cond.code Lib.Math.min.name Lib.Math.min.code 2 (some .int), Cond.methodLink RJ7 150 arraycopyName, Cond.native arraycopyName, Cond.static arraycopyName, Cond.initialized "java/lang/System"]
def wsX5_count : List Cond := .code yX5_count cX5_count 5 (some .int) :: ((wsX5_count_r1 ++ (wsX5_count_r2 ++ (wsX5_count_r3 ++ (wsX5_count_r4 ++ (wsX5_count_r5 ++ wsX5_count_r6))))) ++ wsX50 ++ wsX30 ++ wsJx4a65c0 ++ wsX10 ++ wsX00 ++ wsX20 ++ (vx_atS RX5 198 "java/lang/IndexOutOfBoundsException" ["java/lang/RuntimeException", "java/lang/Exception"]).filter goodWord ++ (vx_atS RX5 112 "java/lang/IllegalArgumentException" ["java/lang/RuntimeException", "java/lang/Exception"]).filter goodWord ++ (vx_atS RX5 126 "java/lang/IllegalStateException" ["java/lang/RuntimeException", "java/lang/Exception"]).filter goodWord)
def wsX5_requireWork : List Cond := .code yX5_requireWork cX5_requireWork 2 none :: ([.fieldLink RX5 19 "GlacierBook" "workers" "Ljava/util/ArrayList;", .methodLink RX5 90 yJx4a65c_size_8abf5, .instanceMethod yJx4a65c_size_8abf5, .selects RJx4a65c yJx4a65c_size_8abf5 yJx4a65c_size_8abf5, .initialized RJx4a65c, .code yJx4a65c_size_8abf5 cJx4a65c_size_8abf5 1 (some .int), .fieldLink RJx4a65c 48 "java/util/ArrayList" "size" "I", .methodLink RX5 191 yX5_requireIndex, .static yX5_requireIndex, .initialized RX5, .code yX5_requireIndex cX5_requireIndex 2 none, .classLink RX5 194 "java/lang/IndexOutOfBoundsException", .initialized "java/lang/IndexOutOfBoundsException"] ++ wsX50 ++ wsJx4a65c0 ++ (vx_atS RX5 198 "java/lang/IndexOutOfBoundsException" ["java/lang/RuntimeException", "java/lang/Exception"]).filter goodWord)
def wsX5_setPeople_r1 : List Cond := [Cond.fieldLink RX5 19 "GlacierBook" "workers" "Ljava/util/ArrayList;", Cond.classLink RX5 48 "GlacierBook$Workers", Cond.fieldLink RX5 140 "GlacierBook$Workers" "people" "I", Cond.methodLink RX5 137 yX5_requireWork, Cond.instanceMethod yX5_requireWork, Cond.selects RX5 yX5_requireWork yX5_requireWork, Cond.initialized RX5, Cond.code yX5_requireWork cX5_requireWork 2 none, Cond.methodLink RX5 90 yJx4a65c_size_8abf5, Cond.instanceMethod yJx4a65c_size_8abf5, Cond.selects RJx4a65c yJx4a65c_size_8abf5 yJx4a65c_size_8abf5, Cond.initialized RJx4a65c, Cond.code yJx4a65c_size_8abf5 cJx4a65c_size_8abf5 1 (some .int), Cond.fieldLink RJx4a65c 48 "java/util/ArrayList" "size" "I", Cond.methodLink RX5 191 yX5_requireIndex, Cond.static yX5_requireIndex, Cond.code yX5_requireIndex cX5_requireIndex 2 none, Cond.classLink RX5 194 "java/lang/IndexOutOfBoundsException", Cond.initialized "java/lang/IndexOutOfBoundsException", Cond.methodLink RX5 81 yX5_requireRange, Cond.static yX5_requireRange, Cond.code yX5_requireRange cX5_requireRange 3 none, Cond.classLink RX5 108 "java/lang/IllegalArgumentException", Cond.initialized "java/lang/IllegalArgumentException"]
def wsX5_setPeople_r2 : List Cond := [Cond.methodLink RX5 60 yJx4a65c_get_915e3, Cond.instanceMethod yJx4a65c_get_915e3, Cond.selects RJx4a65c yJx4a65c_get_915e3 yJx4a65c_get_915e3, Cond.code yJx4a65c_get_915e3 cJx4a65c_get_915e3 2 (some (.object "java/lang/Object")), Cond.methodLink RJx4a65c 118 yJ15_checkIndex_7cf53, Cond.static yJ15_checkIndex_7cf53, Cond.initialized RJ15, Cond.code yJ15_checkIndex_7cf53 cJ15_checkIndex_7cf53 2 (some .int), Cond.methodLink RJ15 105 yJ3_checkIndex_8e157, Cond.static yJ3_checkIndex_8e157, Cond.initialized RJ3, Cond.code yJ3_checkIndex_8e157 cJ3_checkIndex_8e157 3 (some .int), Cond.methodLink RJx4a65c 123 yJx4a65c_elementData_915e3, Cond.instanceMethod yJx4a65c_elementData_915e3, Cond.selects RJx4a65c yJx4a65c_elementData_915e3 yJx4a65c_elementData_915e3, Cond.code yJx4a65c_elementData_915e3 cJx4a65c_elementData_915e3 2 (some (.object "java/lang/Object")), Cond.fieldLink RJx4a65c 9 "java/util/ArrayList" "elementData" "[Ljava/lang/Object;"]
def wsX5_setPeople : List Cond := .code yX5_setPeople cX5_setPeople 5 (some .int) :: ((wsX5_setPeople_r1 ++ wsX5_setPeople_r2) ++ wsX50 ++ wsX40 ++ wsJx4a65c0 ++ (vx_atS RX5 198 "java/lang/IndexOutOfBoundsException" ["java/lang/RuntimeException", "java/lang/Exception"]).filter goodWord ++ (vx_atS RX5 112 "java/lang/IllegalArgumentException" ["java/lang/RuntimeException", "java/lang/Exception"]).filter goodWord)
def wsX5_throwAwayOld_r1 : List Cond := [Cond.fieldLink RX5 16 "GlacierBook" "allLots" "Ljava/util/ArrayList;", Cond.classLink RX5 88 "GlacierBook$Lot", Cond.fieldLink RX5 134 "GlacierBook$Lot" "lastDay" "I", Cond.fieldLink RX5 32 "GlacierBook" "day" "I", Cond.fieldLink RX5 119 "GlacierBook$Lot" "amount" "I", Cond.methodLink RX5 90 yJx4a65c_size_8abf5, Cond.instanceMethod yJx4a65c_size_8abf5, Cond.selects RJx4a65c yJx4a65c_size_8abf5 yJx4a65c_size_8abf5, Cond.initialized RJx4a65c, Cond.code yJx4a65c_size_8abf5 cJx4a65c_size_8abf5 1 (some .int), Cond.fieldLink RJx4a65c 48 "java/util/ArrayList" "size" "I", Cond.methodLink RX5 60 yJx4a65c_get_915e3, Cond.instanceMethod yJx4a65c_get_915e3, Cond.selects RJx4a65c yJx4a65c_get_915e3 yJx4a65c_get_915e3, Cond.code yJx4a65c_get_915e3 cJx4a65c_get_915e3 2 (some (.object "java/lang/Object")), Cond.methodLink RJx4a65c 118 yJ15_checkIndex_7cf53, Cond.static yJ15_checkIndex_7cf53, Cond.initialized RJ15, Cond.code yJ15_checkIndex_7cf53 cJ15_checkIndex_7cf53 2 (some .int), Cond.methodLink RJ15 105 yJ3_checkIndex_8e157, Cond.static yJ3_checkIndex_8e157, Cond.initialized RJ3, Cond.code yJ3_checkIndex_8e157 cJ3_checkIndex_8e157 3 (some .int), Cond.methodLink RJx4a65c 123 yJx4a65c_elementData_915e3]
def wsX5_throwAwayOld_r2 : List Cond := [Cond.instanceMethod yJx4a65c_elementData_915e3, Cond.selects RJx4a65c yJx4a65c_elementData_915e3 yJx4a65c_elementData_915e3, Cond.code yJx4a65c_elementData_915e3 cJx4a65c_elementData_915e3 2 (some (.object "java/lang/Object")), Cond.fieldLink RJx4a65c 9 "java/util/ArrayList" "elementData" "[Ljava/lang/Object;", Cond.methodLink RX5 127 yX5_changeAmount, Cond.instanceMethod yX5_changeAmount, Cond.selects RX5 yX5_changeAmount yX5_changeAmount, Cond.initialized RX5, Cond.code yX5_changeAmount cX5_changeAmount 4 none, Cond.fieldLink RX5 22 "GlacierBook" "journal" "Ljava/util/ArrayList;", Cond.constant RX5 205 (65536), Cond.classLink RX5 166 RX2, Cond.instantiable RX2 4, Cond.initialized RX2, Cond.fieldLink RX5 36 "GlacierBook" "crew" "I", Cond.methodLink RX5 206 yX2_init, Cond.instanceMethod yX2_init, Cond.code yX2_init cX2_init 5 none, Cond.methodLink RX2 1 objectInit, Cond.instanceMethod objectInit, Cond.code objectInit ⟨#[0xb1]⟩ 1 none, Cond.fieldLink RX2 7 "GlacierBook$Entry" "crew" "I", Cond.fieldLink RX2 13 "GlacierBook$Entry" "lot" "LGlacierBook$Lot;", Cond.fieldLink RX2 17 "GlacierBook$Entry" "change" "I"]
def wsX5_throwAwayOld_r3 : List Cond := [Cond.fieldLink RX2 20 "GlacierBook$Entry" "cause" "I", Cond.methodLink RX5 44 yJx4a65c_add_9ea2d, Cond.instanceMethod yJx4a65c_add_9ea2d, Cond.selects RJx4a65c yJx4a65c_add_9ea2d yJx4a65c_add_9ea2d, Cond.code yJx4a65c_add_9ea2d cJx4a65c_add_9ea2d 2 (some .boolean), Cond.fieldLink RJx4a65c 63 "java/util/ArrayList" "modCount" "I", Cond.sameField "java/util/ArrayList" "java/util/AbstractList" "modCount" "I", Cond.methodLink RJx4a65c 131 yJx4a65c_add_72be8, Cond.instanceMethod yJx4a65c_add_72be8, Cond.selects RJx4a65c yJx4a65c_add_72be8 yJx4a65c_add_72be8, Cond.code yJx4a65c_add_72be8 cJx4a65c_add_72be8 4 none, Cond.methodLink RJx4a65c 129 yJx4a65c_grow_d5877, Cond.instanceMethod yJx4a65c_grow_d5877, Cond.selects RJx4a65c yJx4a65c_grow_d5877 yJx4a65c_grow_d5877, Cond.code yJx4a65c_grow_d5877 cJx4a65c_grow_d5877 1 (some (.array (.object "java/lang/Object"))), Cond.methodLink RJx4a65c 69 yJx4a65c_grow_92f84, Cond.instanceMethod yJx4a65c_grow_92f84, Cond.selects RJx4a65c yJx4a65c_grow_92f84 yJx4a65c_grow_92f84, Cond.code yJx4a65c_grow_92f84 cJx4a65c_grow_92f84 4 (some (.array (.object "java/lang/Object"))), Cond.fieldLink RJx4a65c 39 "java/util/ArrayList" "DEFAULTCAPACITY_EMPTY_ELEMENTDATA" "[Ljava/lang/Object;", Cond.methodLink RJx4a65c 79 Lib.Math.max.name, Cond.static Lib.Math.max.name, Cond.initialized "java/lang/Math", Cond.code Lib.Math.max.name Lib.Math.max.code 2 (some .int)]
def wsX5_throwAwayOld_r4 : List Cond := [Cond.classLink RJx4a65c 7 "java/lang/Object", Cond.methodLink RJx4a65c 73 yJ8_newLength_cabcc, Cond.static yJ8_newLength_cabcc, Cond.initialized RJ8, Cond.code yJ8_newLength_cabcc cJ8_newLength_cabcc 4 (some .int), Cond.methodLink RJ8 194 Lib.Math.max.name, Cond.constant RJ8 200 (2147483639), Cond.methodLink RJ8 201 yJ8_hugeLength_7cf53, Cond.static yJ8_hugeLength_7cf53, Cond.code yJ8_hugeLength_7cf53 cJ8_hugeLength_7cf53 3 (some .int), Cond.methodLink RJx4a65c 66 yJ7_copyOf_1904c, Cond.static yJ7_copyOf_1904c, Cond.initialized RJ7, Cond.code yJ7_copyOf_1904c cJ7_copyOf_1904c 2 (some (.array (.object "java/lang/Object"))), Cond.methodLink RJ7 86 ⟨"java/lang/Object", "getClass", "()Ljava/lang/Class;"⟩, Cond.selects "[Ljava/lang/Object;" ⟨"java/lang/Object", "getClass", "()Ljava/lang/Class;"⟩ ⟨"java/lang/Object", "getClass", "()Ljava/lang/Class;"⟩, Cond.instanceMethod ⟨"java/lang/Object", "getClass", "()Ljava/lang/Class;"⟩, Cond.native ⟨"java/lang/Object", "getClass", "()Ljava/lang/Class;"⟩, Cond.methodLink RJ7 300 yJ7_copyOf_6403c, Cond.static yJ7_copyOf_6403c, Cond.code yJ7_copyOf_6403c cJ7_copyOf_6403c 4 (some (.array (.object "java/lang/Object"))), Cond.classLink RJ7 110 "[Ljava/lang/Object;", Cond.classLink RJ7 2 "java/lang/Object", Cond.methodLink RJ7 304 Lib.Math.min.name]
def wsX5_throwAwayOld_r5 : List Cond := [Cond.static Lib.Math.min.name, Cond.code Lib.Math.min.name Lib.Math.min.code 2 (some .int), Cond.methodLink RJ7 150 arraycopyName, Cond.native arraycopyName, Cond.static arraycopyName, Cond.initialized "java/lang/System"]
def wsX5_throwAwayOld : List Cond := .code yX5_throwAwayOld cX5_throwAwayOld 3 none :: ((wsX5_throwAwayOld_r1 ++ (wsX5_throwAwayOld_r2 ++ (wsX5_throwAwayOld_r3 ++ (wsX5_throwAwayOld_r4 ++ wsX5_throwAwayOld_r5)))) ++ wsX50 ++ wsX30 ++ wsJx4a65c0 ++ wsX20)
def wsX5_freeze_r1 : List Cond := [Cond.fieldLink RX5 28 "GlacierBook" "frost" "LGlacierBook$Days;", Cond.fieldLink RX5 32 "GlacierBook" "day" "I", Cond.fieldLink RX5 16 "GlacierBook" "allLots" "Ljava/util/ArrayList;", Cond.classLink RX5 88 "GlacierBook$Lot", Cond.fieldLink RX5 131 "GlacierBook$Lot" "good" "I", Cond.fieldLink RX5 104 "GlacierBook$Lot" "depot" "LGlacierBook$Depot;", Cond.fieldLink RX5 74 "GlacierBook$Depot" "warm" "Z", Cond.fieldLink RX5 119 "GlacierBook$Lot" "amount" "I", Cond.methodLink RX5 70 yX0_include, Cond.instanceMethod yX0_include, Cond.selects RX0 yX0_include yX0_include, Cond.initialized RX0, Cond.code yX0_include cX0_include 2 (some .boolean), Cond.fieldLink RX0 9 "GlacierBook$Days" "from" "I", Cond.fieldLink RX0 15 "GlacierBook$Days" "to" "I", Cond.methodLink RX5 90 yJx4a65c_size_8abf5, Cond.instanceMethod yJx4a65c_size_8abf5, Cond.selects RJx4a65c yJx4a65c_size_8abf5 yJx4a65c_size_8abf5, Cond.initialized RJx4a65c, Cond.code yJx4a65c_size_8abf5 cJx4a65c_size_8abf5 1 (some .int), Cond.fieldLink RJx4a65c 48 "java/util/ArrayList" "size" "I", Cond.methodLink RX5 60 yJx4a65c_get_915e3, Cond.instanceMethod yJx4a65c_get_915e3, Cond.selects RJx4a65c yJx4a65c_get_915e3 yJx4a65c_get_915e3]
def wsX5_freeze_r2 : List Cond := [Cond.code yJx4a65c_get_915e3 cJx4a65c_get_915e3 2 (some (.object "java/lang/Object")), Cond.methodLink RJx4a65c 118 yJ15_checkIndex_7cf53, Cond.static yJ15_checkIndex_7cf53, Cond.initialized RJ15, Cond.code yJ15_checkIndex_7cf53 cJ15_checkIndex_7cf53 2 (some .int), Cond.methodLink RJ15 105 yJ3_checkIndex_8e157, Cond.static yJ3_checkIndex_8e157, Cond.initialized RJ3, Cond.code yJ3_checkIndex_8e157 cJ3_checkIndex_8e157 3 (some .int), Cond.methodLink RJx4a65c 123 yJx4a65c_elementData_915e3, Cond.instanceMethod yJx4a65c_elementData_915e3, Cond.selects RJx4a65c yJx4a65c_elementData_915e3 yJx4a65c_elementData_915e3, Cond.code yJx4a65c_elementData_915e3 cJx4a65c_elementData_915e3 2 (some (.object "java/lang/Object")), Cond.fieldLink RJx4a65c 9 "java/util/ArrayList" "elementData" "[Ljava/lang/Object;", Cond.methodLink RX5 127 yX5_changeAmount, Cond.instanceMethod yX5_changeAmount, Cond.selects RX5 yX5_changeAmount yX5_changeAmount, Cond.initialized RX5, Cond.code yX5_changeAmount cX5_changeAmount 4 none, Cond.fieldLink RX5 22 "GlacierBook" "journal" "Ljava/util/ArrayList;", Cond.constant RX5 205 (65536), Cond.classLink RX5 166 RX2, Cond.instantiable RX2 4, Cond.initialized RX2]
def wsX5_freeze_r3 : List Cond := [Cond.fieldLink RX5 36 "GlacierBook" "crew" "I", Cond.methodLink RX5 206 yX2_init, Cond.instanceMethod yX2_init, Cond.code yX2_init cX2_init 5 none, Cond.methodLink RX2 1 objectInit, Cond.instanceMethod objectInit, Cond.code objectInit ⟨#[0xb1]⟩ 1 none, Cond.fieldLink RX2 7 "GlacierBook$Entry" "crew" "I", Cond.fieldLink RX2 13 "GlacierBook$Entry" "lot" "LGlacierBook$Lot;", Cond.fieldLink RX2 17 "GlacierBook$Entry" "change" "I", Cond.fieldLink RX2 20 "GlacierBook$Entry" "cause" "I", Cond.methodLink RX5 44 yJx4a65c_add_9ea2d, Cond.instanceMethod yJx4a65c_add_9ea2d, Cond.selects RJx4a65c yJx4a65c_add_9ea2d yJx4a65c_add_9ea2d, Cond.code yJx4a65c_add_9ea2d cJx4a65c_add_9ea2d 2 (some .boolean), Cond.fieldLink RJx4a65c 63 "java/util/ArrayList" "modCount" "I", Cond.sameField "java/util/ArrayList" "java/util/AbstractList" "modCount" "I", Cond.methodLink RJx4a65c 131 yJx4a65c_add_72be8, Cond.instanceMethod yJx4a65c_add_72be8, Cond.selects RJx4a65c yJx4a65c_add_72be8 yJx4a65c_add_72be8, Cond.code yJx4a65c_add_72be8 cJx4a65c_add_72be8 4 none, Cond.methodLink RJx4a65c 129 yJx4a65c_grow_d5877, Cond.instanceMethod yJx4a65c_grow_d5877, Cond.selects RJx4a65c yJx4a65c_grow_d5877 yJx4a65c_grow_d5877]
def wsX5_freeze_r4 : List Cond := [Cond.code yJx4a65c_grow_d5877 cJx4a65c_grow_d5877 1 (some (.array (.object "java/lang/Object"))), Cond.methodLink RJx4a65c 69 yJx4a65c_grow_92f84, Cond.instanceMethod yJx4a65c_grow_92f84, Cond.selects RJx4a65c yJx4a65c_grow_92f84 yJx4a65c_grow_92f84, Cond.code yJx4a65c_grow_92f84 cJx4a65c_grow_92f84 4 (some (.array (.object "java/lang/Object"))), Cond.fieldLink RJx4a65c 39 "java/util/ArrayList" "DEFAULTCAPACITY_EMPTY_ELEMENTDATA" "[Ljava/lang/Object;", Cond.methodLink RJx4a65c 79 Lib.Math.max.name, Cond.static Lib.Math.max.name, Cond.initialized "java/lang/Math", Cond.code Lib.Math.max.name Lib.Math.max.code 2 (some .int), Cond.classLink RJx4a65c 7 "java/lang/Object", Cond.methodLink RJx4a65c 73 yJ8_newLength_cabcc, Cond.static yJ8_newLength_cabcc, Cond.initialized RJ8, Cond.code yJ8_newLength_cabcc cJ8_newLength_cabcc 4 (some .int), Cond.methodLink RJ8 194 Lib.Math.max.name, Cond.constant RJ8 200 (2147483639), Cond.methodLink RJ8 201 yJ8_hugeLength_7cf53, Cond.static yJ8_hugeLength_7cf53, Cond.code yJ8_hugeLength_7cf53 cJ8_hugeLength_7cf53 3 (some .int), Cond.methodLink RJx4a65c 66 yJ7_copyOf_1904c, Cond.static yJ7_copyOf_1904c, Cond.initialized RJ7, Cond.code yJ7_copyOf_1904c cJ7_copyOf_1904c 2 (some (.array (.object "java/lang/Object")))]
def wsX5_freeze_r5 : List Cond := [Cond.methodLink RJ7 86 ⟨"java/lang/Object", "getClass", "()Ljava/lang/Class;"⟩, Cond.selects "[Ljava/lang/Object;" ⟨"java/lang/Object", "getClass", "()Ljava/lang/Class;"⟩ ⟨"java/lang/Object", "getClass", "()Ljava/lang/Class;"⟩, Cond.instanceMethod ⟨"java/lang/Object", "getClass", "()Ljava/lang/Class;"⟩, Cond.native ⟨"java/lang/Object", "getClass", "()Ljava/lang/Class;"⟩, Cond.methodLink RJ7 300 yJ7_copyOf_6403c, Cond.static yJ7_copyOf_6403c, Cond.code yJ7_copyOf_6403c cJ7_copyOf_6403c 4 (some (.array (.object "java/lang/Object"))), Cond.classLink RJ7 110 "[Ljava/lang/Object;", Cond.classLink RJ7 2 "java/lang/Object", Cond.methodLink RJ7 304 Lib.Math.min.name, Cond.static Lib.Math.min.name, Cond.code Lib.Math.min.name Lib.Math.min.code 2 (some .int), Cond.methodLink RJ7 150 arraycopyName, Cond.native arraycopyName, Cond.static arraycopyName, Cond.initialized "java/lang/System"]
def wsX5_freeze : List Cond := .code yX5_freeze cX5_freeze 3 none :: ((wsX5_freeze_r1 ++ (wsX5_freeze_r2 ++ (wsX5_freeze_r3 ++ (wsX5_freeze_r4 ++ wsX5_freeze_r5)))) ++ wsX50 ++ wsX30 ++ wsX10 ++ wsX00 ++ wsJx4a65c0 ++ wsX20)
def wsX5_foodInStation_r1 : List Cond := [Cond.fieldLink RX5 16 "GlacierBook" "allLots" "Ljava/util/ArrayList;", Cond.classLink RX5 88 "GlacierBook$Lot", Cond.fieldLink RX5 119 "GlacierBook$Lot" "amount" "I", Cond.methodLink RX5 90 yJx4a65c_size_8abf5, Cond.instanceMethod yJx4a65c_size_8abf5, Cond.selects RJx4a65c yJx4a65c_size_8abf5 yJx4a65c_size_8abf5, Cond.initialized RJx4a65c, Cond.code yJx4a65c_size_8abf5 cJx4a65c_size_8abf5 1 (some .int), Cond.fieldLink RJx4a65c 48 "java/util/ArrayList" "size" "I", Cond.methodLink RX5 60 yJx4a65c_get_915e3, Cond.instanceMethod yJx4a65c_get_915e3, Cond.selects RJx4a65c yJx4a65c_get_915e3 yJx4a65c_get_915e3, Cond.code yJx4a65c_get_915e3 cJx4a65c_get_915e3 2 (some (.object "java/lang/Object")), Cond.methodLink RJx4a65c 118 yJ15_checkIndex_7cf53, Cond.static yJ15_checkIndex_7cf53, Cond.initialized RJ15, Cond.code yJ15_checkIndex_7cf53 cJ15_checkIndex_7cf53 2 (some .int), Cond.methodLink RJ15 105 yJ3_checkIndex_8e157, Cond.static yJ3_checkIndex_8e157, Cond.initialized RJ3, Cond.code yJ3_checkIndex_8e157 cJ3_checkIndex_8e157 3 (some .int), Cond.methodLink RJx4a65c 123 yJx4a65c_elementData_915e3, Cond.instanceMethod yJx4a65c_elementData_915e3, Cond.selects RJx4a65c yJx4a65c_elementData_915e3 yJx4a65c_elementData_915e3]
def wsX5_foodInStation_r2 : List Cond := [Cond.code yJx4a65c_elementData_915e3 cJx4a65c_elementData_915e3 2 (some (.object "java/lang/Object")), Cond.fieldLink RJx4a65c 9 "java/util/ArrayList" "elementData" "[Ljava/lang/Object;", Cond.methodLink RX5 221 yX3_isFoodInStation, Cond.instanceMethod yX3_isFoodInStation, Cond.selects RX3 yX3_isFoodInStation yX3_isFoodInStation, Cond.initialized RX3, Cond.code yX3_isFoodInStation cX3_isFoodInStation 1 (some .boolean), Cond.fieldLink RX3 18 "GlacierBook$Lot" "depot" "LGlacierBook$Depot;", Cond.fieldLink RX3 28 "GlacierBook$Depot" "number" "I", Cond.fieldLink RX3 22 "GlacierBook$Lot" "good" "I"]
def wsX5_foodInStation : List Cond := .code yX5_foodInStation cX5_foodInStation 4 (some .int) :: ((wsX5_foodInStation_r1 ++ wsX5_foodInStation_r2) ++ wsX50 ++ wsX30 ++ wsJx4a65c0 ++ wsX10)
def wsX5_needOfAll_r1 : List Cond := [Cond.fieldLink RX5 19 "GlacierBook" "workers" "Ljava/util/ArrayList;", Cond.classLink RX5 48 "GlacierBook$Workers", Cond.methodLink RX5 90 yJx4a65c_size_8abf5, Cond.instanceMethod yJx4a65c_size_8abf5, Cond.selects RJx4a65c yJx4a65c_size_8abf5 yJx4a65c_size_8abf5, Cond.initialized RJx4a65c, Cond.code yJx4a65c_size_8abf5 cJx4a65c_size_8abf5 1 (some .int), Cond.fieldLink RJx4a65c 48 "java/util/ArrayList" "size" "I", Cond.methodLink RX5 60 yJx4a65c_get_915e3, Cond.instanceMethod yJx4a65c_get_915e3, Cond.selects RJx4a65c yJx4a65c_get_915e3 yJx4a65c_get_915e3, Cond.code yJx4a65c_get_915e3 cJx4a65c_get_915e3 2 (some (.object "java/lang/Object")), Cond.methodLink RJx4a65c 118 yJ15_checkIndex_7cf53, Cond.static yJ15_checkIndex_7cf53, Cond.initialized RJ15, Cond.code yJ15_checkIndex_7cf53 cJ15_checkIndex_7cf53 2 (some .int), Cond.methodLink RJ15 105 yJ3_checkIndex_8e157, Cond.static yJ3_checkIndex_8e157, Cond.initialized RJ3, Cond.code yJ3_checkIndex_8e157 cJ3_checkIndex_8e157 3 (some .int), Cond.methodLink RJx4a65c 123 yJx4a65c_elementData_915e3, Cond.instanceMethod yJx4a65c_elementData_915e3, Cond.selects RJx4a65c yJx4a65c_elementData_915e3 yJx4a65c_elementData_915e3, Cond.code yJx4a65c_elementData_915e3 cJx4a65c_elementData_915e3 2 (some (.object "java/lang/Object"))]
def wsX5_needOfAll_r2 : List Cond := [Cond.fieldLink RJx4a65c 9 "java/util/ArrayList" "elementData" "[Ljava/lang/Object;", Cond.methodLink RX5 225 yX4_need, Cond.instanceMethod yX4_need, Cond.selects RX4 yX4_need yX4_need, Cond.initialized RX4, Cond.code yX4_need cX4_need 1 (some .int), Cond.fieldLink RX4 7 "GlacierBook$Workers" "people" "I", Cond.fieldLink RX4 19 "GlacierBook$Workers" "unitsEach" "I"]
def wsX5_needOfAll : List Cond := .code yX5_needOfAll cX5_needOfAll 3 (some .int) :: ((wsX5_needOfAll_r1 ++ wsX5_needOfAll_r2) ++ wsX50 ++ wsJx4a65c0 ++ wsX40)
def wsX5_cutRations_r1 : List Cond := [Cond.fieldLink RX5 19 "GlacierBook" "workers" "Ljava/util/ArrayList;", Cond.classLink RX5 48 "GlacierBook$Workers", Cond.fieldLink RX5 228 "GlacierBook$Workers" "ration" "I", Cond.methodLink RX5 212 Lib.Math.min.name, Cond.static Lib.Math.min.name, Cond.initialized "java/lang/Math", Cond.code Lib.Math.min.name Lib.Math.min.code 2 (some .int), Cond.fieldLink RX5 156 "GlacierBook$Workers" "missed" "I", Cond.methodLink RX5 90 yJx4a65c_size_8abf5, Cond.instanceMethod yJx4a65c_size_8abf5, Cond.selects RJx4a65c yJx4a65c_size_8abf5 yJx4a65c_size_8abf5, Cond.initialized RJx4a65c, Cond.code yJx4a65c_size_8abf5 cJx4a65c_size_8abf5 1 (some .int), Cond.fieldLink RJx4a65c 48 "java/util/ArrayList" "size" "I", Cond.methodLink RX5 60 yJx4a65c_get_915e3, Cond.instanceMethod yJx4a65c_get_915e3, Cond.selects RJx4a65c yJx4a65c_get_915e3 yJx4a65c_get_915e3, Cond.code yJx4a65c_get_915e3 cJx4a65c_get_915e3 2 (some (.object "java/lang/Object")), Cond.methodLink RJx4a65c 118 yJ15_checkIndex_7cf53, Cond.static yJ15_checkIndex_7cf53, Cond.initialized RJ15, Cond.code yJ15_checkIndex_7cf53 cJ15_checkIndex_7cf53 2 (some .int), Cond.methodLink RJ15 105 yJ3_checkIndex_8e157, Cond.static yJ3_checkIndex_8e157]
def wsX5_cutRations_r2 : List Cond := [Cond.initialized RJ3, Cond.code yJ3_checkIndex_8e157 cJ3_checkIndex_8e157 3 (some .int), Cond.methodLink RJx4a65c 123 yJx4a65c_elementData_915e3, Cond.instanceMethod yJx4a65c_elementData_915e3, Cond.selects RJx4a65c yJx4a65c_elementData_915e3 yJx4a65c_elementData_915e3, Cond.code yJx4a65c_elementData_915e3 cJx4a65c_elementData_915e3 2 (some (.object "java/lang/Object")), Cond.fieldLink RJx4a65c 9 "java/util/ArrayList" "elementData" "[Ljava/lang/Object;", Cond.methodLink RX5 225 yX4_need, Cond.instanceMethod yX4_need, Cond.selects RX4 yX4_need yX4_need, Cond.initialized RX4, Cond.code yX4_need cX4_need 1 (some .int), Cond.fieldLink RX4 7 "GlacierBook$Workers" "people" "I", Cond.fieldLink RX4 19 "GlacierBook$Workers" "unitsEach" "I"]
def wsX5_cutRations : List Cond := .code yX5_cutRations cX5_cutRations 7 none :: ((wsX5_cutRations_r1 ++ wsX5_cutRations_r2) ++ wsX50 ++ wsX40 ++ wsJx4a65c0)
def wsX5_nextToEat_r1 : List Cond := [Cond.fieldLink RX5 16 "GlacierBook" "allLots" "Ljava/util/ArrayList;", Cond.classLink RX5 88 "GlacierBook$Lot", Cond.fieldLink RX5 119 "GlacierBook$Lot" "amount" "I", Cond.fieldLink RX5 134 "GlacierBook$Lot" "lastDay" "I", Cond.methodLink RX5 90 yJx4a65c_size_8abf5, Cond.instanceMethod yJx4a65c_size_8abf5, Cond.selects RJx4a65c yJx4a65c_size_8abf5 yJx4a65c_size_8abf5, Cond.initialized RJx4a65c, Cond.code yJx4a65c_size_8abf5 cJx4a65c_size_8abf5 1 (some .int), Cond.fieldLink RJx4a65c 48 "java/util/ArrayList" "size" "I", Cond.methodLink RX5 60 yJx4a65c_get_915e3, Cond.instanceMethod yJx4a65c_get_915e3, Cond.selects RJx4a65c yJx4a65c_get_915e3 yJx4a65c_get_915e3, Cond.code yJx4a65c_get_915e3 cJx4a65c_get_915e3 2 (some (.object "java/lang/Object")), Cond.methodLink RJx4a65c 118 yJ15_checkIndex_7cf53, Cond.static yJ15_checkIndex_7cf53, Cond.initialized RJ15, Cond.code yJ15_checkIndex_7cf53 cJ15_checkIndex_7cf53 2 (some .int), Cond.methodLink RJ15 105 yJ3_checkIndex_8e157, Cond.static yJ3_checkIndex_8e157, Cond.initialized RJ3, Cond.code yJ3_checkIndex_8e157 cJ3_checkIndex_8e157 3 (some .int), Cond.methodLink RJx4a65c 123 yJx4a65c_elementData_915e3, Cond.instanceMethod yJx4a65c_elementData_915e3]
def wsX5_nextToEat_r2 : List Cond := [Cond.selects RJx4a65c yJx4a65c_elementData_915e3 yJx4a65c_elementData_915e3, Cond.code yJx4a65c_elementData_915e3 cJx4a65c_elementData_915e3 2 (some (.object "java/lang/Object")), Cond.fieldLink RJx4a65c 9 "java/util/ArrayList" "elementData" "[Ljava/lang/Object;", Cond.methodLink RX5 221 yX3_isFoodInStation, Cond.instanceMethod yX3_isFoodInStation, Cond.selects RX3 yX3_isFoodInStation yX3_isFoodInStation, Cond.initialized RX3, Cond.code yX3_isFoodInStation cX3_isFoodInStation 1 (some .boolean), Cond.fieldLink RX3 18 "GlacierBook$Lot" "depot" "LGlacierBook$Depot;", Cond.fieldLink RX3 28 "GlacierBook$Depot" "number" "I", Cond.fieldLink RX3 22 "GlacierBook$Lot" "good" "I"]
def wsX5_nextToEat : List Cond := .code yX5_nextToEat cX5_nextToEat 5 (some (.object "GlacierBook$Lot")) :: ((wsX5_nextToEat_r1 ++ wsX5_nextToEat_r2) ++ wsX50 ++ wsX30 ++ wsJx4a65c0 ++ wsX10)
def wsX5_eatFromLots_r1 : List Cond := [Cond.fieldLink RX5 119 "GlacierBook$Lot" "amount" "I", Cond.methodLink RX5 212 Lib.Math.min.name, Cond.static Lib.Math.min.name, Cond.initialized "java/lang/Math", Cond.code Lib.Math.min.name Lib.Math.min.code 2 (some .int), Cond.methodLink RX5 231 yX5_nextToEat, Cond.instanceMethod yX5_nextToEat, Cond.selects RX5 yX5_nextToEat yX5_nextToEat, Cond.initialized RX5, Cond.code yX5_nextToEat cX5_nextToEat 5 (some (.object "GlacierBook$Lot")), Cond.fieldLink RX5 16 "GlacierBook" "allLots" "Ljava/util/ArrayList;", Cond.classLink RX5 88 "GlacierBook$Lot", Cond.fieldLink RX5 134 "GlacierBook$Lot" "lastDay" "I", Cond.methodLink RX5 90 yJx4a65c_size_8abf5, Cond.instanceMethod yJx4a65c_size_8abf5, Cond.selects RJx4a65c yJx4a65c_size_8abf5 yJx4a65c_size_8abf5, Cond.initialized RJx4a65c, Cond.code yJx4a65c_size_8abf5 cJx4a65c_size_8abf5 1 (some .int), Cond.fieldLink RJx4a65c 48 "java/util/ArrayList" "size" "I", Cond.methodLink RX5 60 yJx4a65c_get_915e3, Cond.instanceMethod yJx4a65c_get_915e3, Cond.selects RJx4a65c yJx4a65c_get_915e3 yJx4a65c_get_915e3, Cond.code yJx4a65c_get_915e3 cJx4a65c_get_915e3 2 (some (.object "java/lang/Object")), Cond.methodLink RJx4a65c 118 yJ15_checkIndex_7cf53]
def wsX5_eatFromLots_r2 : List Cond := [Cond.static yJ15_checkIndex_7cf53, Cond.initialized RJ15, Cond.code yJ15_checkIndex_7cf53 cJ15_checkIndex_7cf53 2 (some .int), Cond.methodLink RJ15 105 yJ3_checkIndex_8e157, Cond.static yJ3_checkIndex_8e157, Cond.initialized RJ3, Cond.code yJ3_checkIndex_8e157 cJ3_checkIndex_8e157 3 (some .int), Cond.methodLink RJx4a65c 123 yJx4a65c_elementData_915e3, Cond.instanceMethod yJx4a65c_elementData_915e3, Cond.selects RJx4a65c yJx4a65c_elementData_915e3 yJx4a65c_elementData_915e3, Cond.code yJx4a65c_elementData_915e3 cJx4a65c_elementData_915e3 2 (some (.object "java/lang/Object")), Cond.fieldLink RJx4a65c 9 "java/util/ArrayList" "elementData" "[Ljava/lang/Object;", Cond.methodLink RX5 221 yX3_isFoodInStation, Cond.instanceMethod yX3_isFoodInStation, Cond.selects RX3 yX3_isFoodInStation yX3_isFoodInStation, Cond.initialized RX3, Cond.code yX3_isFoodInStation cX3_isFoodInStation 1 (some .boolean), Cond.fieldLink RX3 18 "GlacierBook$Lot" "depot" "LGlacierBook$Depot;", Cond.fieldLink RX3 28 "GlacierBook$Depot" "number" "I", Cond.fieldLink RX3 22 "GlacierBook$Lot" "good" "I", Cond.methodLink RX5 127 yX5_changeAmount, Cond.instanceMethod yX5_changeAmount, Cond.selects RX5 yX5_changeAmount yX5_changeAmount, Cond.code yX5_changeAmount cX5_changeAmount 4 none]
def wsX5_eatFromLots_r3 : List Cond := [Cond.fieldLink RX5 22 "GlacierBook" "journal" "Ljava/util/ArrayList;", Cond.constant RX5 205 (65536), Cond.classLink RX5 166 RX2, Cond.instantiable RX2 4, Cond.initialized RX2, Cond.fieldLink RX5 36 "GlacierBook" "crew" "I", Cond.methodLink RX5 206 yX2_init, Cond.instanceMethod yX2_init, Cond.code yX2_init cX2_init 5 none, Cond.methodLink RX2 1 objectInit, Cond.instanceMethod objectInit, Cond.code objectInit ⟨#[0xb1]⟩ 1 none, Cond.fieldLink RX2 7 "GlacierBook$Entry" "crew" "I", Cond.fieldLink RX2 13 "GlacierBook$Entry" "lot" "LGlacierBook$Lot;", Cond.fieldLink RX2 17 "GlacierBook$Entry" "change" "I", Cond.fieldLink RX2 20 "GlacierBook$Entry" "cause" "I", Cond.methodLink RX5 44 yJx4a65c_add_9ea2d, Cond.instanceMethod yJx4a65c_add_9ea2d, Cond.selects RJx4a65c yJx4a65c_add_9ea2d yJx4a65c_add_9ea2d, Cond.code yJx4a65c_add_9ea2d cJx4a65c_add_9ea2d 2 (some .boolean), Cond.fieldLink RJx4a65c 63 "java/util/ArrayList" "modCount" "I", Cond.sameField "java/util/ArrayList" "java/util/AbstractList" "modCount" "I", Cond.methodLink RJx4a65c 131 yJx4a65c_add_72be8, Cond.instanceMethod yJx4a65c_add_72be8]
def wsX5_eatFromLots_r4 : List Cond := [Cond.selects RJx4a65c yJx4a65c_add_72be8 yJx4a65c_add_72be8, Cond.code yJx4a65c_add_72be8 cJx4a65c_add_72be8 4 none, Cond.methodLink RJx4a65c 129 yJx4a65c_grow_d5877, Cond.instanceMethod yJx4a65c_grow_d5877, Cond.selects RJx4a65c yJx4a65c_grow_d5877 yJx4a65c_grow_d5877, Cond.code yJx4a65c_grow_d5877 cJx4a65c_grow_d5877 1 (some (.array (.object "java/lang/Object"))), Cond.methodLink RJx4a65c 69 yJx4a65c_grow_92f84, Cond.instanceMethod yJx4a65c_grow_92f84, Cond.selects RJx4a65c yJx4a65c_grow_92f84 yJx4a65c_grow_92f84, Cond.code yJx4a65c_grow_92f84 cJx4a65c_grow_92f84 4 (some (.array (.object "java/lang/Object"))), Cond.fieldLink RJx4a65c 39 "java/util/ArrayList" "DEFAULTCAPACITY_EMPTY_ELEMENTDATA" "[Ljava/lang/Object;", Cond.methodLink RJx4a65c 79 Lib.Math.max.name, Cond.static Lib.Math.max.name, Cond.code Lib.Math.max.name Lib.Math.max.code 2 (some .int), Cond.classLink RJx4a65c 7 "java/lang/Object", Cond.methodLink RJx4a65c 73 yJ8_newLength_cabcc, Cond.static yJ8_newLength_cabcc, Cond.initialized RJ8, Cond.code yJ8_newLength_cabcc cJ8_newLength_cabcc 4 (some .int), Cond.methodLink RJ8 194 Lib.Math.max.name, Cond.constant RJ8 200 (2147483639), Cond.methodLink RJ8 201 yJ8_hugeLength_7cf53, Cond.static yJ8_hugeLength_7cf53, Cond.code yJ8_hugeLength_7cf53 cJ8_hugeLength_7cf53 3 (some .int)]
def wsX5_eatFromLots_r5 : List Cond := [Cond.methodLink RJx4a65c 66 yJ7_copyOf_1904c, Cond.static yJ7_copyOf_1904c, Cond.initialized RJ7, Cond.code yJ7_copyOf_1904c cJ7_copyOf_1904c 2 (some (.array (.object "java/lang/Object"))), Cond.methodLink RJ7 86 ⟨"java/lang/Object", "getClass", "()Ljava/lang/Class;"⟩, Cond.selects "[Ljava/lang/Object;" ⟨"java/lang/Object", "getClass", "()Ljava/lang/Class;"⟩ ⟨"java/lang/Object", "getClass", "()Ljava/lang/Class;"⟩, Cond.instanceMethod ⟨"java/lang/Object", "getClass", "()Ljava/lang/Class;"⟩, Cond.native ⟨"java/lang/Object", "getClass", "()Ljava/lang/Class;"⟩, Cond.methodLink RJ7 300 yJ7_copyOf_6403c, Cond.static yJ7_copyOf_6403c, Cond.code yJ7_copyOf_6403c cJ7_copyOf_6403c 4 (some (.array (.object "java/lang/Object"))), Cond.classLink RJ7 110 "[Ljava/lang/Object;", Cond.classLink RJ7 2 "java/lang/Object", Cond.methodLink RJ7 304 Lib.Math.min.name, Cond.methodLink RJ7 150 arraycopyName, Cond.native arraycopyName, Cond.static arraycopyName, Cond.initialized "java/lang/System"]
def wsX5_eatFromLots : List Cond := .code yX5_eatFromLots cX5_eatFromLots 6 none :: ((wsX5_eatFromLots_r1 ++ (wsX5_eatFromLots_r2 ++ (wsX5_eatFromLots_r3 ++ (wsX5_eatFromLots_r4 ++ wsX5_eatFromLots_r5)))) ++ wsX30 ++ wsX50 ++ wsJx4a65c0 ++ wsX10 ++ wsX20)
def wsX5_feedPeople_r1 : List Cond := [Cond.methodLink RX5 212 Lib.Math.min.name, Cond.static Lib.Math.min.name, Cond.initialized "java/lang/Math", Cond.code Lib.Math.min.name Lib.Math.min.code 2 (some .int), Cond.methodLink RX5 178 yX5_foodInStation, Cond.instanceMethod yX5_foodInStation, Cond.selects RX5 yX5_foodInStation yX5_foodInStation, Cond.initialized RX5, Cond.code yX5_foodInStation cX5_foodInStation 4 (some .int), Cond.fieldLink RX5 16 "GlacierBook" "allLots" "Ljava/util/ArrayList;", Cond.classLink RX5 88 "GlacierBook$Lot", Cond.fieldLink RX5 119 "GlacierBook$Lot" "amount" "I", Cond.methodLink RX5 90 yJx4a65c_size_8abf5, Cond.instanceMethod yJx4a65c_size_8abf5, Cond.selects RJx4a65c yJx4a65c_size_8abf5 yJx4a65c_size_8abf5, Cond.initialized RJx4a65c, Cond.code yJx4a65c_size_8abf5 cJx4a65c_size_8abf5 1 (some .int), Cond.fieldLink RJx4a65c 48 "java/util/ArrayList" "size" "I", Cond.methodLink RX5 60 yJx4a65c_get_915e3, Cond.instanceMethod yJx4a65c_get_915e3, Cond.selects RJx4a65c yJx4a65c_get_915e3 yJx4a65c_get_915e3, Cond.code yJx4a65c_get_915e3 cJx4a65c_get_915e3 2 (some (.object "java/lang/Object")), Cond.methodLink RJx4a65c 118 yJ15_checkIndex_7cf53, Cond.static yJ15_checkIndex_7cf53]
def wsX5_feedPeople_r2 : List Cond := [Cond.initialized RJ15, Cond.code yJ15_checkIndex_7cf53 cJ15_checkIndex_7cf53 2 (some .int), Cond.methodLink RJ15 105 yJ3_checkIndex_8e157, Cond.static yJ3_checkIndex_8e157, Cond.initialized RJ3, Cond.code yJ3_checkIndex_8e157 cJ3_checkIndex_8e157 3 (some .int), Cond.methodLink RJx4a65c 123 yJx4a65c_elementData_915e3, Cond.instanceMethod yJx4a65c_elementData_915e3, Cond.selects RJx4a65c yJx4a65c_elementData_915e3 yJx4a65c_elementData_915e3, Cond.code yJx4a65c_elementData_915e3 cJx4a65c_elementData_915e3 2 (some (.object "java/lang/Object")), Cond.fieldLink RJx4a65c 9 "java/util/ArrayList" "elementData" "[Ljava/lang/Object;", Cond.methodLink RX5 221 yX3_isFoodInStation, Cond.instanceMethod yX3_isFoodInStation, Cond.selects RX3 yX3_isFoodInStation yX3_isFoodInStation, Cond.initialized RX3, Cond.code yX3_isFoodInStation cX3_isFoodInStation 1 (some .boolean), Cond.fieldLink RX3 18 "GlacierBook$Lot" "depot" "LGlacierBook$Depot;", Cond.fieldLink RX3 28 "GlacierBook$Depot" "number" "I", Cond.fieldLink RX3 22 "GlacierBook$Lot" "good" "I", Cond.methodLink RX5 175 yX5_needOfAll, Cond.instanceMethod yX5_needOfAll, Cond.selects RX5 yX5_needOfAll yX5_needOfAll, Cond.code yX5_needOfAll cX5_needOfAll 3 (some .int), Cond.fieldLink RX5 19 "GlacierBook" "workers" "Ljava/util/ArrayList;"]
def wsX5_feedPeople_r3 : List Cond := [Cond.classLink RX5 48 "GlacierBook$Workers", Cond.methodLink RX5 225 yX4_need, Cond.instanceMethod yX4_need, Cond.selects RX4 yX4_need yX4_need, Cond.initialized RX4, Cond.code yX4_need cX4_need 1 (some .int), Cond.fieldLink RX4 7 "GlacierBook$Workers" "people" "I", Cond.fieldLink RX4 19 "GlacierBook$Workers" "unitsEach" "I", Cond.methodLink RX5 209 yX5_cutRations, Cond.instanceMethod yX5_cutRations, Cond.selects RX5 yX5_cutRations yX5_cutRations, Cond.code yX5_cutRations cX5_cutRations 7 none, Cond.fieldLink RX5 228 "GlacierBook$Workers" "ration" "I", Cond.fieldLink RX5 156 "GlacierBook$Workers" "missed" "I", Cond.methodLink RX5 218 yX5_eatFromLots, Cond.instanceMethod yX5_eatFromLots, Cond.selects RX5 yX5_eatFromLots yX5_eatFromLots, Cond.code yX5_eatFromLots cX5_eatFromLots 6 none, Cond.methodLink RX5 231 yX5_nextToEat, Cond.instanceMethod yX5_nextToEat, Cond.selects RX5 yX5_nextToEat yX5_nextToEat, Cond.code yX5_nextToEat cX5_nextToEat 5 (some (.object "GlacierBook$Lot")), Cond.fieldLink RX5 134 "GlacierBook$Lot" "lastDay" "I", Cond.methodLink RX5 127 yX5_changeAmount]
def wsX5_feedPeople_r4 : List Cond := [Cond.instanceMethod yX5_changeAmount, Cond.selects RX5 yX5_changeAmount yX5_changeAmount, Cond.code yX5_changeAmount cX5_changeAmount 4 none, Cond.fieldLink RX5 22 "GlacierBook" "journal" "Ljava/util/ArrayList;", Cond.constant RX5 205 (65536), Cond.classLink RX5 166 RX2, Cond.instantiable RX2 4, Cond.initialized RX2, Cond.fieldLink RX5 36 "GlacierBook" "crew" "I", Cond.methodLink RX5 206 yX2_init, Cond.instanceMethod yX2_init, Cond.code yX2_init cX2_init 5 none, Cond.methodLink RX2 1 objectInit, Cond.instanceMethod objectInit, Cond.code objectInit ⟨#[0xb1]⟩ 1 none, Cond.fieldLink RX2 7 "GlacierBook$Entry" "crew" "I", Cond.fieldLink RX2 13 "GlacierBook$Entry" "lot" "LGlacierBook$Lot;", Cond.fieldLink RX2 17 "GlacierBook$Entry" "change" "I", Cond.fieldLink RX2 20 "GlacierBook$Entry" "cause" "I", Cond.methodLink RX5 44 yJx4a65c_add_9ea2d, Cond.instanceMethod yJx4a65c_add_9ea2d, Cond.selects RJx4a65c yJx4a65c_add_9ea2d yJx4a65c_add_9ea2d, Cond.code yJx4a65c_add_9ea2d cJx4a65c_add_9ea2d 2 (some .boolean), Cond.fieldLink RJx4a65c 63 "java/util/ArrayList" "modCount" "I"]
def wsX5_feedPeople_r5 : List Cond := [Cond.sameField "java/util/ArrayList" "java/util/AbstractList" "modCount" "I", Cond.methodLink RJx4a65c 131 yJx4a65c_add_72be8, Cond.instanceMethod yJx4a65c_add_72be8, Cond.selects RJx4a65c yJx4a65c_add_72be8 yJx4a65c_add_72be8, Cond.code yJx4a65c_add_72be8 cJx4a65c_add_72be8 4 none, Cond.methodLink RJx4a65c 129 yJx4a65c_grow_d5877, Cond.instanceMethod yJx4a65c_grow_d5877, Cond.selects RJx4a65c yJx4a65c_grow_d5877 yJx4a65c_grow_d5877, Cond.code yJx4a65c_grow_d5877 cJx4a65c_grow_d5877 1 (some (.array (.object "java/lang/Object"))), Cond.methodLink RJx4a65c 69 yJx4a65c_grow_92f84, Cond.instanceMethod yJx4a65c_grow_92f84, Cond.selects RJx4a65c yJx4a65c_grow_92f84 yJx4a65c_grow_92f84, Cond.code yJx4a65c_grow_92f84 cJx4a65c_grow_92f84 4 (some (.array (.object "java/lang/Object"))), Cond.fieldLink RJx4a65c 39 "java/util/ArrayList" "DEFAULTCAPACITY_EMPTY_ELEMENTDATA" "[Ljava/lang/Object;", Cond.methodLink RJx4a65c 79 Lib.Math.max.name, Cond.static Lib.Math.max.name, Cond.code Lib.Math.max.name Lib.Math.max.code 2 (some .int), Cond.classLink RJx4a65c 7 "java/lang/Object", Cond.methodLink RJx4a65c 73 yJ8_newLength_cabcc, Cond.static yJ8_newLength_cabcc, Cond.initialized RJ8, Cond.code yJ8_newLength_cabcc cJ8_newLength_cabcc 4 (some .int), Cond.methodLink RJ8 194 Lib.Math.max.name, Cond.constant RJ8 200 (2147483639)]
def wsX5_feedPeople_r6 : List Cond := [Cond.methodLink RJ8 201 yJ8_hugeLength_7cf53, Cond.static yJ8_hugeLength_7cf53, Cond.code yJ8_hugeLength_7cf53 cJ8_hugeLength_7cf53 3 (some .int), Cond.methodLink RJx4a65c 66 yJ7_copyOf_1904c, Cond.static yJ7_copyOf_1904c, Cond.initialized RJ7, Cond.code yJ7_copyOf_1904c cJ7_copyOf_1904c 2 (some (.array (.object "java/lang/Object"))), Cond.methodLink RJ7 86 ⟨"java/lang/Object", "getClass", "()Ljava/lang/Class;"⟩, Cond.selects "[Ljava/lang/Object;" ⟨"java/lang/Object", "getClass", "()Ljava/lang/Class;"⟩ ⟨"java/lang/Object", "getClass", "()Ljava/lang/Class;"⟩, Cond.instanceMethod ⟨"java/lang/Object", "getClass", "()Ljava/lang/Class;"⟩, Cond.native ⟨"java/lang/Object", "getClass", "()Ljava/lang/Class;"⟩, Cond.methodLink RJ7 300 yJ7_copyOf_6403c, Cond.static yJ7_copyOf_6403c, Cond.code yJ7_copyOf_6403c cJ7_copyOf_6403c 4 (some (.array (.object "java/lang/Object"))), Cond.classLink RJ7 110 "[Ljava/lang/Object;", Cond.classLink RJ7 2 "java/lang/Object", Cond.methodLink RJ7 304 Lib.Math.min.name, Cond.methodLink RJ7 150 arraycopyName, Cond.native arraycopyName, Cond.static arraycopyName, Cond.initialized "java/lang/System"]
def wsX5_feedPeople : List Cond := .code yX5_feedPeople cX5_feedPeople 4 (some .int) :: ((wsX5_feedPeople_r1 ++ (wsX5_feedPeople_r2 ++ (wsX5_feedPeople_r3 ++ (wsX5_feedPeople_r4 ++ (wsX5_feedPeople_r5 ++ wsX5_feedPeople_r6))))) ++ wsX50 ++ wsX30 ++ wsJx4a65c0 ++ wsX10 ++ wsX40 ++ wsX20)
def wsX5_pass_r1 : List Cond := [Cond.classLink RX5 122 "java/lang/IllegalStateException", Cond.initialized "java/lang/IllegalStateException", Cond.fieldLink RX5 32 "GlacierBook" "day" "I", Cond.methodLink RX5 81 yX5_requireRange, Cond.static yX5_requireRange, Cond.initialized RX5, Cond.code yX5_requireRange cX5_requireRange 3 none, Cond.classLink RX5 108 "java/lang/IllegalArgumentException", Cond.initialized "java/lang/IllegalArgumentException", Cond.methodLink RX5 145 yX5_throwAwayOld, Cond.instanceMethod yX5_throwAwayOld, Cond.selects RX5 yX5_throwAwayOld yX5_throwAwayOld, Cond.code yX5_throwAwayOld cX5_throwAwayOld 3 none, Cond.fieldLink RX5 16 "GlacierBook" "allLots" "Ljava/util/ArrayList;", Cond.classLink RX5 88 "GlacierBook$Lot", Cond.fieldLink RX5 134 "GlacierBook$Lot" "lastDay" "I", Cond.fieldLink RX5 119 "GlacierBook$Lot" "amount" "I", Cond.methodLink RX5 90 yJx4a65c_size_8abf5, Cond.instanceMethod yJx4a65c_size_8abf5, Cond.selects RJx4a65c yJx4a65c_size_8abf5 yJx4a65c_size_8abf5, Cond.initialized RJx4a65c, Cond.code yJx4a65c_size_8abf5 cJx4a65c_size_8abf5 1 (some .int), Cond.fieldLink RJx4a65c 48 "java/util/ArrayList" "size" "I", Cond.methodLink RX5 60 yJx4a65c_get_915e3]
def wsX5_pass_r2 : List Cond := [Cond.instanceMethod yJx4a65c_get_915e3, Cond.selects RJx4a65c yJx4a65c_get_915e3 yJx4a65c_get_915e3, Cond.code yJx4a65c_get_915e3 cJx4a65c_get_915e3 2 (some (.object "java/lang/Object")), Cond.methodLink RJx4a65c 118 yJ15_checkIndex_7cf53, Cond.static yJ15_checkIndex_7cf53, Cond.initialized RJ15, Cond.code yJ15_checkIndex_7cf53 cJ15_checkIndex_7cf53 2 (some .int), Cond.methodLink RJ15 105 yJ3_checkIndex_8e157, Cond.static yJ3_checkIndex_8e157, Cond.initialized RJ3, Cond.code yJ3_checkIndex_8e157 cJ3_checkIndex_8e157 3 (some .int), Cond.methodLink RJx4a65c 123 yJx4a65c_elementData_915e3, Cond.instanceMethod yJx4a65c_elementData_915e3, Cond.selects RJx4a65c yJx4a65c_elementData_915e3 yJx4a65c_elementData_915e3, Cond.code yJx4a65c_elementData_915e3 cJx4a65c_elementData_915e3 2 (some (.object "java/lang/Object")), Cond.fieldLink RJx4a65c 9 "java/util/ArrayList" "elementData" "[Ljava/lang/Object;", Cond.methodLink RX5 127 yX5_changeAmount, Cond.instanceMethod yX5_changeAmount, Cond.selects RX5 yX5_changeAmount yX5_changeAmount, Cond.code yX5_changeAmount cX5_changeAmount 4 none, Cond.fieldLink RX5 22 "GlacierBook" "journal" "Ljava/util/ArrayList;", Cond.constant RX5 205 (65536), Cond.classLink RX5 166 RX2, Cond.instantiable RX2 4]
def wsX5_pass_r3 : List Cond := [Cond.initialized RX2, Cond.fieldLink RX5 36 "GlacierBook" "crew" "I", Cond.methodLink RX5 206 yX2_init, Cond.instanceMethod yX2_init, Cond.code yX2_init cX2_init 5 none, Cond.methodLink RX2 1 objectInit, Cond.instanceMethod objectInit, Cond.code objectInit ⟨#[0xb1]⟩ 1 none, Cond.fieldLink RX2 7 "GlacierBook$Entry" "crew" "I", Cond.fieldLink RX2 13 "GlacierBook$Entry" "lot" "LGlacierBook$Lot;", Cond.fieldLink RX2 17 "GlacierBook$Entry" "change" "I", Cond.fieldLink RX2 20 "GlacierBook$Entry" "cause" "I", Cond.methodLink RX5 44 yJx4a65c_add_9ea2d, Cond.instanceMethod yJx4a65c_add_9ea2d, Cond.selects RJx4a65c yJx4a65c_add_9ea2d yJx4a65c_add_9ea2d, Cond.code yJx4a65c_add_9ea2d cJx4a65c_add_9ea2d 2 (some .boolean), Cond.fieldLink RJx4a65c 63 "java/util/ArrayList" "modCount" "I", Cond.sameField "java/util/ArrayList" "java/util/AbstractList" "modCount" "I", Cond.methodLink RJx4a65c 131 yJx4a65c_add_72be8, Cond.instanceMethod yJx4a65c_add_72be8, Cond.selects RJx4a65c yJx4a65c_add_72be8 yJx4a65c_add_72be8, Cond.code yJx4a65c_add_72be8 cJx4a65c_add_72be8 4 none, Cond.methodLink RJx4a65c 129 yJx4a65c_grow_d5877, Cond.instanceMethod yJx4a65c_grow_d5877]
def wsX5_pass_r4 : List Cond := [Cond.selects RJx4a65c yJx4a65c_grow_d5877 yJx4a65c_grow_d5877, Cond.code yJx4a65c_grow_d5877 cJx4a65c_grow_d5877 1 (some (.array (.object "java/lang/Object"))), Cond.methodLink RJx4a65c 69 yJx4a65c_grow_92f84, Cond.instanceMethod yJx4a65c_grow_92f84, Cond.selects RJx4a65c yJx4a65c_grow_92f84 yJx4a65c_grow_92f84, Cond.code yJx4a65c_grow_92f84 cJx4a65c_grow_92f84 4 (some (.array (.object "java/lang/Object"))), Cond.fieldLink RJx4a65c 39 "java/util/ArrayList" "DEFAULTCAPACITY_EMPTY_ELEMENTDATA" "[Ljava/lang/Object;", Cond.methodLink RJx4a65c 79 Lib.Math.max.name, Cond.static Lib.Math.max.name, Cond.initialized "java/lang/Math", Cond.code Lib.Math.max.name Lib.Math.max.code 2 (some .int), Cond.classLink RJx4a65c 7 "java/lang/Object", Cond.methodLink RJx4a65c 73 yJ8_newLength_cabcc, Cond.static yJ8_newLength_cabcc, Cond.initialized RJ8, Cond.code yJ8_newLength_cabcc cJ8_newLength_cabcc 4 (some .int), Cond.methodLink RJ8 194 Lib.Math.max.name, Cond.constant RJ8 200 (2147483639), Cond.methodLink RJ8 201 yJ8_hugeLength_7cf53, Cond.static yJ8_hugeLength_7cf53, Cond.code yJ8_hugeLength_7cf53 cJ8_hugeLength_7cf53 3 (some .int), Cond.methodLink RJx4a65c 66 yJ7_copyOf_1904c, Cond.static yJ7_copyOf_1904c, Cond.initialized RJ7]
def wsX5_pass_r5 : List Cond := [Cond.code yJ7_copyOf_1904c cJ7_copyOf_1904c 2 (some (.array (.object "java/lang/Object"))), Cond.methodLink RJ7 86 ⟨"java/lang/Object", "getClass", "()Ljava/lang/Class;"⟩, Cond.selects "[Ljava/lang/Object;" ⟨"java/lang/Object", "getClass", "()Ljava/lang/Class;"⟩ ⟨"java/lang/Object", "getClass", "()Ljava/lang/Class;"⟩, Cond.instanceMethod ⟨"java/lang/Object", "getClass", "()Ljava/lang/Class;"⟩, Cond.native ⟨"java/lang/Object", "getClass", "()Ljava/lang/Class;"⟩, Cond.methodLink RJ7 300 yJ7_copyOf_6403c, Cond.static yJ7_copyOf_6403c, Cond.code yJ7_copyOf_6403c cJ7_copyOf_6403c 4 (some (.array (.object "java/lang/Object"))), Cond.classLink RJ7 110 "[Ljava/lang/Object;", Cond.classLink RJ7 2 "java/lang/Object", Cond.methodLink RJ7 304 Lib.Math.min.name, Cond.static Lib.Math.min.name, Cond.code Lib.Math.min.name Lib.Math.min.code 2 (some .int), Cond.methodLink RJ7 150 arraycopyName, Cond.native arraycopyName, Cond.static arraycopyName, Cond.initialized "java/lang/System", Cond.methodLink RX5 148 yX5_freeze, Cond.instanceMethod yX5_freeze, Cond.selects RX5 yX5_freeze yX5_freeze, Cond.code yX5_freeze cX5_freeze 3 none, Cond.fieldLink RX5 28 "GlacierBook" "frost" "LGlacierBook$Days;", Cond.fieldLink RX5 131 "GlacierBook$Lot" "good" "I", Cond.fieldLink RX5 104 "GlacierBook$Lot" "depot" "LGlacierBook$Depot;"]
def wsX5_pass_r6 : List Cond := [Cond.fieldLink RX5 74 "GlacierBook$Depot" "warm" "Z", Cond.methodLink RX5 70 yX0_include, Cond.instanceMethod yX0_include, Cond.selects RX0 yX0_include yX0_include, Cond.initialized RX0, Cond.code yX0_include cX0_include 2 (some .boolean), Cond.fieldLink RX0 9 "GlacierBook$Days" "from" "I", Cond.fieldLink RX0 15 "GlacierBook$Days" "to" "I", Cond.methodLink RX5 151 yX5_feedPeople, Cond.instanceMethod yX5_feedPeople, Cond.selects RX5 yX5_feedPeople yX5_feedPeople, Cond.code yX5_feedPeople cX5_feedPeople 4 (some .int), Cond.methodLink RX5 212 Lib.Math.min.name, Cond.methodLink RX5 178 yX5_foodInStation, Cond.instanceMethod yX5_foodInStation, Cond.selects RX5 yX5_foodInStation yX5_foodInStation, Cond.code yX5_foodInStation cX5_foodInStation 4 (some .int), Cond.methodLink RX5 221 yX3_isFoodInStation, Cond.instanceMethod yX3_isFoodInStation, Cond.selects RX3 yX3_isFoodInStation yX3_isFoodInStation, Cond.initialized RX3, Cond.code yX3_isFoodInStation cX3_isFoodInStation 1 (some .boolean), Cond.fieldLink RX3 18 "GlacierBook$Lot" "depot" "LGlacierBook$Depot;", Cond.fieldLink RX3 28 "GlacierBook$Depot" "number" "I"]
def wsX5_pass_r7 : List Cond := [Cond.fieldLink RX3 22 "GlacierBook$Lot" "good" "I", Cond.methodLink RX5 175 yX5_needOfAll, Cond.instanceMethod yX5_needOfAll, Cond.selects RX5 yX5_needOfAll yX5_needOfAll, Cond.code yX5_needOfAll cX5_needOfAll 3 (some .int), Cond.fieldLink RX5 19 "GlacierBook" "workers" "Ljava/util/ArrayList;", Cond.classLink RX5 48 "GlacierBook$Workers", Cond.methodLink RX5 225 yX4_need, Cond.instanceMethod yX4_need, Cond.selects RX4 yX4_need yX4_need, Cond.initialized RX4, Cond.code yX4_need cX4_need 1 (some .int), Cond.fieldLink RX4 7 "GlacierBook$Workers" "people" "I", Cond.fieldLink RX4 19 "GlacierBook$Workers" "unitsEach" "I", Cond.methodLink RX5 209 yX5_cutRations, Cond.instanceMethod yX5_cutRations, Cond.selects RX5 yX5_cutRations yX5_cutRations, Cond.code yX5_cutRations cX5_cutRations 7 none, Cond.fieldLink RX5 228 "GlacierBook$Workers" "ration" "I", Cond.fieldLink RX5 156 "GlacierBook$Workers" "missed" "I", Cond.methodLink RX5 218 yX5_eatFromLots, Cond.instanceMethod yX5_eatFromLots, Cond.selects RX5 yX5_eatFromLots yX5_eatFromLots, Cond.code yX5_eatFromLots cX5_eatFromLots 6 none]
def wsX5_pass_r8 : List Cond := [Cond.methodLink RX5 231 yX5_nextToEat, Cond.instanceMethod yX5_nextToEat, Cond.selects RX5 yX5_nextToEat yX5_nextToEat, Cond.code yX5_nextToEat cX5_nextToEat 5 (some (.object "GlacierBook$Lot"))]
def wsX5_pass : List Cond := .code yX5_pass cX5_pass 4 (some .int) :: ((wsX5_pass_r1 ++ (wsX5_pass_r2 ++ (wsX5_pass_r3 ++ (wsX5_pass_r4 ++ (wsX5_pass_r5 ++ (wsX5_pass_r6 ++ (wsX5_pass_r7 ++ wsX5_pass_r8))))))) ++ wsX50 ++ wsX30 ++ wsJx4a65c0 ++ wsX20 ++ wsX10 ++ wsX00 ++ wsX40 ++ (vx_atS RX5 126 "java/lang/IllegalStateException" ["java/lang/RuntimeException", "java/lang/Exception"]).filter goodWord ++ (vx_atS RX5 112 "java/lang/IllegalArgumentException" ["java/lang/RuntimeException", "java/lang/Exception"]).filter goodWord)
def wsX5_nextCrew : List Cond := .code yX5_nextCrew cX5_nextCrew 1 (some .int) :: ([.classLink RX5 122 "java/lang/IllegalStateException", .initialized "java/lang/IllegalStateException", .fieldLink RX5 36 "GlacierBook" "crew" "I"] ++ wsX50 ++ (vx_atS RX5 126 "java/lang/IllegalStateException" ["java/lang/RuntimeException", "java/lang/Exception"]).filter goodWord)
def wsX5_today : List Cond := .code yX5_today cX5_today 1 (some .int) :: ([.fieldLink RX5 32 "GlacierBook" "day" "I"] ++ wsX50)
def wsX5_hunger_r1 : List Cond := [Cond.fieldLink RX5 19 "GlacierBook" "workers" "Ljava/util/ArrayList;", Cond.classLink RX5 48 "GlacierBook$Workers", Cond.fieldLink RX5 156 "GlacierBook$Workers" "missed" "I", Cond.methodLink RX5 137 yX5_requireWork, Cond.instanceMethod yX5_requireWork, Cond.selects RX5 yX5_requireWork yX5_requireWork, Cond.initialized RX5, Cond.code yX5_requireWork cX5_requireWork 2 none, Cond.methodLink RX5 90 yJx4a65c_size_8abf5, Cond.instanceMethod yJx4a65c_size_8abf5, Cond.selects RJx4a65c yJx4a65c_size_8abf5 yJx4a65c_size_8abf5, Cond.initialized RJx4a65c, Cond.code yJx4a65c_size_8abf5 cJx4a65c_size_8abf5 1 (some .int), Cond.fieldLink RJx4a65c 48 "java/util/ArrayList" "size" "I", Cond.methodLink RX5 191 yX5_requireIndex, Cond.static yX5_requireIndex, Cond.code yX5_requireIndex cX5_requireIndex 2 none, Cond.classLink RX5 194 "java/lang/IndexOutOfBoundsException", Cond.initialized "java/lang/IndexOutOfBoundsException", Cond.methodLink RX5 60 yJx4a65c_get_915e3, Cond.instanceMethod yJx4a65c_get_915e3, Cond.selects RJx4a65c yJx4a65c_get_915e3 yJx4a65c_get_915e3, Cond.code yJx4a65c_get_915e3 cJx4a65c_get_915e3 2 (some (.object "java/lang/Object")), Cond.methodLink RJx4a65c 118 yJ15_checkIndex_7cf53]
def wsX5_hunger_r2 : List Cond := [Cond.static yJ15_checkIndex_7cf53, Cond.initialized RJ15, Cond.code yJ15_checkIndex_7cf53 cJ15_checkIndex_7cf53 2 (some .int), Cond.methodLink RJ15 105 yJ3_checkIndex_8e157, Cond.static yJ3_checkIndex_8e157, Cond.initialized RJ3, Cond.code yJ3_checkIndex_8e157 cJ3_checkIndex_8e157 3 (some .int), Cond.methodLink RJx4a65c 123 yJx4a65c_elementData_915e3, Cond.instanceMethod yJx4a65c_elementData_915e3, Cond.selects RJx4a65c yJx4a65c_elementData_915e3 yJx4a65c_elementData_915e3, Cond.code yJx4a65c_elementData_915e3 cJx4a65c_elementData_915e3 2 (some (.object "java/lang/Object")), Cond.fieldLink RJx4a65c 9 "java/util/ArrayList" "elementData" "[Ljava/lang/Object;"]
def wsX5_hunger : List Cond := .code yX5_hunger cX5_hunger 2 (some .int) :: ((wsX5_hunger_r1 ++ wsX5_hunger_r2) ++ wsX50 ++ wsX40 ++ wsJx4a65c0 ++ (vx_atS RX5 198 "java/lang/IndexOutOfBoundsException" ["java/lang/RuntimeException", "java/lang/Exception"]).filter goodWord)
def wsX5_lots : List Cond := .code yX5_lots cX5_lots 1 (some .int) :: ([.fieldLink RX5 16 "GlacierBook" "allLots" "Ljava/util/ArrayList;", .methodLink RX5 90 yJx4a65c_size_8abf5, .instanceMethod yJx4a65c_size_8abf5, .selects RJx4a65c yJx4a65c_size_8abf5 yJx4a65c_size_8abf5, .initialized RJx4a65c, .code yJx4a65c_size_8abf5 cJx4a65c_size_8abf5 1 (some .int), .fieldLink RJx4a65c 48 "java/util/ArrayList" "size" "I"] ++ wsX50 ++ wsJx4a65c0)
def wsX5_amount_r1 : List Cond := [Cond.fieldLink RX5 16 "GlacierBook" "allLots" "Ljava/util/ArrayList;", Cond.classLink RX5 88 "GlacierBook$Lot", Cond.fieldLink RX5 119 "GlacierBook$Lot" "amount" "I", Cond.methodLink RX5 101 yX5_requireLot, Cond.instanceMethod yX5_requireLot, Cond.selects RX5 yX5_requireLot yX5_requireLot, Cond.initialized RX5, Cond.code yX5_requireLot cX5_requireLot 2 none, Cond.methodLink RX5 90 yJx4a65c_size_8abf5, Cond.instanceMethod yJx4a65c_size_8abf5, Cond.selects RJx4a65c yJx4a65c_size_8abf5 yJx4a65c_size_8abf5, Cond.initialized RJx4a65c, Cond.code yJx4a65c_size_8abf5 cJx4a65c_size_8abf5 1 (some .int), Cond.fieldLink RJx4a65c 48 "java/util/ArrayList" "size" "I", Cond.methodLink RX5 191 yX5_requireIndex, Cond.static yX5_requireIndex, Cond.code yX5_requireIndex cX5_requireIndex 2 none, Cond.classLink RX5 194 "java/lang/IndexOutOfBoundsException", Cond.initialized "java/lang/IndexOutOfBoundsException", Cond.methodLink RX5 60 yJx4a65c_get_915e3, Cond.instanceMethod yJx4a65c_get_915e3, Cond.selects RJx4a65c yJx4a65c_get_915e3 yJx4a65c_get_915e3, Cond.code yJx4a65c_get_915e3 cJx4a65c_get_915e3 2 (some (.object "java/lang/Object")), Cond.methodLink RJx4a65c 118 yJ15_checkIndex_7cf53]
def wsX5_amount_r2 : List Cond := [Cond.static yJ15_checkIndex_7cf53, Cond.initialized RJ15, Cond.code yJ15_checkIndex_7cf53 cJ15_checkIndex_7cf53 2 (some .int), Cond.methodLink RJ15 105 yJ3_checkIndex_8e157, Cond.static yJ3_checkIndex_8e157, Cond.initialized RJ3, Cond.code yJ3_checkIndex_8e157 cJ3_checkIndex_8e157 3 (some .int), Cond.methodLink RJx4a65c 123 yJx4a65c_elementData_915e3, Cond.instanceMethod yJx4a65c_elementData_915e3, Cond.selects RJx4a65c yJx4a65c_elementData_915e3 yJx4a65c_elementData_915e3, Cond.code yJx4a65c_elementData_915e3 cJx4a65c_elementData_915e3 2 (some (.object "java/lang/Object")), Cond.fieldLink RJx4a65c 9 "java/util/ArrayList" "elementData" "[Ljava/lang/Object;"]
def wsX5_amount : List Cond := .code yX5_amount cX5_amount 2 (some .int) :: ((wsX5_amount_r1 ++ wsX5_amount_r2) ++ wsX50 ++ wsX30 ++ wsJx4a65c0 ++ (vx_atS RX5 198 "java/lang/IndexOutOfBoundsException" ["java/lang/RuntimeException", "java/lang/Exception"]).filter goodWord)
def wsX5_about_r1 : List Cond := [Cond.fieldLink RX5 16 "GlacierBook" "allLots" "Ljava/util/ArrayList;", Cond.classLink RX5 88 "GlacierBook$Lot", Cond.fieldLink RX5 104 "GlacierBook$Lot" "depot" "LGlacierBook$Depot;", Cond.fieldLink RX5 159 "GlacierBook$Depot" "number" "I", Cond.fieldLink RX5 131 "GlacierBook$Lot" "good" "I", Cond.methodLink RX5 101 yX5_requireLot, Cond.instanceMethod yX5_requireLot, Cond.selects RX5 yX5_requireLot yX5_requireLot, Cond.initialized RX5, Cond.code yX5_requireLot cX5_requireLot 2 none, Cond.methodLink RX5 90 yJx4a65c_size_8abf5, Cond.instanceMethod yJx4a65c_size_8abf5, Cond.selects RJx4a65c yJx4a65c_size_8abf5 yJx4a65c_size_8abf5, Cond.initialized RJx4a65c, Cond.code yJx4a65c_size_8abf5 cJx4a65c_size_8abf5 1 (some .int), Cond.fieldLink RJx4a65c 48 "java/util/ArrayList" "size" "I", Cond.methodLink RX5 191 yX5_requireIndex, Cond.static yX5_requireIndex, Cond.code yX5_requireIndex cX5_requireIndex 2 none, Cond.classLink RX5 194 "java/lang/IndexOutOfBoundsException", Cond.initialized "java/lang/IndexOutOfBoundsException", Cond.methodLink RX5 60 yJx4a65c_get_915e3, Cond.instanceMethod yJx4a65c_get_915e3, Cond.selects RJx4a65c yJx4a65c_get_915e3 yJx4a65c_get_915e3]
def wsX5_about_r2 : List Cond := [Cond.code yJx4a65c_get_915e3 cJx4a65c_get_915e3 2 (some (.object "java/lang/Object")), Cond.methodLink RJx4a65c 118 yJ15_checkIndex_7cf53, Cond.static yJ15_checkIndex_7cf53, Cond.initialized RJ15, Cond.code yJ15_checkIndex_7cf53 cJ15_checkIndex_7cf53 2 (some .int), Cond.methodLink RJ15 105 yJ3_checkIndex_8e157, Cond.static yJ3_checkIndex_8e157, Cond.initialized RJ3, Cond.code yJ3_checkIndex_8e157 cJ3_checkIndex_8e157 3 (some .int), Cond.methodLink RJx4a65c 123 yJx4a65c_elementData_915e3, Cond.instanceMethod yJx4a65c_elementData_915e3, Cond.selects RJx4a65c yJx4a65c_elementData_915e3 yJx4a65c_elementData_915e3, Cond.code yJx4a65c_elementData_915e3 cJx4a65c_elementData_915e3 2 (some (.object "java/lang/Object")), Cond.fieldLink RJx4a65c 9 "java/util/ArrayList" "elementData" "[Ljava/lang/Object;"]
def wsX5_about : List Cond := .code yX5_about cX5_about 3 (some .int) :: ((wsX5_about_r1 ++ wsX5_about_r2) ++ wsX50 ++ wsX30 ++ wsX10 ++ wsJx4a65c0 ++ (vx_atS RX5 198 "java/lang/IndexOutOfBoundsException" ["java/lang/RuntimeException", "java/lang/Exception"]).filter goodWord)
def wsX5_stock_r1 : List Cond := [Cond.fieldLink RX5 16 "GlacierBook" "allLots" "Ljava/util/ArrayList;", Cond.classLink RX5 88 "GlacierBook$Lot", Cond.fieldLink RX5 119 "GlacierBook$Lot" "amount" "I", Cond.methodLink RX5 53 yX5_requireDepot, Cond.instanceMethod yX5_requireDepot, Cond.selects RX5 yX5_requireDepot yX5_requireDepot, Cond.initialized RX5, Cond.code yX5_requireDepot cX5_requireDepot 2 none, Cond.fieldLink RX5 10 "GlacierBook" "depots" "Ljava/util/ArrayList;", Cond.methodLink RX5 90 yJx4a65c_size_8abf5, Cond.instanceMethod yJx4a65c_size_8abf5, Cond.selects RJx4a65c yJx4a65c_size_8abf5 yJx4a65c_size_8abf5, Cond.initialized RJx4a65c, Cond.code yJx4a65c_size_8abf5 cJx4a65c_size_8abf5 1 (some .int), Cond.fieldLink RJx4a65c 48 "java/util/ArrayList" "size" "I", Cond.methodLink RX5 191 yX5_requireIndex, Cond.static yX5_requireIndex, Cond.code yX5_requireIndex cX5_requireIndex 2 none, Cond.classLink RX5 194 "java/lang/IndexOutOfBoundsException", Cond.initialized "java/lang/IndexOutOfBoundsException", Cond.methodLink RX5 78 yX5_requireGood, Cond.instanceMethod yX5_requireGood, Cond.selects RX5 yX5_requireGood yX5_requireGood, Cond.code yX5_requireGood cX5_requireGood 2 none]
def wsX5_stock_r2 : List Cond := [Cond.methodLink RX5 60 yJx4a65c_get_915e3, Cond.instanceMethod yJx4a65c_get_915e3, Cond.selects RJx4a65c yJx4a65c_get_915e3 yJx4a65c_get_915e3, Cond.code yJx4a65c_get_915e3 cJx4a65c_get_915e3 2 (some (.object "java/lang/Object")), Cond.methodLink RJx4a65c 118 yJ15_checkIndex_7cf53, Cond.static yJ15_checkIndex_7cf53, Cond.initialized RJ15, Cond.code yJ15_checkIndex_7cf53 cJ15_checkIndex_7cf53 2 (some .int), Cond.methodLink RJ15 105 yJ3_checkIndex_8e157, Cond.static yJ3_checkIndex_8e157, Cond.initialized RJ3, Cond.code yJ3_checkIndex_8e157 cJ3_checkIndex_8e157 3 (some .int), Cond.methodLink RJx4a65c 123 yJx4a65c_elementData_915e3, Cond.instanceMethod yJx4a65c_elementData_915e3, Cond.selects RJx4a65c yJx4a65c_elementData_915e3 yJx4a65c_elementData_915e3, Cond.code yJx4a65c_elementData_915e3 cJx4a65c_elementData_915e3 2 (some (.object "java/lang/Object")), Cond.fieldLink RJx4a65c 9 "java/util/ArrayList" "elementData" "[Ljava/lang/Object;", Cond.methodLink RX5 162 yX3_isOf, Cond.instanceMethod yX3_isOf, Cond.selects RX3 yX3_isOf yX3_isOf, Cond.initialized RX3, Cond.code yX3_isOf cX3_isOf 3 (some .boolean), Cond.fieldLink RX3 18 "GlacierBook$Lot" "depot" "LGlacierBook$Depot;", Cond.fieldLink RX3 28 "GlacierBook$Depot" "number" "I"]
def wsX5_stock_r3 : List Cond := [Cond.fieldLink RX3 22 "GlacierBook$Lot" "good" "I"]
def wsX5_stock : List Cond := .code yX5_stock cX5_stock 6 (some .int) :: ((wsX5_stock_r1 ++ (wsX5_stock_r2 ++ wsX5_stock_r3)) ++ wsX50 ++ wsX30 ++ wsJx4a65c0 ++ wsX10 ++ (vx_atS RX5 198 "java/lang/IndexOutOfBoundsException" ["java/lang/RuntimeException", "java/lang/Exception"]).filter goodWord)
def wsX5_stockByJournal_r1 : List Cond := [Cond.fieldLink RX5 22 "GlacierBook" "journal" "Ljava/util/ArrayList;", Cond.classLink RX5 166 "GlacierBook$Entry", Cond.fieldLink RX5 168 "GlacierBook$Entry" "lot" "LGlacierBook$Lot;", Cond.fieldLink RX5 172 "GlacierBook$Entry" "change" "I", Cond.methodLink RX5 53 yX5_requireDepot, Cond.instanceMethod yX5_requireDepot, Cond.selects RX5 yX5_requireDepot yX5_requireDepot, Cond.initialized RX5, Cond.code yX5_requireDepot cX5_requireDepot 2 none, Cond.fieldLink RX5 10 "GlacierBook" "depots" "Ljava/util/ArrayList;", Cond.methodLink RX5 90 yJx4a65c_size_8abf5, Cond.instanceMethod yJx4a65c_size_8abf5, Cond.selects RJx4a65c yJx4a65c_size_8abf5 yJx4a65c_size_8abf5, Cond.initialized RJx4a65c, Cond.code yJx4a65c_size_8abf5 cJx4a65c_size_8abf5 1 (some .int), Cond.fieldLink RJx4a65c 48 "java/util/ArrayList" "size" "I", Cond.methodLink RX5 191 yX5_requireIndex, Cond.static yX5_requireIndex, Cond.code yX5_requireIndex cX5_requireIndex 2 none, Cond.classLink RX5 194 "java/lang/IndexOutOfBoundsException", Cond.initialized "java/lang/IndexOutOfBoundsException", Cond.methodLink RX5 78 yX5_requireGood, Cond.instanceMethod yX5_requireGood, Cond.selects RX5 yX5_requireGood yX5_requireGood]
def wsX5_stockByJournal_r2 : List Cond := [Cond.code yX5_requireGood cX5_requireGood 2 none, Cond.methodLink RX5 60 yJx4a65c_get_915e3, Cond.instanceMethod yJx4a65c_get_915e3, Cond.selects RJx4a65c yJx4a65c_get_915e3 yJx4a65c_get_915e3, Cond.code yJx4a65c_get_915e3 cJx4a65c_get_915e3 2 (some (.object "java/lang/Object")), Cond.methodLink RJx4a65c 118 yJ15_checkIndex_7cf53, Cond.static yJ15_checkIndex_7cf53, Cond.initialized RJ15, Cond.code yJ15_checkIndex_7cf53 cJ15_checkIndex_7cf53 2 (some .int), Cond.methodLink RJ15 105 yJ3_checkIndex_8e157, Cond.static yJ3_checkIndex_8e157, Cond.initialized RJ3, Cond.code yJ3_checkIndex_8e157 cJ3_checkIndex_8e157 3 (some .int), Cond.methodLink RJx4a65c 123 yJx4a65c_elementData_915e3, Cond.instanceMethod yJx4a65c_elementData_915e3, Cond.selects RJx4a65c yJx4a65c_elementData_915e3 yJx4a65c_elementData_915e3, Cond.code yJx4a65c_elementData_915e3 cJx4a65c_elementData_915e3 2 (some (.object "java/lang/Object")), Cond.fieldLink RJx4a65c 9 "java/util/ArrayList" "elementData" "[Ljava/lang/Object;", Cond.methodLink RX5 162 yX3_isOf, Cond.instanceMethod yX3_isOf, Cond.selects RX3 yX3_isOf yX3_isOf, Cond.initialized RX3, Cond.code yX3_isOf cX3_isOf 3 (some .boolean), Cond.fieldLink RX3 18 "GlacierBook$Lot" "depot" "LGlacierBook$Depot;"]
def wsX5_stockByJournal_r3 : List Cond := [Cond.fieldLink RX3 28 "GlacierBook$Depot" "number" "I", Cond.fieldLink RX3 22 "GlacierBook$Lot" "good" "I"]
def wsX5_stockByJournal : List Cond := .code yX5_stockByJournal cX5_stockByJournal 6 (some .int) :: ((wsX5_stockByJournal_r1 ++ (wsX5_stockByJournal_r2 ++ wsX5_stockByJournal_r3)) ++ wsX50 ++ wsX20 ++ wsJx4a65c0 ++ wsX30 ++ wsX10 ++ (vx_atS RX5 198 "java/lang/IndexOutOfBoundsException" ["java/lang/RuntimeException", "java/lang/Exception"]).filter goodWord)
def wsX5_enoughFor_r1 : List Cond := [Cond.methodLink RX5 175 yX5_needOfAll, Cond.instanceMethod yX5_needOfAll, Cond.selects RX5 yX5_needOfAll yX5_needOfAll, Cond.initialized RX5, Cond.code yX5_needOfAll cX5_needOfAll 3 (some .int), Cond.fieldLink RX5 19 "GlacierBook" "workers" "Ljava/util/ArrayList;", Cond.classLink RX5 48 "GlacierBook$Workers", Cond.methodLink RX5 90 yJx4a65c_size_8abf5, Cond.instanceMethod yJx4a65c_size_8abf5, Cond.selects RJx4a65c yJx4a65c_size_8abf5 yJx4a65c_size_8abf5, Cond.initialized RJx4a65c, Cond.code yJx4a65c_size_8abf5 cJx4a65c_size_8abf5 1 (some .int), Cond.fieldLink RJx4a65c 48 "java/util/ArrayList" "size" "I", Cond.methodLink RX5 60 yJx4a65c_get_915e3, Cond.instanceMethod yJx4a65c_get_915e3, Cond.selects RJx4a65c yJx4a65c_get_915e3 yJx4a65c_get_915e3, Cond.code yJx4a65c_get_915e3 cJx4a65c_get_915e3 2 (some (.object "java/lang/Object")), Cond.methodLink RJx4a65c 118 yJ15_checkIndex_7cf53, Cond.static yJ15_checkIndex_7cf53, Cond.initialized RJ15, Cond.code yJ15_checkIndex_7cf53 cJ15_checkIndex_7cf53 2 (some .int), Cond.methodLink RJ15 105 yJ3_checkIndex_8e157, Cond.static yJ3_checkIndex_8e157, Cond.initialized RJ3]
def wsX5_enoughFor_r2 : List Cond := [Cond.code yJ3_checkIndex_8e157 cJ3_checkIndex_8e157 3 (some .int), Cond.methodLink RJx4a65c 123 yJx4a65c_elementData_915e3, Cond.instanceMethod yJx4a65c_elementData_915e3, Cond.selects RJx4a65c yJx4a65c_elementData_915e3 yJx4a65c_elementData_915e3, Cond.code yJx4a65c_elementData_915e3 cJx4a65c_elementData_915e3 2 (some (.object "java/lang/Object")), Cond.fieldLink RJx4a65c 9 "java/util/ArrayList" "elementData" "[Ljava/lang/Object;", Cond.methodLink RX5 225 yX4_need, Cond.instanceMethod yX4_need, Cond.selects RX4 yX4_need yX4_need, Cond.initialized RX4, Cond.code yX4_need cX4_need 1 (some .int), Cond.fieldLink RX4 7 "GlacierBook$Workers" "people" "I", Cond.fieldLink RX4 19 "GlacierBook$Workers" "unitsEach" "I", Cond.methodLink RX5 178 yX5_foodInStation, Cond.instanceMethod yX5_foodInStation, Cond.selects RX5 yX5_foodInStation yX5_foodInStation, Cond.code yX5_foodInStation cX5_foodInStation 4 (some .int), Cond.fieldLink RX5 16 "GlacierBook" "allLots" "Ljava/util/ArrayList;", Cond.classLink RX5 88 "GlacierBook$Lot", Cond.fieldLink RX5 119 "GlacierBook$Lot" "amount" "I", Cond.methodLink RX5 221 yX3_isFoodInStation, Cond.instanceMethod yX3_isFoodInStation, Cond.selects RX3 yX3_isFoodInStation yX3_isFoodInStation, Cond.initialized RX3]
def wsX5_enoughFor_r3 : List Cond := [Cond.code yX3_isFoodInStation cX3_isFoodInStation 1 (some .boolean), Cond.fieldLink RX3 18 "GlacierBook$Lot" "depot" "LGlacierBook$Depot;", Cond.fieldLink RX3 28 "GlacierBook$Depot" "number" "I", Cond.fieldLink RX3 22 "GlacierBook$Lot" "good" "I"]
def wsX5_enoughFor : List Cond := .code yX5_enoughFor cX5_enoughFor 2 (some .int) :: ((wsX5_enoughFor_r1 ++ (wsX5_enoughFor_r2 ++ wsX5_enoughFor_r3)) ++ wsX50 ++ wsJx4a65c0 ++ wsX40 ++ wsX30 ++ wsX10)
def wsX5_entries : List Cond := .code yX5_entries cX5_entries 1 (some .int) :: ([.fieldLink RX5 22 "GlacierBook" "journal" "Ljava/util/ArrayList;", .methodLink RX5 90 yJx4a65c_size_8abf5, .instanceMethod yJx4a65c_size_8abf5, .selects RJx4a65c yJx4a65c_size_8abf5 yJx4a65c_size_8abf5, .initialized RJx4a65c, .code yJx4a65c_size_8abf5 cJx4a65c_size_8abf5 1 (some .int), .fieldLink RJx4a65c 48 "java/util/ArrayList" "size" "I"] ++ wsX50 ++ wsJx4a65c0)
def wsX5_requireEntry : List Cond := .code yX5_requireEntry cX5_requireEntry 2 none :: ([.fieldLink RX5 22 "GlacierBook" "journal" "Ljava/util/ArrayList;", .methodLink RX5 90 yJx4a65c_size_8abf5, .instanceMethod yJx4a65c_size_8abf5, .selects RJx4a65c yJx4a65c_size_8abf5 yJx4a65c_size_8abf5, .initialized RJx4a65c, .code yJx4a65c_size_8abf5 cJx4a65c_size_8abf5 1 (some .int), .fieldLink RJx4a65c 48 "java/util/ArrayList" "size" "I", .methodLink RX5 191 yX5_requireIndex, .static yX5_requireIndex, .initialized RX5, .code yX5_requireIndex cX5_requireIndex 2 none, .classLink RX5 194 "java/lang/IndexOutOfBoundsException", .initialized "java/lang/IndexOutOfBoundsException"] ++ wsX50 ++ wsJx4a65c0 ++ (vx_atS RX5 198 "java/lang/IndexOutOfBoundsException" ["java/lang/RuntimeException", "java/lang/Exception"]).filter goodWord)
def wsX5_changeOf_r1 : List Cond := [Cond.fieldLink RX5 22 "GlacierBook" "journal" "Ljava/util/ArrayList;", Cond.classLink RX5 166 "GlacierBook$Entry", Cond.fieldLink RX5 172 "GlacierBook$Entry" "change" "I", Cond.methodLink RX5 181 yX5_requireEntry, Cond.instanceMethod yX5_requireEntry, Cond.selects RX5 yX5_requireEntry yX5_requireEntry, Cond.initialized RX5, Cond.code yX5_requireEntry cX5_requireEntry 2 none, Cond.methodLink RX5 90 yJx4a65c_size_8abf5, Cond.instanceMethod yJx4a65c_size_8abf5, Cond.selects RJx4a65c yJx4a65c_size_8abf5 yJx4a65c_size_8abf5, Cond.initialized RJx4a65c, Cond.code yJx4a65c_size_8abf5 cJx4a65c_size_8abf5 1 (some .int), Cond.fieldLink RJx4a65c 48 "java/util/ArrayList" "size" "I", Cond.methodLink RX5 191 yX5_requireIndex, Cond.static yX5_requireIndex, Cond.code yX5_requireIndex cX5_requireIndex 2 none, Cond.classLink RX5 194 "java/lang/IndexOutOfBoundsException", Cond.initialized "java/lang/IndexOutOfBoundsException", Cond.methodLink RX5 60 yJx4a65c_get_915e3, Cond.instanceMethod yJx4a65c_get_915e3, Cond.selects RJx4a65c yJx4a65c_get_915e3 yJx4a65c_get_915e3, Cond.code yJx4a65c_get_915e3 cJx4a65c_get_915e3 2 (some (.object "java/lang/Object")), Cond.methodLink RJx4a65c 118 yJ15_checkIndex_7cf53]
def wsX5_changeOf_r2 : List Cond := [Cond.static yJ15_checkIndex_7cf53, Cond.initialized RJ15, Cond.code yJ15_checkIndex_7cf53 cJ15_checkIndex_7cf53 2 (some .int), Cond.methodLink RJ15 105 yJ3_checkIndex_8e157, Cond.static yJ3_checkIndex_8e157, Cond.initialized RJ3, Cond.code yJ3_checkIndex_8e157 cJ3_checkIndex_8e157 3 (some .int), Cond.methodLink RJx4a65c 123 yJx4a65c_elementData_915e3, Cond.instanceMethod yJx4a65c_elementData_915e3, Cond.selects RJx4a65c yJx4a65c_elementData_915e3 yJx4a65c_elementData_915e3, Cond.code yJx4a65c_elementData_915e3 cJx4a65c_elementData_915e3 2 (some (.object "java/lang/Object")), Cond.fieldLink RJx4a65c 9 "java/util/ArrayList" "elementData" "[Ljava/lang/Object;"]
def wsX5_changeOf : List Cond := .code yX5_changeOf cX5_changeOf 2 (some .int) :: ((wsX5_changeOf_r1 ++ wsX5_changeOf_r2) ++ wsX50 ++ wsX20 ++ wsJx4a65c0 ++ (vx_atS RX5 198 "java/lang/IndexOutOfBoundsException" ["java/lang/RuntimeException", "java/lang/Exception"]).filter goodWord)
def wsX5_lotOf_r1 : List Cond := [Cond.fieldLink RX5 22 "GlacierBook" "journal" "Ljava/util/ArrayList;", Cond.classLink RX5 166 "GlacierBook$Entry", Cond.fieldLink RX5 168 "GlacierBook$Entry" "lot" "LGlacierBook$Lot;", Cond.fieldLink RX5 184 "GlacierBook$Lot" "number" "I", Cond.fieldLink RX5 185 "GlacierBook$Entry" "cause" "I", Cond.methodLink RX5 181 yX5_requireEntry, Cond.instanceMethod yX5_requireEntry, Cond.selects RX5 yX5_requireEntry yX5_requireEntry, Cond.initialized RX5, Cond.code yX5_requireEntry cX5_requireEntry 2 none, Cond.methodLink RX5 90 yJx4a65c_size_8abf5, Cond.instanceMethod yJx4a65c_size_8abf5, Cond.selects RJx4a65c yJx4a65c_size_8abf5 yJx4a65c_size_8abf5, Cond.initialized RJx4a65c, Cond.code yJx4a65c_size_8abf5 cJx4a65c_size_8abf5 1 (some .int), Cond.fieldLink RJx4a65c 48 "java/util/ArrayList" "size" "I", Cond.methodLink RX5 191 yX5_requireIndex, Cond.static yX5_requireIndex, Cond.code yX5_requireIndex cX5_requireIndex 2 none, Cond.classLink RX5 194 "java/lang/IndexOutOfBoundsException", Cond.initialized "java/lang/IndexOutOfBoundsException", Cond.methodLink RX5 60 yJx4a65c_get_915e3, Cond.instanceMethod yJx4a65c_get_915e3, Cond.selects RJx4a65c yJx4a65c_get_915e3 yJx4a65c_get_915e3]
def wsX5_lotOf_r2 : List Cond := [Cond.code yJx4a65c_get_915e3 cJx4a65c_get_915e3 2 (some (.object "java/lang/Object")), Cond.methodLink RJx4a65c 118 yJ15_checkIndex_7cf53, Cond.static yJ15_checkIndex_7cf53, Cond.initialized RJ15, Cond.code yJ15_checkIndex_7cf53 cJ15_checkIndex_7cf53 2 (some .int), Cond.methodLink RJ15 105 yJ3_checkIndex_8e157, Cond.static yJ3_checkIndex_8e157, Cond.initialized RJ3, Cond.code yJ3_checkIndex_8e157 cJ3_checkIndex_8e157 3 (some .int), Cond.methodLink RJx4a65c 123 yJx4a65c_elementData_915e3, Cond.instanceMethod yJx4a65c_elementData_915e3, Cond.selects RJx4a65c yJx4a65c_elementData_915e3 yJx4a65c_elementData_915e3, Cond.code yJx4a65c_elementData_915e3 cJx4a65c_elementData_915e3 2 (some (.object "java/lang/Object")), Cond.fieldLink RJx4a65c 9 "java/util/ArrayList" "elementData" "[Ljava/lang/Object;"]
def wsX5_lotOf : List Cond := .code yX5_lotOf cX5_lotOf 3 (some .int) :: ((wsX5_lotOf_r1 ++ wsX5_lotOf_r2) ++ wsX50 ++ wsX20 ++ wsX30 ++ wsJx4a65c0 ++ (vx_atS RX5 198 "java/lang/IndexOutOfBoundsException" ["java/lang/RuntimeException", "java/lang/Exception"]).filter goodWord)
def wsX5_changed_r1 : List Cond := [Cond.classLink RX5 108 "java/lang/IllegalArgumentException", Cond.initialized "java/lang/IllegalArgumentException", Cond.fieldLink RX5 22 "GlacierBook" "journal" "Ljava/util/ArrayList;", Cond.classLink RX5 166 "GlacierBook$Entry", Cond.fieldLink RX5 190 "GlacierBook$Entry" "crew" "I", Cond.fieldLink RX5 185 "GlacierBook$Entry" "cause" "I", Cond.fieldLink RX5 172 "GlacierBook$Entry" "change" "I", Cond.methodLink RX5 81 yX5_requireRange, Cond.static yX5_requireRange, Cond.initialized RX5, Cond.code yX5_requireRange cX5_requireRange 3 none, Cond.methodLink RX5 90 yJx4a65c_size_8abf5, Cond.instanceMethod yJx4a65c_size_8abf5, Cond.selects RJx4a65c yJx4a65c_size_8abf5 yJx4a65c_size_8abf5, Cond.initialized RJx4a65c, Cond.code yJx4a65c_size_8abf5 cJx4a65c_size_8abf5 1 (some .int), Cond.fieldLink RJx4a65c 48 "java/util/ArrayList" "size" "I", Cond.methodLink RX5 60 yJx4a65c_get_915e3, Cond.instanceMethod yJx4a65c_get_915e3, Cond.selects RJx4a65c yJx4a65c_get_915e3 yJx4a65c_get_915e3, Cond.code yJx4a65c_get_915e3 cJx4a65c_get_915e3 2 (some (.object "java/lang/Object")), Cond.methodLink RJx4a65c 118 yJ15_checkIndex_7cf53, Cond.static yJ15_checkIndex_7cf53, Cond.initialized RJ15]
def wsX5_changed_r2 : List Cond := [Cond.code yJ15_checkIndex_7cf53 cJ15_checkIndex_7cf53 2 (some .int), Cond.methodLink RJ15 105 yJ3_checkIndex_8e157, Cond.static yJ3_checkIndex_8e157, Cond.initialized RJ3, Cond.code yJ3_checkIndex_8e157 cJ3_checkIndex_8e157 3 (some .int), Cond.methodLink RJx4a65c 123 yJx4a65c_elementData_915e3, Cond.instanceMethod yJx4a65c_elementData_915e3, Cond.selects RJx4a65c yJx4a65c_elementData_915e3 yJx4a65c_elementData_915e3, Cond.code yJx4a65c_elementData_915e3 cJx4a65c_elementData_915e3 2 (some (.object "java/lang/Object")), Cond.fieldLink RJx4a65c 9 "java/util/ArrayList" "elementData" "[Ljava/lang/Object;"]
def wsX5_changed : List Cond := .code yX5_changed cX5_changed 6 (some .int) :: ((wsX5_changed_r1 ++ wsX5_changed_r2) ++ wsX50 ++ wsX20 ++ wsJx4a65c0 ++ (vx_atS RX5 112 "java/lang/IllegalArgumentException" ["java/lang/RuntimeException", "java/lang/Exception"]).filter goodWord)
def wsX6_init : List Cond := .code yX6_init cX6_init 1 none :: ([.methodLink RX6 1 objectInit, .instanceMethod objectInit, .code objectInit ⟨#[0xb1]⟩ 1 none, .arrayClass .boolean, .fieldLink RX6 7 "GlacierBookModel" "isWarm" "[Z", .arrayClass .int, .fieldLink RX6 13 "GlacierBookModel" "cutFrom" "[I", .fieldLink RX6 17 "GlacierBookModel" "cutTo" "[I", .fieldLink RX6 20 "GlacierBookModel" "frostTo" "I", .fieldLink RX6 24 "GlacierBookModel" "depot" "[I", .fieldLink RX6 27 "GlacierBookModel" "good" "[I", .fieldLink RX6 30 "GlacierBookModel" "amount" "[I", .fieldLink RX6 33 "GlacierBookModel" "lastDay" "[I", .fieldLink RX6 36 "GlacierBookModel" "people" "[I", .fieldLink RX6 39 "GlacierBookModel" "hunger" "[I", .fieldLink RX6 42 "GlacierBookModel" "itsCrew" "[I", .fieldLink RX6 45 "GlacierBookModel" "itsLot" "[I", .fieldLink RX6 48 "GlacierBookModel" "change" "[I", .fieldLink RX6 51 "GlacierBookModel" "cause" "[I", .fieldLink RX6 54 "GlacierBookModel" "need" "[I", .fieldLink RX6 57 "GlacierBookModel" "gets" "[I"] ++ wsX60)
def wsX6_thrown : List Cond := .code yX6_thrown cX6_thrown 1 (some .int) :: ([.fieldLink RX6 60 "GlacierBookModel" "thrown" "I"] ++ wsX60)
def wsX6_in : List Cond := .code yX6_in cX6_in 3 (some .boolean) :: ([])
def wsX6_isDepot : List Cond := .code yX6_isDepot cX6_isDepot 1 (some .boolean) :: ([.methodLink RX6 63 yX6_in, .static yX6_in, .initialized RX6, .code yX6_in cX6_in 3 (some .boolean)])
def wsX6_isGood : List Cond := .code yX6_isGood cX6_isGood 1 (some .boolean) :: ([.methodLink RX6 63 yX6_in, .static yX6_in, .initialized RX6, .code yX6_in cX6_in 3 (some .boolean)])
def wsX6_isLot : List Cond := .code yX6_isLot cX6_isLot 2 (some .boolean) :: ([.fieldLink RX6 67 "GlacierBookModel" "lots" "I", .methodLink RX6 63 yX6_in, .static yX6_in, .initialized RX6, .code yX6_in cX6_in 3 (some .boolean)] ++ wsX60)
def wsX6_areDays : List Cond := .code yX6_areDays cX6_areDays 2 (some .boolean) :: ([.methodLink RX6 63 yX6_in, .static yX6_in, .initialized RX6, .code yX6_in cX6_in 3 (some .boolean)])
def wsX6_isCut : List Cond := .code yX6_isCut cX6_isCut 2 (some .boolean) :: ([.fieldLink RX6 17 "GlacierBookModel" "cutTo" "[I", .fieldLink RX6 70 "GlacierBookModel" "today" "I", .fieldLink RX6 13 "GlacierBookModel" "cutFrom" "[I", .methodLink RX6 63 yX6_in, .static yX6_in, .initialized RX6, .code yX6_in cX6_in 3 (some .boolean)] ++ wsX60)
def wsX6_setCut : List Cond := .code yX6_setCut cX6_setCut 4 (some .boolean) :: ([.fieldLink RX6 60 "GlacierBookModel" "thrown" "I", .fieldLink RX6 13 "GlacierBookModel" "cutFrom" "[I", .fieldLink RX6 17 "GlacierBookModel" "cutTo" "[I", .methodLink RX6 73 yX6_isDepot, .static yX6_isDepot, .initialized RX6, .code yX6_isDepot cX6_isDepot 1 (some .boolean), .methodLink RX6 63 yX6_in, .static yX6_in, .code yX6_in cX6_in 3 (some .boolean), .methodLink RX6 77 yX6_areDays, .static yX6_areDays, .code yX6_areDays cX6_areDays 2 (some .boolean), .methodLink RX6 81 yX6_isCut, .instanceMethod yX6_isCut, .selects RX6 yX6_isCut yX6_isCut, .code yX6_isCut cX6_isCut 2 (some .boolean), .fieldLink RX6 70 "GlacierBookModel" "today" "I"] ++ wsX60)
def wsX6_setWarm : List Cond := .code yX6_setWarm cX6_setWarm 4 (some .boolean) :: ([.fieldLink RX6 60 "GlacierBookModel" "thrown" "I", .fieldLink RX6 7 "GlacierBookModel" "isWarm" "[Z", .methodLink RX6 73 yX6_isDepot, .static yX6_isDepot, .initialized RX6, .code yX6_isDepot cX6_isDepot 1 (some .boolean), .methodLink RX6 63 yX6_in, .static yX6_in, .code yX6_in cX6_in 3 (some .boolean)] ++ wsX60)
def wsX6_isFrost : List Cond := .code yX6_isFrost cX6_isFrost 1 (some .boolean) :: ([.fieldLink RX6 20 "GlacierBookModel" "frostTo" "I", .fieldLink RX6 70 "GlacierBookModel" "today" "I", .fieldLink RX6 84 "GlacierBookModel" "frostFrom" "I", .methodLink RX6 63 yX6_in, .static yX6_in, .initialized RX6, .code yX6_in cX6_in 3 (some .boolean)] ++ wsX60)
def wsX6_setFrost : List Cond := .code yX6_setFrost cX6_setFrost 3 (some .boolean) :: ([.fieldLink RX6 60 "GlacierBookModel" "thrown" "I", .fieldLink RX6 84 "GlacierBookModel" "frostFrom" "I", .fieldLink RX6 20 "GlacierBookModel" "frostTo" "I", .methodLink RX6 77 yX6_areDays, .static yX6_areDays, .initialized RX6, .code yX6_areDays cX6_areDays 2 (some .boolean), .methodLink RX6 63 yX6_in, .static yX6_in, .code yX6_in cX6_in 3 (some .boolean), .methodLink RX6 87 yX6_isFrost, .instanceMethod yX6_isFrost, .selects RX6 yX6_isFrost yX6_isFrost, .code yX6_isFrost cX6_isFrost 1 (some .boolean), .fieldLink RX6 70 "GlacierBookModel" "today" "I"] ++ wsX60)
def wsX6_changes : List Cond := .code yX6_changes cX6_changes 4 none :: ([.fieldLink RX6 30 "GlacierBookModel" "amount" "[I", .fieldLink RX6 42 "GlacierBookModel" "itsCrew" "[I", .fieldLink RX6 91 "GlacierBookModel" "entries" "I", .fieldLink RX6 94 "GlacierBookModel" "crew" "I", .fieldLink RX6 45 "GlacierBookModel" "itsLot" "[I", .fieldLink RX6 48 "GlacierBookModel" "change" "[I", .fieldLink RX6 51 "GlacierBookModel" "cause" "[I"] ++ wsX60)
def wsX6_makes : List Cond := .code yX6_makes cX6_makes 4 (some .int) :: ([.fieldLink RX6 24 "GlacierBookModel" "depot" "[I", .fieldLink RX6 67 "GlacierBookModel" "lots" "I", .fieldLink RX6 27 "GlacierBookModel" "good" "[I", .fieldLink RX6 33 "GlacierBookModel" "lastDay" "[I", .fieldLink RX6 30 "GlacierBookModel" "amount" "[I"] ++ wsX60)
def wsX6_fill_r1 : List Cond := [Cond.fieldLink RX6 67 "GlacierBookModel" "lots" "I", Cond.fieldLink RX6 60 "GlacierBookModel" "thrown" "I", Cond.methodLink RX6 73 yX6_isDepot, Cond.static yX6_isDepot, Cond.initialized RX6, Cond.code yX6_isDepot cX6_isDepot 1 (some .boolean), Cond.methodLink RX6 63 yX6_in, Cond.static yX6_in, Cond.code yX6_in cX6_in 3 (some .boolean), Cond.methodLink RX6 97 yX6_isGood, Cond.static yX6_isGood, Cond.code yX6_isGood cX6_isGood 1 (some .boolean), Cond.methodLink RX6 100 yX6_makes, Cond.instanceMethod yX6_makes, Cond.selects RX6 yX6_makes yX6_makes, Cond.code yX6_makes cX6_makes 4 (some .int), Cond.fieldLink RX6 24 "GlacierBookModel" "depot" "[I", Cond.fieldLink RX6 27 "GlacierBookModel" "good" "[I", Cond.fieldLink RX6 33 "GlacierBookModel" "lastDay" "[I", Cond.fieldLink RX6 30 "GlacierBookModel" "amount" "[I", Cond.methodLink RX6 104 yX6_changes, Cond.instanceMethod yX6_changes, Cond.selects RX6 yX6_changes yX6_changes, Cond.code yX6_changes cX6_changes 4 none]
def wsX6_fill_r2 : List Cond := [Cond.fieldLink RX6 42 "GlacierBookModel" "itsCrew" "[I", Cond.fieldLink RX6 91 "GlacierBookModel" "entries" "I", Cond.fieldLink RX6 94 "GlacierBookModel" "crew" "I", Cond.fieldLink RX6 45 "GlacierBookModel" "itsLot" "[I", Cond.fieldLink RX6 48 "GlacierBookModel" "change" "[I", Cond.fieldLink RX6 51 "GlacierBookModel" "cause" "[I"]
def wsX6_fill : List Cond := .code yX6_fill cX6_fill 6 (some .int) :: ((wsX6_fill_r1 ++ wsX6_fill_r2) ++ wsX60)
def wsX6_move_r1 : List Cond := [Cond.fieldLink RX6 60 "GlacierBookModel" "thrown" "I", Cond.fieldLink RX6 24 "GlacierBookModel" "depot" "[I", Cond.fieldLink RX6 30 "GlacierBookModel" "amount" "[I", Cond.fieldLink RX6 67 "GlacierBookModel" "lots" "I", Cond.fieldLink RX6 27 "GlacierBookModel" "good" "[I", Cond.fieldLink RX6 33 "GlacierBookModel" "lastDay" "[I", Cond.methodLink RX6 108 yX6_isLot, Cond.instanceMethod yX6_isLot, Cond.selects RX6 yX6_isLot yX6_isLot, Cond.initialized RX6, Cond.code yX6_isLot cX6_isLot 2 (some .boolean), Cond.methodLink RX6 63 yX6_in, Cond.static yX6_in, Cond.code yX6_in cX6_in 3 (some .boolean), Cond.methodLink RX6 73 yX6_isDepot, Cond.static yX6_isDepot, Cond.code yX6_isDepot cX6_isDepot 1 (some .boolean), Cond.methodLink RX6 81 yX6_isCut, Cond.instanceMethod yX6_isCut, Cond.selects RX6 yX6_isCut yX6_isCut, Cond.code yX6_isCut cX6_isCut 2 (some .boolean), Cond.fieldLink RX6 17 "GlacierBookModel" "cutTo" "[I", Cond.fieldLink RX6 70 "GlacierBookModel" "today" "I", Cond.fieldLink RX6 13 "GlacierBookModel" "cutFrom" "[I"]
def wsX6_move_r2 : List Cond := [Cond.methodLink RX6 100 yX6_makes, Cond.instanceMethod yX6_makes, Cond.selects RX6 yX6_makes yX6_makes, Cond.code yX6_makes cX6_makes 4 (some .int), Cond.methodLink RX6 104 yX6_changes, Cond.instanceMethod yX6_changes, Cond.selects RX6 yX6_changes yX6_changes, Cond.code yX6_changes cX6_changes 4 none, Cond.fieldLink RX6 42 "GlacierBookModel" "itsCrew" "[I", Cond.fieldLink RX6 91 "GlacierBookModel" "entries" "I", Cond.fieldLink RX6 94 "GlacierBookModel" "crew" "I", Cond.fieldLink RX6 45 "GlacierBookModel" "itsLot" "[I", Cond.fieldLink RX6 48 "GlacierBookModel" "change" "[I", Cond.fieldLink RX6 51 "GlacierBookModel" "cause" "[I"]
def wsX6_move : List Cond := .code yX6_move cX6_move 5 (some .int) :: ((wsX6_move_r1 ++ wsX6_move_r2) ++ wsX60)
def wsX6_count_r1 : List Cond := [Cond.fieldLink RX6 24 "GlacierBookModel" "depot" "[I", Cond.fieldLink RX6 60 "GlacierBookModel" "thrown" "I", Cond.fieldLink RX6 30 "GlacierBookModel" "amount" "[I", Cond.methodLink RX6 108 yX6_isLot, Cond.instanceMethod yX6_isLot, Cond.selects RX6 yX6_isLot yX6_isLot, Cond.initialized RX6, Cond.code yX6_isLot cX6_isLot 2 (some .boolean), Cond.fieldLink RX6 67 "GlacierBookModel" "lots" "I", Cond.methodLink RX6 63 yX6_in, Cond.static yX6_in, Cond.code yX6_in cX6_in 3 (some .boolean), Cond.methodLink RX6 81 yX6_isCut, Cond.instanceMethod yX6_isCut, Cond.selects RX6 yX6_isCut yX6_isCut, Cond.code yX6_isCut cX6_isCut 2 (some .boolean), Cond.fieldLink RX6 17 "GlacierBookModel" "cutTo" "[I", Cond.fieldLink RX6 70 "GlacierBookModel" "today" "I", Cond.fieldLink RX6 13 "GlacierBookModel" "cutFrom" "[I", Cond.methodLink RX6 104 yX6_changes, Cond.instanceMethod yX6_changes, Cond.selects RX6 yX6_changes yX6_changes, Cond.code yX6_changes cX6_changes 4 none, Cond.fieldLink RX6 42 "GlacierBookModel" "itsCrew" "[I"]
def wsX6_count_r2 : List Cond := [Cond.fieldLink RX6 91 "GlacierBookModel" "entries" "I", Cond.fieldLink RX6 94 "GlacierBookModel" "crew" "I", Cond.fieldLink RX6 45 "GlacierBookModel" "itsLot" "[I", Cond.fieldLink RX6 48 "GlacierBookModel" "change" "[I", Cond.fieldLink RX6 51 "GlacierBookModel" "cause" "[I"]
def wsX6_count : List Cond := .code yX6_count cX6_count 4 (some .int) :: ((wsX6_count_r1 ++ wsX6_count_r2) ++ wsX60)
def wsX6_setPeople : List Cond := .code yX6_setPeople cX6_setPeople 4 (some .int) :: ([.fieldLink RX6 60 "GlacierBookModel" "thrown" "I", .fieldLink RX6 36 "GlacierBookModel" "people" "[I", .methodLink RX6 63 yX6_in, .static yX6_in, .initialized RX6, .code yX6_in cX6_in 3 (some .boolean)] ++ wsX60)
def wsX6_allNeed : List Cond := .code yX6_allNeed cX6_allNeed 3 (some .int) :: ([.fieldLink RX6 36 "GlacierBookModel" "people" "[I"] ++ wsX60)
def wsX6_isFoodHere : List Cond := .code yX6_isFoodHere cX6_isFoodHere 2 (some .boolean) :: ([.fieldLink RX6 24 "GlacierBookModel" "depot" "[I", .fieldLink RX6 27 "GlacierBookModel" "good" "[I"] ++ wsX60)
def wsX6_allFood : List Cond := .code yX6_allFood cX6_allFood 3 (some .int) :: ([.fieldLink RX6 67 "GlacierBookModel" "lots" "I", .fieldLink RX6 30 "GlacierBookModel" "amount" "[I", .methodLink RX6 111 yX6_isFoodHere, .instanceMethod yX6_isFoodHere, .selects RX6 yX6_isFoodHere yX6_isFoodHere, .initialized RX6, .code yX6_isFoodHere cX6_isFoodHere 2 (some .boolean), .fieldLink RX6 24 "GlacierBookModel" "depot" "[I", .fieldLink RX6 27 "GlacierBookModel" "good" "[I"] ++ wsX60)
def wsX6_shares : List Cond := .code yX6_shares cX6_shares 6 none :: ([.fieldLink RX6 54 "GlacierBookModel" "need" "[I", .fieldLink RX6 36 "GlacierBookModel" "people" "[I", .fieldLink RX6 57 "GlacierBookModel" "gets" "[I", .fieldLink RX6 39 "GlacierBookModel" "hunger" "[I"] ++ wsX60)
def wsX6_nextLot : List Cond := .code yX6_nextLot cX6_nextLot 4 (some .int) :: ([.fieldLink RX6 67 "GlacierBookModel" "lots" "I", .fieldLink RX6 30 "GlacierBookModel" "amount" "[I", .fieldLink RX6 33 "GlacierBookModel" "lastDay" "[I", .methodLink RX6 111 yX6_isFoodHere, .instanceMethod yX6_isFoodHere, .selects RX6 yX6_isFoodHere yX6_isFoodHere, .initialized RX6, .code yX6_isFoodHere cX6_isFoodHere 2 (some .boolean), .fieldLink RX6 24 "GlacierBookModel" "depot" "[I", .fieldLink RX6 27 "GlacierBookModel" "good" "[I"] ++ wsX60)
def wsX6_eats_r1 : List Cond := [Cond.fieldLink RX6 30 "GlacierBookModel" "amount" "[I", Cond.methodLink RX6 114 yX6_allNeed, Cond.instanceMethod yX6_allNeed, Cond.selects RX6 yX6_allNeed yX6_allNeed, Cond.initialized RX6, Cond.code yX6_allNeed cX6_allNeed 3 (some .int), Cond.fieldLink RX6 36 "GlacierBookModel" "people" "[I", Cond.methodLink RX6 118 yX6_allFood, Cond.instanceMethod yX6_allFood, Cond.selects RX6 yX6_allFood yX6_allFood, Cond.code yX6_allFood cX6_allFood 3 (some .int), Cond.fieldLink RX6 67 "GlacierBookModel" "lots" "I", Cond.methodLink RX6 111 yX6_isFoodHere, Cond.instanceMethod yX6_isFoodHere, Cond.selects RX6 yX6_isFoodHere yX6_isFoodHere, Cond.code yX6_isFoodHere cX6_isFoodHere 2 (some .boolean), Cond.fieldLink RX6 24 "GlacierBookModel" "depot" "[I", Cond.fieldLink RX6 27 "GlacierBookModel" "good" "[I", Cond.methodLink RX6 121 yX6_shares, Cond.instanceMethod yX6_shares, Cond.selects RX6 yX6_shares yX6_shares, Cond.code yX6_shares cX6_shares 6 none, Cond.fieldLink RX6 54 "GlacierBookModel" "need" "[I", Cond.fieldLink RX6 57 "GlacierBookModel" "gets" "[I"]
def wsX6_eats_r2 : List Cond := [Cond.fieldLink RX6 39 "GlacierBookModel" "hunger" "[I", Cond.methodLink RX6 125 yX6_nextLot, Cond.instanceMethod yX6_nextLot, Cond.selects RX6 yX6_nextLot yX6_nextLot, Cond.code yX6_nextLot cX6_nextLot 4 (some .int), Cond.fieldLink RX6 33 "GlacierBookModel" "lastDay" "[I", Cond.methodLink RX6 104 yX6_changes, Cond.instanceMethod yX6_changes, Cond.selects RX6 yX6_changes yX6_changes, Cond.code yX6_changes cX6_changes 4 none, Cond.fieldLink RX6 42 "GlacierBookModel" "itsCrew" "[I", Cond.fieldLink RX6 91 "GlacierBookModel" "entries" "I", Cond.fieldLink RX6 94 "GlacierBookModel" "crew" "I", Cond.fieldLink RX6 45 "GlacierBookModel" "itsLot" "[I", Cond.fieldLink RX6 48 "GlacierBookModel" "change" "[I", Cond.fieldLink RX6 51 "GlacierBookModel" "cause" "[I"]
def wsX6_eats : List Cond := .code yX6_eats cX6_eats 7 (some .int) :: ((wsX6_eats_r1 ++ wsX6_eats_r2) ++ wsX60)
def wsX6_passes_r1 : List Cond := [Cond.fieldLink RX6 67 "GlacierBookModel" "lots" "I", Cond.fieldLink RX6 33 "GlacierBookModel" "lastDay" "[I", Cond.fieldLink RX6 70 "GlacierBookModel" "today" "I", Cond.fieldLink RX6 30 "GlacierBookModel" "amount" "[I", Cond.fieldLink RX6 27 "GlacierBookModel" "good" "[I", Cond.fieldLink RX6 7 "GlacierBookModel" "isWarm" "[Z", Cond.fieldLink RX6 24 "GlacierBookModel" "depot" "[I", Cond.methodLink RX6 104 yX6_changes, Cond.instanceMethod yX6_changes, Cond.selects RX6 yX6_changes yX6_changes, Cond.initialized RX6, Cond.code yX6_changes cX6_changes 4 none, Cond.fieldLink RX6 42 "GlacierBookModel" "itsCrew" "[I", Cond.fieldLink RX6 91 "GlacierBookModel" "entries" "I", Cond.fieldLink RX6 94 "GlacierBookModel" "crew" "I", Cond.fieldLink RX6 45 "GlacierBookModel" "itsLot" "[I", Cond.fieldLink RX6 48 "GlacierBookModel" "change" "[I", Cond.fieldLink RX6 51 "GlacierBookModel" "cause" "[I", Cond.methodLink RX6 87 yX6_isFrost, Cond.instanceMethod yX6_isFrost, Cond.selects RX6 yX6_isFrost yX6_isFrost, Cond.code yX6_isFrost cX6_isFrost 1 (some .boolean), Cond.fieldLink RX6 20 "GlacierBookModel" "frostTo" "I", Cond.fieldLink RX6 84 "GlacierBookModel" "frostFrom" "I"]
def wsX6_passes_r2 : List Cond := [Cond.methodLink RX6 63 yX6_in, Cond.static yX6_in, Cond.code yX6_in cX6_in 3 (some .boolean), Cond.methodLink RX6 128 yX6_eats, Cond.instanceMethod yX6_eats, Cond.selects RX6 yX6_eats yX6_eats, Cond.code yX6_eats cX6_eats 7 (some .int), Cond.methodLink RX6 114 yX6_allNeed, Cond.instanceMethod yX6_allNeed, Cond.selects RX6 yX6_allNeed yX6_allNeed, Cond.code yX6_allNeed cX6_allNeed 3 (some .int), Cond.fieldLink RX6 36 "GlacierBookModel" "people" "[I", Cond.methodLink RX6 118 yX6_allFood, Cond.instanceMethod yX6_allFood, Cond.selects RX6 yX6_allFood yX6_allFood, Cond.code yX6_allFood cX6_allFood 3 (some .int), Cond.methodLink RX6 111 yX6_isFoodHere, Cond.instanceMethod yX6_isFoodHere, Cond.selects RX6 yX6_isFoodHere yX6_isFoodHere, Cond.code yX6_isFoodHere cX6_isFoodHere 2 (some .boolean), Cond.methodLink RX6 121 yX6_shares, Cond.instanceMethod yX6_shares, Cond.selects RX6 yX6_shares yX6_shares, Cond.code yX6_shares cX6_shares 6 none]
def wsX6_passes_r3 : List Cond := [Cond.fieldLink RX6 54 "GlacierBookModel" "need" "[I", Cond.fieldLink RX6 57 "GlacierBookModel" "gets" "[I", Cond.fieldLink RX6 39 "GlacierBookModel" "hunger" "[I", Cond.methodLink RX6 125 yX6_nextLot, Cond.instanceMethod yX6_nextLot, Cond.selects RX6 yX6_nextLot yX6_nextLot, Cond.code yX6_nextLot cX6_nextLot 4 (some .int)]
def wsX6_passes : List Cond := .code yX6_passes cX6_passes 3 (some .int) :: ((wsX6_passes_r1 ++ (wsX6_passes_r2 ++ wsX6_passes_r3)) ++ wsX60)
def wsX6_pass_r1 : List Cond := [Cond.fieldLink RX6 70 "GlacierBookModel" "today" "I", Cond.fieldLink RX6 60 "GlacierBookModel" "thrown" "I", Cond.methodLink RX6 63 yX6_in, Cond.static yX6_in, Cond.initialized RX6, Cond.code yX6_in cX6_in 3 (some .boolean), Cond.methodLink RX6 131 yX6_passes, Cond.instanceMethod yX6_passes, Cond.selects RX6 yX6_passes yX6_passes, Cond.code yX6_passes cX6_passes 3 (some .int), Cond.fieldLink RX6 67 "GlacierBookModel" "lots" "I", Cond.fieldLink RX6 33 "GlacierBookModel" "lastDay" "[I", Cond.fieldLink RX6 30 "GlacierBookModel" "amount" "[I", Cond.fieldLink RX6 27 "GlacierBookModel" "good" "[I", Cond.fieldLink RX6 7 "GlacierBookModel" "isWarm" "[Z", Cond.fieldLink RX6 24 "GlacierBookModel" "depot" "[I", Cond.methodLink RX6 104 yX6_changes, Cond.instanceMethod yX6_changes, Cond.selects RX6 yX6_changes yX6_changes, Cond.code yX6_changes cX6_changes 4 none, Cond.fieldLink RX6 42 "GlacierBookModel" "itsCrew" "[I", Cond.fieldLink RX6 91 "GlacierBookModel" "entries" "I", Cond.fieldLink RX6 94 "GlacierBookModel" "crew" "I", Cond.fieldLink RX6 45 "GlacierBookModel" "itsLot" "[I"]
def wsX6_pass_r2 : List Cond := [Cond.fieldLink RX6 48 "GlacierBookModel" "change" "[I", Cond.fieldLink RX6 51 "GlacierBookModel" "cause" "[I", Cond.methodLink RX6 87 yX6_isFrost, Cond.instanceMethod yX6_isFrost, Cond.selects RX6 yX6_isFrost yX6_isFrost, Cond.code yX6_isFrost cX6_isFrost 1 (some .boolean), Cond.fieldLink RX6 20 "GlacierBookModel" "frostTo" "I", Cond.fieldLink RX6 84 "GlacierBookModel" "frostFrom" "I", Cond.methodLink RX6 128 yX6_eats, Cond.instanceMethod yX6_eats, Cond.selects RX6 yX6_eats yX6_eats, Cond.code yX6_eats cX6_eats 7 (some .int), Cond.methodLink RX6 114 yX6_allNeed, Cond.instanceMethod yX6_allNeed, Cond.selects RX6 yX6_allNeed yX6_allNeed, Cond.code yX6_allNeed cX6_allNeed 3 (some .int), Cond.fieldLink RX6 36 "GlacierBookModel" "people" "[I", Cond.methodLink RX6 118 yX6_allFood, Cond.instanceMethod yX6_allFood, Cond.selects RX6 yX6_allFood yX6_allFood, Cond.code yX6_allFood cX6_allFood 3 (some .int), Cond.methodLink RX6 111 yX6_isFoodHere, Cond.instanceMethod yX6_isFoodHere, Cond.selects RX6 yX6_isFoodHere yX6_isFoodHere]
def wsX6_pass_r3 : List Cond := [Cond.code yX6_isFoodHere cX6_isFoodHere 2 (some .boolean), Cond.methodLink RX6 121 yX6_shares, Cond.instanceMethod yX6_shares, Cond.selects RX6 yX6_shares yX6_shares, Cond.code yX6_shares cX6_shares 6 none, Cond.fieldLink RX6 54 "GlacierBookModel" "need" "[I", Cond.fieldLink RX6 57 "GlacierBookModel" "gets" "[I", Cond.fieldLink RX6 39 "GlacierBookModel" "hunger" "[I", Cond.methodLink RX6 125 yX6_nextLot, Cond.instanceMethod yX6_nextLot, Cond.selects RX6 yX6_nextLot yX6_nextLot, Cond.code yX6_nextLot cX6_nextLot 4 (some .int)]
def wsX6_pass : List Cond := .code yX6_pass cX6_pass 4 (some .int) :: ((wsX6_pass_r1 ++ (wsX6_pass_r2 ++ wsX6_pass_r3)) ++ wsX60)
def wsX6_nextCrew : List Cond := .code yX6_nextCrew cX6_nextCrew 1 (some .int) :: ([.fieldLink RX6 94 "GlacierBookModel" "crew" "I", .fieldLink RX6 60 "GlacierBookModel" "thrown" "I"] ++ wsX60)
def wsX6_today : List Cond := .code yX6_today cX6_today 1 (some .int) :: ([.fieldLink RX6 60 "GlacierBookModel" "thrown" "I", .fieldLink RX6 70 "GlacierBookModel" "today" "I"] ++ wsX60)
def wsX6_hunger : List Cond := .code yX6_hunger cX6_hunger 2 (some .int) :: ([.fieldLink RX6 60 "GlacierBookModel" "thrown" "I", .fieldLink RX6 39 "GlacierBookModel" "hunger" "[I", .methodLink RX6 63 yX6_in, .static yX6_in, .initialized RX6, .code yX6_in cX6_in 3 (some .boolean)] ++ wsX60)
def wsX6_lots : List Cond := .code yX6_lots cX6_lots 1 (some .int) :: ([.fieldLink RX6 60 "GlacierBookModel" "thrown" "I", .fieldLink RX6 67 "GlacierBookModel" "lots" "I"] ++ wsX60)
def wsX6_asks : List Cond := .code yX6_asks cX6_asks 2 (some .boolean) :: ([.fieldLink RX6 60 "GlacierBookModel" "thrown" "I", .methodLink RX6 108 yX6_isLot, .instanceMethod yX6_isLot, .selects RX6 yX6_isLot yX6_isLot, .initialized RX6, .code yX6_isLot cX6_isLot 2 (some .boolean), .fieldLink RX6 67 "GlacierBookModel" "lots" "I", .methodLink RX6 63 yX6_in, .static yX6_in, .code yX6_in cX6_in 3 (some .boolean)] ++ wsX60)
def wsX6_amount : List Cond := .code yX6_amount cX6_amount 2 (some .int) :: ([.fieldLink RX6 30 "GlacierBookModel" "amount" "[I", .methodLink RX6 134 yX6_asks, .instanceMethod yX6_asks, .selects RX6 yX6_asks yX6_asks, .initialized RX6, .code yX6_asks cX6_asks 2 (some .boolean), .fieldLink RX6 60 "GlacierBookModel" "thrown" "I", .methodLink RX6 108 yX6_isLot, .instanceMethod yX6_isLot, .selects RX6 yX6_isLot yX6_isLot, .code yX6_isLot cX6_isLot 2 (some .boolean), .fieldLink RX6 67 "GlacierBookModel" "lots" "I", .methodLink RX6 63 yX6_in, .static yX6_in, .code yX6_in cX6_in 3 (some .boolean)] ++ wsX60)
def wsX6_about : List Cond := .code yX6_about cX6_about 2 (some .int) :: ([.fieldLink RX6 24 "GlacierBookModel" "depot" "[I", .fieldLink RX6 27 "GlacierBookModel" "good" "[I", .methodLink RX6 134 yX6_asks, .instanceMethod yX6_asks, .selects RX6 yX6_asks yX6_asks, .initialized RX6, .code yX6_asks cX6_asks 2 (some .boolean), .fieldLink RX6 60 "GlacierBookModel" "thrown" "I", .methodLink RX6 108 yX6_isLot, .instanceMethod yX6_isLot, .selects RX6 yX6_isLot yX6_isLot, .code yX6_isLot cX6_isLot 2 (some .boolean), .fieldLink RX6 67 "GlacierBookModel" "lots" "I", .methodLink RX6 63 yX6_in, .static yX6_in, .code yX6_in cX6_in 3 (some .boolean)] ++ wsX60)
def wsX6_stock : List Cond := .code yX6_stock cX6_stock 5 (some .int) :: ([.fieldLink RX6 60 "GlacierBookModel" "thrown" "I", .fieldLink RX6 67 "GlacierBookModel" "lots" "I", .fieldLink RX6 24 "GlacierBookModel" "depot" "[I", .fieldLink RX6 27 "GlacierBookModel" "good" "[I", .fieldLink RX6 30 "GlacierBookModel" "amount" "[I", .methodLink RX6 73 yX6_isDepot, .static yX6_isDepot, .initialized RX6, .code yX6_isDepot cX6_isDepot 1 (some .boolean), .methodLink RX6 63 yX6_in, .static yX6_in, .code yX6_in cX6_in 3 (some .boolean), .methodLink RX6 97 yX6_isGood, .static yX6_isGood, .code yX6_isGood cX6_isGood 1 (some .boolean)] ++ wsX60)
def wsX6_stockByJournal : List Cond := .code yX6_stockByJournal cX6_stockByJournal 6 (some .int) :: ([.fieldLink RX6 60 "GlacierBookModel" "thrown" "I", .fieldLink RX6 91 "GlacierBookModel" "entries" "I", .fieldLink RX6 45 "GlacierBookModel" "itsLot" "[I", .fieldLink RX6 24 "GlacierBookModel" "depot" "[I", .fieldLink RX6 27 "GlacierBookModel" "good" "[I", .fieldLink RX6 48 "GlacierBookModel" "change" "[I", .methodLink RX6 73 yX6_isDepot, .static yX6_isDepot, .initialized RX6, .code yX6_isDepot cX6_isDepot 1 (some .boolean), .methodLink RX6 63 yX6_in, .static yX6_in, .code yX6_in cX6_in 3 (some .boolean), .methodLink RX6 97 yX6_isGood, .static yX6_isGood, .code yX6_isGood cX6_isGood 1 (some .boolean)] ++ wsX60)
def wsX6_enoughFor : List Cond := .code yX6_enoughFor cX6_enoughFor 2 (some .int) :: ([.fieldLink RX6 60 "GlacierBookModel" "thrown" "I", .methodLink RX6 114 yX6_allNeed, .instanceMethod yX6_allNeed, .selects RX6 yX6_allNeed yX6_allNeed, .initialized RX6, .code yX6_allNeed cX6_allNeed 3 (some .int), .fieldLink RX6 36 "GlacierBookModel" "people" "[I", .methodLink RX6 118 yX6_allFood, .instanceMethod yX6_allFood, .selects RX6 yX6_allFood yX6_allFood, .code yX6_allFood cX6_allFood 3 (some .int), .fieldLink RX6 67 "GlacierBookModel" "lots" "I", .fieldLink RX6 30 "GlacierBookModel" "amount" "[I", .methodLink RX6 111 yX6_isFoodHere, .instanceMethod yX6_isFoodHere, .selects RX6 yX6_isFoodHere yX6_isFoodHere, .code yX6_isFoodHere cX6_isFoodHere 2 (some .boolean), .fieldLink RX6 24 "GlacierBookModel" "depot" "[I", .fieldLink RX6 27 "GlacierBookModel" "good" "[I"] ++ wsX60)
def wsX6_entries : List Cond := .code yX6_entries cX6_entries 1 (some .int) :: ([.fieldLink RX6 60 "GlacierBookModel" "thrown" "I", .fieldLink RX6 91 "GlacierBookModel" "entries" "I"] ++ wsX60)
def wsX6_isEntry : List Cond := .code yX6_isEntry cX6_isEntry 2 (some .boolean) :: ([.fieldLink RX6 91 "GlacierBookModel" "entries" "I", .methodLink RX6 63 yX6_in, .static yX6_in, .initialized RX6, .code yX6_in cX6_in 3 (some .boolean)] ++ wsX60)
def wsX6_changeOf : List Cond := .code yX6_changeOf cX6_changeOf 2 (some .int) :: ([.fieldLink RX6 60 "GlacierBookModel" "thrown" "I", .fieldLink RX6 48 "GlacierBookModel" "change" "[I", .methodLink RX6 137 yX6_isEntry, .instanceMethod yX6_isEntry, .selects RX6 yX6_isEntry yX6_isEntry, .initialized RX6, .code yX6_isEntry cX6_isEntry 2 (some .boolean), .fieldLink RX6 91 "GlacierBookModel" "entries" "I", .methodLink RX6 63 yX6_in, .static yX6_in, .code yX6_in cX6_in 3 (some .boolean)] ++ wsX60)
def wsX6_lotOf : List Cond := .code yX6_lotOf cX6_lotOf 2 (some .int) :: ([.fieldLink RX6 60 "GlacierBookModel" "thrown" "I", .fieldLink RX6 45 "GlacierBookModel" "itsLot" "[I", .fieldLink RX6 51 "GlacierBookModel" "cause" "[I", .methodLink RX6 137 yX6_isEntry, .instanceMethod yX6_isEntry, .selects RX6 yX6_isEntry yX6_isEntry, .initialized RX6, .code yX6_isEntry cX6_isEntry 2 (some .boolean), .fieldLink RX6 91 "GlacierBookModel" "entries" "I", .methodLink RX6 63 yX6_in, .static yX6_in, .code yX6_in cX6_in 3 (some .boolean)] ++ wsX60)
def wsX6_changed : List Cond := .code yX6_changed cX6_changed 5 (some .int) :: ([.fieldLink RX6 60 "GlacierBookModel" "thrown" "I", .fieldLink RX6 91 "GlacierBookModel" "entries" "I", .fieldLink RX6 42 "GlacierBookModel" "itsCrew" "[I", .fieldLink RX6 51 "GlacierBookModel" "cause" "[I", .fieldLink RX6 48 "GlacierBookModel" "change" "[I", .methodLink RX6 63 yX6_in, .static yX6_in, .initialized RX6, .code yX6_in cX6_in 3 (some .boolean)] ++ wsX60)
def wsJ9_max_7cf53 : List Cond := .code yJ9_max_7cf53 cJ9_max_7cf53 2 (some .int) :: ([])
def wsJ9_min_7cf53 : List Cond := .code yJ9_min_7cf53 cJ9_min_7cf53 2 (some .int) :: ([])
def wsL_setCut_r1 : List Cond := [Cond.classLink RL 13 "java/lang/IndexOutOfBoundsException", Cond.classLink RL 15 "java/lang/IllegalArgumentException", Cond.methodLink RL 7 yX5_setCut, Cond.instanceMethod yX5_setCut, Cond.selects RX5 yX5_setCut yX5_setCut, Cond.initialized RX5, Cond.code yX5_setCut cX5_setCut 5 (some .boolean), Cond.fieldLink RX5 10 "GlacierBook" "depots" "Ljava/util/ArrayList;", Cond.classLink RX5 39 "GlacierBook$Depot", Cond.fieldLink RX5 64 "GlacierBook$Depot" "cut" "LGlacierBook$Days;", Cond.fieldLink RX5 32 "GlacierBook" "day" "I", Cond.methodLink RX5 53 yX5_requireDepot, Cond.instanceMethod yX5_requireDepot, Cond.selects RX5 yX5_requireDepot yX5_requireDepot, Cond.code yX5_requireDepot cX5_requireDepot 2 none, Cond.methodLink RX5 90 yJx4a65c_size_8abf5, Cond.instanceMethod yJx4a65c_size_8abf5, Cond.selects RJx4a65c yJx4a65c_size_8abf5 yJx4a65c_size_8abf5, Cond.initialized RJx4a65c, Cond.code yJx4a65c_size_8abf5 cJx4a65c_size_8abf5 1 (some .int), Cond.fieldLink RJx4a65c 48 "java/util/ArrayList" "size" "I", Cond.methodLink RX5 191 yX5_requireIndex, Cond.static yX5_requireIndex, Cond.code yX5_requireIndex cX5_requireIndex 2 none]
def wsL_setCut_r2 : List Cond := [Cond.classLink RX5 194 "java/lang/IndexOutOfBoundsException", Cond.initialized "java/lang/IndexOutOfBoundsException", Cond.methodLink RX5 56 yX5_requireDays, Cond.static yX5_requireDays, Cond.code yX5_requireDays cX5_requireDays 2 none, Cond.methodLink RX5 81 yX5_requireRange, Cond.static yX5_requireRange, Cond.code yX5_requireRange cX5_requireRange 3 none, Cond.classLink RX5 108 "java/lang/IllegalArgumentException", Cond.initialized "java/lang/IllegalArgumentException", Cond.methodLink RX5 60 yJx4a65c_get_915e3, Cond.instanceMethod yJx4a65c_get_915e3, Cond.selects RJx4a65c yJx4a65c_get_915e3 yJx4a65c_get_915e3, Cond.code yJx4a65c_get_915e3 cJx4a65c_get_915e3 2 (some (.object "java/lang/Object")), Cond.methodLink RJx4a65c 118 yJ15_checkIndex_7cf53, Cond.static yJ15_checkIndex_7cf53, Cond.initialized RJ15, Cond.code yJ15_checkIndex_7cf53 cJ15_checkIndex_7cf53 2 (some .int), Cond.methodLink RJ15 105 yJ3_checkIndex_8e157, Cond.static yJ3_checkIndex_8e157, Cond.initialized RJ3, Cond.code yJ3_checkIndex_8e157 cJ3_checkIndex_8e157 3 (some .int), Cond.methodLink RJx4a65c 123 yJx4a65c_elementData_915e3, Cond.instanceMethod yJx4a65c_elementData_915e3]
def wsL_setCut_r3 : List Cond := [Cond.selects RJx4a65c yJx4a65c_elementData_915e3 yJx4a65c_elementData_915e3, Cond.code yJx4a65c_elementData_915e3 cJx4a65c_elementData_915e3 2 (some (.object "java/lang/Object")), Cond.fieldLink RJx4a65c 9 "java/util/ArrayList" "elementData" "[Ljava/lang/Object;", Cond.methodLink RX5 67 yX0_become, Cond.instanceMethod yX0_become, Cond.selects RX0 yX0_become yX0_become, Cond.initialized RX0, Cond.code yX0_become cX0_become 3 none, Cond.fieldLink RX0 9 "GlacierBook$Days" "from" "I", Cond.fieldLink RX0 15 "GlacierBook$Days" "to" "I", Cond.methodLink RX5 70 yX0_include, Cond.instanceMethod yX0_include, Cond.selects RX0 yX0_include yX0_include, Cond.code yX0_include cX0_include 2 (some .boolean)]
def wsL_setCut : List Cond := .codeWith yL_setCut cL_setCut 6 (some .int) [(0, 19, 22, 13), (0, 19, 26, 15)] :: ((wsL_setCut_r1 ++ (wsL_setCut_r2 ++ wsL_setCut_r3)) ++ wsX50 ++ wsX10 ++ wsJx4a65c0 ++ wsX00 ++ (vx_atS RX5 198 "java/lang/IndexOutOfBoundsException" ["java/lang/RuntimeException", "java/lang/Exception"]).filter goodWord ++ (vx_atS RX5 112 "java/lang/IllegalArgumentException" ["java/lang/RuntimeException", "java/lang/Exception"]).filter goodWord)
def wsL_setWarm_r1 : List Cond := [Cond.classLink RL 13 "java/lang/IndexOutOfBoundsException", Cond.methodLink RL 17 yX5_setWarm, Cond.instanceMethod yX5_setWarm, Cond.selects RX5 yX5_setWarm yX5_setWarm, Cond.initialized RX5, Cond.code yX5_setWarm cX5_setWarm 5 (some .boolean), Cond.fieldLink RX5 10 "GlacierBook" "depots" "Ljava/util/ArrayList;", Cond.classLink RX5 39 "GlacierBook$Depot", Cond.fieldLink RX5 74 "GlacierBook$Depot" "warm" "Z", Cond.methodLink RX5 53 yX5_requireDepot, Cond.instanceMethod yX5_requireDepot, Cond.selects RX5 yX5_requireDepot yX5_requireDepot, Cond.code yX5_requireDepot cX5_requireDepot 2 none, Cond.methodLink RX5 90 yJx4a65c_size_8abf5, Cond.instanceMethod yJx4a65c_size_8abf5, Cond.selects RJx4a65c yJx4a65c_size_8abf5 yJx4a65c_size_8abf5, Cond.initialized RJx4a65c, Cond.code yJx4a65c_size_8abf5 cJx4a65c_size_8abf5 1 (some .int), Cond.fieldLink RJx4a65c 48 "java/util/ArrayList" "size" "I", Cond.methodLink RX5 191 yX5_requireIndex, Cond.static yX5_requireIndex, Cond.code yX5_requireIndex cX5_requireIndex 2 none, Cond.classLink RX5 194 "java/lang/IndexOutOfBoundsException", Cond.initialized "java/lang/IndexOutOfBoundsException"]
def wsL_setWarm_r2 : List Cond := [Cond.methodLink RX5 60 yJx4a65c_get_915e3, Cond.instanceMethod yJx4a65c_get_915e3, Cond.selects RJx4a65c yJx4a65c_get_915e3 yJx4a65c_get_915e3, Cond.code yJx4a65c_get_915e3 cJx4a65c_get_915e3 2 (some (.object "java/lang/Object")), Cond.methodLink RJx4a65c 118 yJ15_checkIndex_7cf53, Cond.static yJ15_checkIndex_7cf53, Cond.initialized RJ15, Cond.code yJ15_checkIndex_7cf53 cJ15_checkIndex_7cf53 2 (some .int), Cond.methodLink RJ15 105 yJ3_checkIndex_8e157, Cond.static yJ3_checkIndex_8e157, Cond.initialized RJ3, Cond.code yJ3_checkIndex_8e157 cJ3_checkIndex_8e157 3 (some .int), Cond.methodLink RJx4a65c 123 yJx4a65c_elementData_915e3, Cond.instanceMethod yJx4a65c_elementData_915e3, Cond.selects RJx4a65c yJx4a65c_elementData_915e3 yJx4a65c_elementData_915e3, Cond.code yJx4a65c_elementData_915e3 cJx4a65c_elementData_915e3 2 (some (.object "java/lang/Object")), Cond.fieldLink RJx4a65c 9 "java/util/ArrayList" "elementData" "[Ljava/lang/Object;"]
def wsL_setWarm : List Cond := .codeWith yL_setWarm cL_setWarm 5 (some .int) [(0, 17, 20, 13)] :: ((wsL_setWarm_r1 ++ wsL_setWarm_r2) ++ wsX50 ++ wsX10 ++ wsJx4a65c0 ++ (vx_atS RX5 198 "java/lang/IndexOutOfBoundsException" ["java/lang/RuntimeException", "java/lang/Exception"]).filter goodWord)
def wsL_setFrost_r1 : List Cond := [Cond.classLink RL 15 "java/lang/IllegalArgumentException", Cond.methodLink RL 21 yX5_setFrost, Cond.instanceMethod yX5_setFrost, Cond.selects RX5 yX5_setFrost yX5_setFrost, Cond.initialized RX5, Cond.code yX5_setFrost cX5_setFrost 3 (some .boolean), Cond.fieldLink RX5 28 "GlacierBook" "frost" "LGlacierBook$Days;", Cond.fieldLink RX5 32 "GlacierBook" "day" "I", Cond.methodLink RX5 56 yX5_requireDays, Cond.static yX5_requireDays, Cond.code yX5_requireDays cX5_requireDays 2 none, Cond.methodLink RX5 81 yX5_requireRange, Cond.static yX5_requireRange, Cond.code yX5_requireRange cX5_requireRange 3 none, Cond.classLink RX5 108 "java/lang/IllegalArgumentException", Cond.initialized "java/lang/IllegalArgumentException", Cond.methodLink RX5 67 yX0_become, Cond.instanceMethod yX0_become, Cond.selects RX0 yX0_become yX0_become, Cond.initialized RX0, Cond.code yX0_become cX0_become 3 none, Cond.fieldLink RX0 9 "GlacierBook$Days" "from" "I", Cond.fieldLink RX0 15 "GlacierBook$Days" "to" "I", Cond.methodLink RX5 70 yX0_include]
def wsL_setFrost_r2 : List Cond := [Cond.instanceMethod yX0_include, Cond.selects RX0 yX0_include yX0_include, Cond.code yX0_include cX0_include 2 (some .boolean)]
def wsL_setFrost : List Cond := .codeWith yL_setFrost cL_setFrost 5 (some .int) [(0, 17, 20, 15)] :: ((wsL_setFrost_r1 ++ wsL_setFrost_r2) ++ wsX50 ++ wsX00 ++ (vx_atS RX5 112 "java/lang/IllegalArgumentException" ["java/lang/RuntimeException", "java/lang/Exception"]).filter goodWord)
def wsL_fill_r1 : List Cond := [Cond.classLink RL 13 "java/lang/IndexOutOfBoundsException", Cond.classLink RL 15 "java/lang/IllegalArgumentException", Cond.classLink RL 29 "java/lang/IllegalStateException", Cond.methodLink RL 25 yX5_fill, Cond.instanceMethod yX5_fill, Cond.selects RX5 yX5_fill yX5_fill, Cond.initialized RX5, Cond.code yX5_fill cX5_fill 5 (some .int), Cond.classLink RX5 88 RX3, Cond.instantiable RX3 5, Cond.initialized RX3, Cond.fieldLink RX5 16 "GlacierBook" "allLots" "Ljava/util/ArrayList;", Cond.fieldLink RX5 10 "GlacierBook" "depots" "Ljava/util/ArrayList;", Cond.classLink RX5 39 "GlacierBook$Depot", Cond.methodLink RX5 53 yX5_requireDepot, Cond.instanceMethod yX5_requireDepot, Cond.selects RX5 yX5_requireDepot yX5_requireDepot, Cond.code yX5_requireDepot cX5_requireDepot 2 none, Cond.methodLink RX5 90 yJx4a65c_size_8abf5, Cond.instanceMethod yJx4a65c_size_8abf5, Cond.selects RJx4a65c yJx4a65c_size_8abf5 yJx4a65c_size_8abf5, Cond.initialized RJx4a65c, Cond.code yJx4a65c_size_8abf5 cJx4a65c_size_8abf5 1 (some .int), Cond.fieldLink RJx4a65c 48 "java/util/ArrayList" "size" "I"]
def wsL_fill_r2 : List Cond := [Cond.methodLink RX5 191 yX5_requireIndex, Cond.static yX5_requireIndex, Cond.code yX5_requireIndex cX5_requireIndex 2 none, Cond.classLink RX5 194 "java/lang/IndexOutOfBoundsException", Cond.initialized "java/lang/IndexOutOfBoundsException", Cond.methodLink RX5 78 yX5_requireGood, Cond.instanceMethod yX5_requireGood, Cond.selects RX5 yX5_requireGood yX5_requireGood, Cond.code yX5_requireGood cX5_requireGood 2 none, Cond.methodLink RX5 81 yX5_requireRange, Cond.static yX5_requireRange, Cond.code yX5_requireRange cX5_requireRange 3 none, Cond.classLink RX5 108 "java/lang/IllegalArgumentException", Cond.initialized "java/lang/IllegalArgumentException", Cond.methodLink RX5 85 yX5_requireRoomForLot, Cond.instanceMethod yX5_requireRoomForLot, Cond.selects RX5 yX5_requireRoomForLot yX5_requireRoomForLot, Cond.code yX5_requireRoomForLot cX5_requireRoomForLot 1 none, Cond.classLink RX5 122 "java/lang/IllegalStateException", Cond.initialized "java/lang/IllegalStateException", Cond.methodLink RX5 60 yJx4a65c_get_915e3, Cond.instanceMethod yJx4a65c_get_915e3, Cond.selects RJx4a65c yJx4a65c_get_915e3 yJx4a65c_get_915e3, Cond.code yJx4a65c_get_915e3 cJx4a65c_get_915e3 2 (some (.object "java/lang/Object"))]
def wsL_fill_r3 : List Cond := [Cond.methodLink RJx4a65c 118 yJ15_checkIndex_7cf53, Cond.static yJ15_checkIndex_7cf53, Cond.initialized RJ15, Cond.code yJ15_checkIndex_7cf53 cJ15_checkIndex_7cf53 2 (some .int), Cond.methodLink RJ15 105 yJ3_checkIndex_8e157, Cond.static yJ3_checkIndex_8e157, Cond.initialized RJ3, Cond.code yJ3_checkIndex_8e157 cJ3_checkIndex_8e157 3 (some .int), Cond.methodLink RJx4a65c 123 yJx4a65c_elementData_915e3, Cond.instanceMethod yJx4a65c_elementData_915e3, Cond.selects RJx4a65c yJx4a65c_elementData_915e3 yJx4a65c_elementData_915e3, Cond.code yJx4a65c_elementData_915e3 cJx4a65c_elementData_915e3 2 (some (.object "java/lang/Object")), Cond.fieldLink RJx4a65c 9 "java/util/ArrayList" "elementData" "[Ljava/lang/Object;", Cond.methodLink RX5 94 yX3_init, Cond.instanceMethod yX3_init, Cond.code yX3_init cX3_init 5 none, Cond.methodLink RX3 3 objectInit, Cond.instanceMethod objectInit, Cond.code objectInit ⟨#[0xb1]⟩ 1 none, Cond.fieldLink RX3 9 "GlacierBook$Lot" "amount" "I", Cond.fieldLink RX3 15 "GlacierBook$Lot" "number" "I", Cond.fieldLink RX3 18 "GlacierBook$Lot" "depot" "LGlacierBook$Depot;", Cond.fieldLink RX3 22 "GlacierBook$Lot" "good" "I", Cond.fieldLink RX3 25 "GlacierBook$Lot" "lastDay" "I"]
def wsL_fill_r4 : List Cond := [Cond.methodLink RX5 97 yX5_addLot, Cond.instanceMethod yX5_addLot, Cond.selects RX5 yX5_addLot yX5_addLot, Cond.code yX5_addLot cX5_addLot 4 (some .int), Cond.fieldLink RX5 184 "GlacierBook$Lot" "number" "I", Cond.methodLink RX5 44 yJx4a65c_add_9ea2d, Cond.instanceMethod yJx4a65c_add_9ea2d, Cond.selects RJx4a65c yJx4a65c_add_9ea2d yJx4a65c_add_9ea2d, Cond.code yJx4a65c_add_9ea2d cJx4a65c_add_9ea2d 2 (some .boolean), Cond.fieldLink RJx4a65c 63 "java/util/ArrayList" "modCount" "I", Cond.sameField "java/util/ArrayList" "java/util/AbstractList" "modCount" "I", Cond.methodLink RJx4a65c 131 yJx4a65c_add_72be8, Cond.instanceMethod yJx4a65c_add_72be8, Cond.selects RJx4a65c yJx4a65c_add_72be8 yJx4a65c_add_72be8, Cond.code yJx4a65c_add_72be8 cJx4a65c_add_72be8 4 none, Cond.methodLink RJx4a65c 129 yJx4a65c_grow_d5877, Cond.instanceMethod yJx4a65c_grow_d5877, Cond.selects RJx4a65c yJx4a65c_grow_d5877 yJx4a65c_grow_d5877, Cond.code yJx4a65c_grow_d5877 cJx4a65c_grow_d5877 1 (some (.array (.object "java/lang/Object"))), Cond.methodLink RJx4a65c 69 yJx4a65c_grow_92f84, Cond.instanceMethod yJx4a65c_grow_92f84, Cond.selects RJx4a65c yJx4a65c_grow_92f84 yJx4a65c_grow_92f84, Cond.code yJx4a65c_grow_92f84 cJx4a65c_grow_92f84 4 (some (.array (.object "java/lang/Object"))), Cond.fieldLink RJx4a65c 39 "java/util/ArrayList" "DEFAULTCAPACITY_EMPTY_ELEMENTDATA" "[Ljava/lang/Object;"]
def wsL_fill_r5 : List Cond := [Cond.methodLink RJx4a65c 79 Lib.Math.max.name, Cond.static Lib.Math.max.name, Cond.initialized "java/lang/Math", Cond.code Lib.Math.max.name Lib.Math.max.code 2 (some .int), Cond.classLink RJx4a65c 7 "java/lang/Object", Cond.methodLink RJx4a65c 73 yJ8_newLength_cabcc, Cond.static yJ8_newLength_cabcc, Cond.initialized RJ8, Cond.code yJ8_newLength_cabcc cJ8_newLength_cabcc 4 (some .int), Cond.methodLink RJ8 194 Lib.Math.max.name, Cond.constant RJ8 200 (2147483639), Cond.methodLink RJ8 201 yJ8_hugeLength_7cf53, Cond.static yJ8_hugeLength_7cf53, Cond.code yJ8_hugeLength_7cf53 cJ8_hugeLength_7cf53 3 (some .int), Cond.methodLink RJx4a65c 66 yJ7_copyOf_1904c, Cond.static yJ7_copyOf_1904c, Cond.initialized RJ7, Cond.code yJ7_copyOf_1904c cJ7_copyOf_1904c 2 (some (.array (.object "java/lang/Object"))), Cond.methodLink RJ7 86 ⟨"java/lang/Object", "getClass", "()Ljava/lang/Class;"⟩, Cond.selects "[Ljava/lang/Object;" ⟨"java/lang/Object", "getClass", "()Ljava/lang/Class;"⟩ ⟨"java/lang/Object", "getClass", "()Ljava/lang/Class;"⟩, Cond.instanceMethod ⟨"java/lang/Object", "getClass", "()Ljava/lang/Class;"⟩, Cond.native ⟨"java/lang/Object", "getClass", "()Ljava/lang/Class;"⟩, Cond.methodLink RJ7 300 yJ7_copyOf_6403c, Cond.static yJ7_copyOf_6403c]
def wsL_fill_r6 : List Cond := [Cond.code yJ7_copyOf_6403c cJ7_copyOf_6403c 4 (some (.array (.object "java/lang/Object"))), Cond.classLink RJ7 110 "[Ljava/lang/Object;", Cond.classLink RJ7 2 "java/lang/Object", Cond.methodLink RJ7 304 Lib.Math.min.name, Cond.static Lib.Math.min.name, Cond.code Lib.Math.min.name Lib.Math.min.code 2 (some .int), Cond.methodLink RJ7 150 arraycopyName, Cond.native arraycopyName, Cond.static arraycopyName, Cond.initialized "java/lang/System", Cond.methodLink RX5 127 yX5_changeAmount, Cond.instanceMethod yX5_changeAmount, Cond.selects RX5 yX5_changeAmount yX5_changeAmount, Cond.code yX5_changeAmount cX5_changeAmount 4 none, Cond.fieldLink RX5 119 "GlacierBook$Lot" "amount" "I", Cond.fieldLink RX5 22 "GlacierBook" "journal" "Ljava/util/ArrayList;", Cond.constant RX5 205 (65536), Cond.classLink RX5 166 RX2, Cond.instantiable RX2 4, Cond.initialized RX2, Cond.fieldLink RX5 36 "GlacierBook" "crew" "I", Cond.methodLink RX5 206 yX2_init, Cond.instanceMethod yX2_init, Cond.code yX2_init cX2_init 5 none]
def wsL_fill_r7 : List Cond := [Cond.methodLink RX2 1 objectInit, Cond.fieldLink RX2 7 "GlacierBook$Entry" "crew" "I", Cond.fieldLink RX2 13 "GlacierBook$Entry" "lot" "LGlacierBook$Lot;", Cond.fieldLink RX2 17 "GlacierBook$Entry" "change" "I", Cond.fieldLink RX2 20 "GlacierBook$Entry" "cause" "I"]
def wsL_fill : List Cond := .codeWith yL_fill cL_fill 7 (some .int) [(0, 14, 17, 13), (0, 14, 21, 15), (0, 14, 25, 29)] :: ((wsL_fill_r1 ++ (wsL_fill_r2 ++ (wsL_fill_r3 ++ (wsL_fill_r4 ++ (wsL_fill_r5 ++ (wsL_fill_r6 ++ wsL_fill_r7)))))) ++ wsX30 ++ wsX50 ++ wsJx4a65c0 ++ wsX20 ++ (vx_atS RX5 198 "java/lang/IndexOutOfBoundsException" ["java/lang/RuntimeException", "java/lang/Exception"]).filter goodWord ++ (vx_atS RX5 112 "java/lang/IllegalArgumentException" ["java/lang/RuntimeException", "java/lang/Exception"]).filter goodWord ++ (vx_atS RX5 126 "java/lang/IllegalStateException" ["java/lang/RuntimeException", "java/lang/Exception"]).filter goodWord)
def wsL_move_r1 : List Cond := [Cond.classLink RL 13 "java/lang/IndexOutOfBoundsException", Cond.classLink RL 15 "java/lang/IllegalArgumentException", Cond.classLink RL 29 "java/lang/IllegalStateException", Cond.methodLink RL 31 yX5_move, Cond.instanceMethod yX5_move, Cond.selects RX5 yX5_move yX5_move, Cond.initialized RX5, Cond.code yX5_move cX5_move 6 (some .int), Cond.classLink RX5 108 "java/lang/IllegalArgumentException", Cond.initialized "java/lang/IllegalArgumentException", Cond.classLink RX5 122 "java/lang/IllegalStateException", Cond.initialized "java/lang/IllegalStateException", Cond.fieldLink RX5 16 "GlacierBook" "allLots" "Ljava/util/ArrayList;", Cond.classLink RX5 88 "GlacierBook$Lot", Cond.fieldLink RX5 10 "GlacierBook" "depots" "Ljava/util/ArrayList;", Cond.classLink RX5 39 "GlacierBook$Depot", Cond.fieldLink RX5 104 "GlacierBook$Lot" "depot" "LGlacierBook$Depot;", Cond.fieldLink RX5 119 "GlacierBook$Lot" "amount" "I", Cond.classLink RX5 88 RX3, Cond.instantiable RX3 5, Cond.initialized RX3, Cond.fieldLink RX5 131 "GlacierBook$Lot" "good" "I", Cond.fieldLink RX5 134 "GlacierBook$Lot" "lastDay" "I", Cond.methodLink RX5 101 yX5_requireLot]
def wsL_move_r2 : List Cond := [Cond.instanceMethod yX5_requireLot, Cond.selects RX5 yX5_requireLot yX5_requireLot, Cond.code yX5_requireLot cX5_requireLot 2 none, Cond.methodLink RX5 90 yJx4a65c_size_8abf5, Cond.instanceMethod yJx4a65c_size_8abf5, Cond.selects RJx4a65c yJx4a65c_size_8abf5 yJx4a65c_size_8abf5, Cond.initialized RJx4a65c, Cond.code yJx4a65c_size_8abf5 cJx4a65c_size_8abf5 1 (some .int), Cond.fieldLink RJx4a65c 48 "java/util/ArrayList" "size" "I", Cond.methodLink RX5 191 yX5_requireIndex, Cond.static yX5_requireIndex, Cond.code yX5_requireIndex cX5_requireIndex 2 none, Cond.classLink RX5 194 "java/lang/IndexOutOfBoundsException", Cond.initialized "java/lang/IndexOutOfBoundsException", Cond.methodLink RX5 53 yX5_requireDepot, Cond.instanceMethod yX5_requireDepot, Cond.selects RX5 yX5_requireDepot yX5_requireDepot, Cond.code yX5_requireDepot cX5_requireDepot 2 none, Cond.methodLink RX5 60 yJx4a65c_get_915e3, Cond.instanceMethod yJx4a65c_get_915e3, Cond.selects RJx4a65c yJx4a65c_get_915e3 yJx4a65c_get_915e3, Cond.code yJx4a65c_get_915e3 cJx4a65c_get_915e3 2 (some (.object "java/lang/Object")), Cond.methodLink RJx4a65c 118 yJ15_checkIndex_7cf53, Cond.static yJ15_checkIndex_7cf53]
def wsL_move_r3 : List Cond := [Cond.initialized RJ15, Cond.code yJ15_checkIndex_7cf53 cJ15_checkIndex_7cf53 2 (some .int), Cond.methodLink RJ15 105 yJ3_checkIndex_8e157, Cond.static yJ3_checkIndex_8e157, Cond.initialized RJ3, Cond.code yJ3_checkIndex_8e157 cJ3_checkIndex_8e157 3 (some .int), Cond.methodLink RJx4a65c 123 yJx4a65c_elementData_915e3, Cond.instanceMethod yJx4a65c_elementData_915e3, Cond.selects RJx4a65c yJx4a65c_elementData_915e3 yJx4a65c_elementData_915e3, Cond.code yJx4a65c_elementData_915e3 cJx4a65c_elementData_915e3 2 (some (.object "java/lang/Object")), Cond.fieldLink RJx4a65c 9 "java/util/ArrayList" "elementData" "[Ljava/lang/Object;", Cond.methodLink RX5 81 yX5_requireRange, Cond.static yX5_requireRange, Cond.code yX5_requireRange cX5_requireRange 3 none, Cond.methodLink RX5 115 yX5_requireReached, Cond.instanceMethod yX5_requireReached, Cond.selects RX5 yX5_requireReached yX5_requireReached, Cond.code yX5_requireReached cX5_requireReached 2 none, Cond.fieldLink RX5 64 "GlacierBook$Depot" "cut" "LGlacierBook$Days;", Cond.fieldLink RX5 32 "GlacierBook" "day" "I", Cond.methodLink RX5 70 yX0_include, Cond.instanceMethod yX0_include, Cond.selects RX0 yX0_include yX0_include, Cond.initialized RX0]
def wsL_move_r4 : List Cond := [Cond.code yX0_include cX0_include 2 (some .boolean), Cond.fieldLink RX0 9 "GlacierBook$Days" "from" "I", Cond.fieldLink RX0 15 "GlacierBook$Days" "to" "I", Cond.methodLink RX5 85 yX5_requireRoomForLot, Cond.instanceMethod yX5_requireRoomForLot, Cond.selects RX5 yX5_requireRoomForLot yX5_requireRoomForLot, Cond.code yX5_requireRoomForLot cX5_requireRoomForLot 1 none, Cond.methodLink RX5 127 yX5_changeAmount, Cond.instanceMethod yX5_changeAmount, Cond.selects RX5 yX5_changeAmount yX5_changeAmount, Cond.code yX5_changeAmount cX5_changeAmount 4 none, Cond.fieldLink RX5 22 "GlacierBook" "journal" "Ljava/util/ArrayList;", Cond.constant RX5 205 (65536), Cond.classLink RX5 166 RX2, Cond.instantiable RX2 4, Cond.initialized RX2, Cond.fieldLink RX5 36 "GlacierBook" "crew" "I", Cond.methodLink RX5 206 yX2_init, Cond.instanceMethod yX2_init, Cond.code yX2_init cX2_init 5 none, Cond.methodLink RX2 1 objectInit, Cond.instanceMethod objectInit, Cond.code objectInit ⟨#[0xb1]⟩ 1 none, Cond.fieldLink RX2 7 "GlacierBook$Entry" "crew" "I"]
def wsL_move_r5 : List Cond := [Cond.fieldLink RX2 13 "GlacierBook$Entry" "lot" "LGlacierBook$Lot;", Cond.fieldLink RX2 17 "GlacierBook$Entry" "change" "I", Cond.fieldLink RX2 20 "GlacierBook$Entry" "cause" "I", Cond.methodLink RX5 44 yJx4a65c_add_9ea2d, Cond.instanceMethod yJx4a65c_add_9ea2d, Cond.selects RJx4a65c yJx4a65c_add_9ea2d yJx4a65c_add_9ea2d, Cond.code yJx4a65c_add_9ea2d cJx4a65c_add_9ea2d 2 (some .boolean), Cond.fieldLink RJx4a65c 63 "java/util/ArrayList" "modCount" "I", Cond.sameField "java/util/ArrayList" "java/util/AbstractList" "modCount" "I", Cond.methodLink RJx4a65c 131 yJx4a65c_add_72be8, Cond.instanceMethod yJx4a65c_add_72be8, Cond.selects RJx4a65c yJx4a65c_add_72be8 yJx4a65c_add_72be8, Cond.code yJx4a65c_add_72be8 cJx4a65c_add_72be8 4 none, Cond.methodLink RJx4a65c 129 yJx4a65c_grow_d5877, Cond.instanceMethod yJx4a65c_grow_d5877, Cond.selects RJx4a65c yJx4a65c_grow_d5877 yJx4a65c_grow_d5877, Cond.code yJx4a65c_grow_d5877 cJx4a65c_grow_d5877 1 (some (.array (.object "java/lang/Object"))), Cond.methodLink RJx4a65c 69 yJx4a65c_grow_92f84, Cond.instanceMethod yJx4a65c_grow_92f84, Cond.selects RJx4a65c yJx4a65c_grow_92f84 yJx4a65c_grow_92f84, Cond.code yJx4a65c_grow_92f84 cJx4a65c_grow_92f84 4 (some (.array (.object "java/lang/Object"))), Cond.fieldLink RJx4a65c 39 "java/util/ArrayList" "DEFAULTCAPACITY_EMPTY_ELEMENTDATA" "[Ljava/lang/Object;", Cond.methodLink RJx4a65c 79 Lib.Math.max.name, Cond.static Lib.Math.max.name]
def wsL_move_r6 : List Cond := [Cond.initialized "java/lang/Math", Cond.code Lib.Math.max.name Lib.Math.max.code 2 (some .int), Cond.classLink RJx4a65c 7 "java/lang/Object", Cond.methodLink RJx4a65c 73 yJ8_newLength_cabcc, Cond.static yJ8_newLength_cabcc, Cond.initialized RJ8, Cond.code yJ8_newLength_cabcc cJ8_newLength_cabcc 4 (some .int), Cond.methodLink RJ8 194 Lib.Math.max.name, Cond.constant RJ8 200 (2147483639), Cond.methodLink RJ8 201 yJ8_hugeLength_7cf53, Cond.static yJ8_hugeLength_7cf53, Cond.code yJ8_hugeLength_7cf53 cJ8_hugeLength_7cf53 3 (some .int), Cond.methodLink RJx4a65c 66 yJ7_copyOf_1904c, Cond.static yJ7_copyOf_1904c, Cond.initialized RJ7, Cond.code yJ7_copyOf_1904c cJ7_copyOf_1904c 2 (some (.array (.object "java/lang/Object"))), Cond.methodLink RJ7 86 ⟨"java/lang/Object", "getClass", "()Ljava/lang/Class;"⟩, Cond.selects "[Ljava/lang/Object;" ⟨"java/lang/Object", "getClass", "()Ljava/lang/Class;"⟩ ⟨"java/lang/Object", "getClass", "()Ljava/lang/Class;"⟩, Cond.instanceMethod ⟨"java/lang/Object", "getClass", "()Ljava/lang/Class;"⟩, Cond.native ⟨"java/lang/Object", "getClass", "()Ljava/lang/Class;"⟩, Cond.methodLink RJ7 300 yJ7_copyOf_6403c, Cond.static yJ7_copyOf_6403c, Cond.code yJ7_copyOf_6403c cJ7_copyOf_6403c 4 (some (.array (.object "java/lang/Object"))), Cond.classLink RJ7 110 "[Ljava/lang/Object;"]
def wsL_move_r7 : List Cond := [Cond.classLink RJ7 2 "java/lang/Object", Cond.methodLink RJ7 304 Lib.Math.min.name, Cond.static Lib.Math.min.name, Cond.code Lib.Math.min.name Lib.Math.min.code 2 (some .int), Cond.methodLink RJ7 150 arraycopyName, Cond.native arraycopyName, Cond.static arraycopyName, Cond.initialized "java/lang/System", Cond.methodLink RX5 94 yX3_init, Cond.instanceMethod yX3_init, Cond.code yX3_init cX3_init 5 none, Cond.methodLink RX3 3 objectInit, Cond.fieldLink RX3 9 "GlacierBook$Lot" "amount" "I", Cond.fieldLink RX3 15 "GlacierBook$Lot" "number" "I", Cond.fieldLink RX3 18 "GlacierBook$Lot" "depot" "LGlacierBook$Depot;", Cond.fieldLink RX3 22 "GlacierBook$Lot" "good" "I", Cond.fieldLink RX3 25 "GlacierBook$Lot" "lastDay" "I", Cond.methodLink RX5 97 yX5_addLot, Cond.instanceMethod yX5_addLot, Cond.selects RX5 yX5_addLot yX5_addLot, Cond.code yX5_addLot cX5_addLot 4 (some .int), Cond.fieldLink RX5 184 "GlacierBook$Lot" "number" "I"]
def wsL_move : List Cond := .codeWith yL_move cL_move 6 (some .int) [(0, 12, 15, 13), (0, 12, 19, 15), (0, 12, 23, 29)] :: ((wsL_move_r1 ++ (wsL_move_r2 ++ (wsL_move_r3 ++ (wsL_move_r4 ++ (wsL_move_r5 ++ (wsL_move_r6 ++ wsL_move_r7)))))) ++ wsX50 ++ wsX30 ++ wsJx4a65c0 ++ wsX10 ++ wsX00 ++ wsX20 ++ (vx_atS RX5 112 "java/lang/IllegalArgumentException" ["java/lang/RuntimeException", "java/lang/Exception"]).filter goodWord ++ (vx_atS RX5 126 "java/lang/IllegalStateException" ["java/lang/RuntimeException", "java/lang/Exception"]).filter goodWord ++ (vx_atS RX5 198 "java/lang/IndexOutOfBoundsException" ["java/lang/RuntimeException", "java/lang/Exception"]).filter goodWord)
def wsL_count_r1 : List Cond := [Cond.classLink RL 13 "java/lang/IndexOutOfBoundsException", Cond.classLink RL 15 "java/lang/IllegalArgumentException", Cond.classLink RL 29 "java/lang/IllegalStateException", Cond.methodLink RL 35 yX5_count, Cond.instanceMethod yX5_count, Cond.selects RX5 yX5_count yX5_count, Cond.initialized RX5, Cond.code yX5_count cX5_count 5 (some .int), Cond.fieldLink RX5 16 "GlacierBook" "allLots" "Ljava/util/ArrayList;", Cond.classLink RX5 88 "GlacierBook$Lot", Cond.fieldLink RX5 104 "GlacierBook$Lot" "depot" "LGlacierBook$Depot;", Cond.fieldLink RX5 119 "GlacierBook$Lot" "amount" "I", Cond.methodLink RX5 101 yX5_requireLot, Cond.instanceMethod yX5_requireLot, Cond.selects RX5 yX5_requireLot yX5_requireLot, Cond.code yX5_requireLot cX5_requireLot 2 none, Cond.methodLink RX5 90 yJx4a65c_size_8abf5, Cond.instanceMethod yJx4a65c_size_8abf5, Cond.selects RJx4a65c yJx4a65c_size_8abf5 yJx4a65c_size_8abf5, Cond.initialized RJx4a65c, Cond.code yJx4a65c_size_8abf5 cJx4a65c_size_8abf5 1 (some .int), Cond.fieldLink RJx4a65c 48 "java/util/ArrayList" "size" "I", Cond.methodLink RX5 191 yX5_requireIndex, Cond.static yX5_requireIndex]
def wsL_count_r2 : List Cond := [Cond.code yX5_requireIndex cX5_requireIndex 2 none, Cond.classLink RX5 194 "java/lang/IndexOutOfBoundsException", Cond.initialized "java/lang/IndexOutOfBoundsException", Cond.methodLink RX5 81 yX5_requireRange, Cond.static yX5_requireRange, Cond.code yX5_requireRange cX5_requireRange 3 none, Cond.classLink RX5 108 "java/lang/IllegalArgumentException", Cond.initialized "java/lang/IllegalArgumentException", Cond.methodLink RX5 60 yJx4a65c_get_915e3, Cond.instanceMethod yJx4a65c_get_915e3, Cond.selects RJx4a65c yJx4a65c_get_915e3 yJx4a65c_get_915e3, Cond.code yJx4a65c_get_915e3 cJx4a65c_get_915e3 2 (some (.object "java/lang/Object")), Cond.methodLink RJx4a65c 118 yJ15_checkIndex_7cf53, Cond.static yJ15_checkIndex_7cf53, Cond.initialized RJ15, Cond.code yJ15_checkIndex_7cf53 cJ15_checkIndex_7cf53 2 (some .int), Cond.methodLink RJ15 105 yJ3_checkIndex_8e157, Cond.static yJ3_checkIndex_8e157, Cond.initialized RJ3, Cond.code yJ3_checkIndex_8e157 cJ3_checkIndex_8e157 3 (some .int), Cond.methodLink RJx4a65c 123 yJx4a65c_elementData_915e3, Cond.instanceMethod yJx4a65c_elementData_915e3, Cond.selects RJx4a65c yJx4a65c_elementData_915e3 yJx4a65c_elementData_915e3, Cond.code yJx4a65c_elementData_915e3 cJx4a65c_elementData_915e3 2 (some (.object "java/lang/Object"))]
def wsL_count_r3 : List Cond := [Cond.fieldLink RJx4a65c 9 "java/util/ArrayList" "elementData" "[Ljava/lang/Object;", Cond.methodLink RX5 115 yX5_requireReached, Cond.instanceMethod yX5_requireReached, Cond.selects RX5 yX5_requireReached yX5_requireReached, Cond.code yX5_requireReached cX5_requireReached 2 none, Cond.classLink RX5 122 "java/lang/IllegalStateException", Cond.initialized "java/lang/IllegalStateException", Cond.fieldLink RX5 64 "GlacierBook$Depot" "cut" "LGlacierBook$Days;", Cond.fieldLink RX5 32 "GlacierBook" "day" "I", Cond.methodLink RX5 70 yX0_include, Cond.instanceMethod yX0_include, Cond.selects RX0 yX0_include yX0_include, Cond.initialized RX0, Cond.code yX0_include cX0_include 2 (some .boolean), Cond.fieldLink RX0 9 "GlacierBook$Days" "from" "I", Cond.fieldLink RX0 15 "GlacierBook$Days" "to" "I", Cond.methodLink RX5 127 yX5_changeAmount, Cond.instanceMethod yX5_changeAmount, Cond.selects RX5 yX5_changeAmount yX5_changeAmount, Cond.code yX5_changeAmount cX5_changeAmount 4 none, Cond.fieldLink RX5 22 "GlacierBook" "journal" "Ljava/util/ArrayList;", Cond.constant RX5 205 (65536), Cond.classLink RX5 166 RX2, Cond.instantiable RX2 4]
def wsL_count_r4 : List Cond := [Cond.initialized RX2, Cond.fieldLink RX5 36 "GlacierBook" "crew" "I", Cond.methodLink RX5 206 yX2_init, Cond.instanceMethod yX2_init, Cond.code yX2_init cX2_init 5 none, Cond.methodLink RX2 1 objectInit, Cond.instanceMethod objectInit, Cond.code objectInit ⟨#[0xb1]⟩ 1 none, Cond.fieldLink RX2 7 "GlacierBook$Entry" "crew" "I", Cond.fieldLink RX2 13 "GlacierBook$Entry" "lot" "LGlacierBook$Lot;", Cond.fieldLink RX2 17 "GlacierBook$Entry" "change" "I", Cond.fieldLink RX2 20 "GlacierBook$Entry" "cause" "I", Cond.methodLink RX5 44 yJx4a65c_add_9ea2d, Cond.instanceMethod yJx4a65c_add_9ea2d, Cond.selects RJx4a65c yJx4a65c_add_9ea2d yJx4a65c_add_9ea2d, Cond.code yJx4a65c_add_9ea2d cJx4a65c_add_9ea2d 2 (some .boolean), Cond.fieldLink RJx4a65c 63 "java/util/ArrayList" "modCount" "I", Cond.sameField "java/util/ArrayList" "java/util/AbstractList" "modCount" "I", Cond.methodLink RJx4a65c 131 yJx4a65c_add_72be8, Cond.instanceMethod yJx4a65c_add_72be8, Cond.selects RJx4a65c yJx4a65c_add_72be8 yJx4a65c_add_72be8, Cond.code yJx4a65c_add_72be8 cJx4a65c_add_72be8 4 none, Cond.methodLink RJx4a65c 129 yJx4a65c_grow_d5877, Cond.instanceMethod yJx4a65c_grow_d5877]
def wsL_count_r5 : List Cond := [Cond.selects RJx4a65c yJx4a65c_grow_d5877 yJx4a65c_grow_d5877, Cond.code yJx4a65c_grow_d5877 cJx4a65c_grow_d5877 1 (some (.array (.object "java/lang/Object"))), Cond.methodLink RJx4a65c 69 yJx4a65c_grow_92f84, Cond.instanceMethod yJx4a65c_grow_92f84, Cond.selects RJx4a65c yJx4a65c_grow_92f84 yJx4a65c_grow_92f84, Cond.code yJx4a65c_grow_92f84 cJx4a65c_grow_92f84 4 (some (.array (.object "java/lang/Object"))), Cond.fieldLink RJx4a65c 39 "java/util/ArrayList" "DEFAULTCAPACITY_EMPTY_ELEMENTDATA" "[Ljava/lang/Object;", Cond.methodLink RJx4a65c 79 Lib.Math.max.name, Cond.static Lib.Math.max.name, Cond.initialized "java/lang/Math", Cond.code Lib.Math.max.name Lib.Math.max.code 2 (some .int), Cond.classLink RJx4a65c 7 "java/lang/Object", Cond.methodLink RJx4a65c 73 yJ8_newLength_cabcc, Cond.static yJ8_newLength_cabcc, Cond.initialized RJ8, Cond.code yJ8_newLength_cabcc cJ8_newLength_cabcc 4 (some .int), Cond.methodLink RJ8 194 Lib.Math.max.name, Cond.constant RJ8 200 (2147483639), Cond.methodLink RJ8 201 yJ8_hugeLength_7cf53, Cond.static yJ8_hugeLength_7cf53, Cond.code yJ8_hugeLength_7cf53 cJ8_hugeLength_7cf53 3 (some .int), Cond.methodLink RJx4a65c 66 yJ7_copyOf_1904c, Cond.static yJ7_copyOf_1904c, Cond.initialized RJ7]
def wsL_count_r6 : List Cond := [Cond.code yJ7_copyOf_1904c cJ7_copyOf_1904c 2 (some (.array (.object "java/lang/Object"))), Cond.methodLink RJ7 86 ⟨"java/lang/Object", "getClass", "()Ljava/lang/Class;"⟩, Cond.selects "[Ljava/lang/Object;" ⟨"java/lang/Object", "getClass", "()Ljava/lang/Class;"⟩ ⟨"java/lang/Object", "getClass", "()Ljava/lang/Class;"⟩, Cond.instanceMethod ⟨"java/lang/Object", "getClass", "()Ljava/lang/Class;"⟩, Cond.native ⟨"java/lang/Object", "getClass", "()Ljava/lang/Class;"⟩, Cond.methodLink RJ7 300 yJ7_copyOf_6403c, Cond.static yJ7_copyOf_6403c, Cond.code yJ7_copyOf_6403c cJ7_copyOf_6403c 4 (some (.array (.object "java/lang/Object"))), Cond.classLink RJ7 110 "[Ljava/lang/Object;", Cond.classLink RJ7 2 "java/lang/Object", Cond.methodLink RJ7 304 Lib.Math.min.name, Cond.static Lib.Math.min.name, Cond.code Lib.Math.min.name Lib.Math.min.code 2 (some .int), Cond.methodLink RJ7 150 arraycopyName, Cond.native arraycopyName, Cond.static arraycopyName, Cond.initialized "java/lang/System"]
def wsL_count : List Cond := .codeWith yL_count cL_count 5 (some .int) [(0, 10, 13, 13), (0, 10, 17, 15), (0, 10, 21, 29)] :: ((wsL_count_r1 ++ (wsL_count_r2 ++ (wsL_count_r3 ++ (wsL_count_r4 ++ (wsL_count_r5 ++ wsL_count_r6))))) ++ wsX50 ++ wsX30 ++ wsJx4a65c0 ++ wsX10 ++ wsX00 ++ wsX20 ++ (vx_atS RX5 198 "java/lang/IndexOutOfBoundsException" ["java/lang/RuntimeException", "java/lang/Exception"]).filter goodWord ++ (vx_atS RX5 112 "java/lang/IllegalArgumentException" ["java/lang/RuntimeException", "java/lang/Exception"]).filter goodWord ++ (vx_atS RX5 126 "java/lang/IllegalStateException" ["java/lang/RuntimeException", "java/lang/Exception"]).filter goodWord)
def wsL_setPeople_r1 : List Cond := [Cond.classLink RL 13 "java/lang/IndexOutOfBoundsException", Cond.classLink RL 15 "java/lang/IllegalArgumentException", Cond.methodLink RL 39 yX5_setPeople, Cond.instanceMethod yX5_setPeople, Cond.selects RX5 yX5_setPeople yX5_setPeople, Cond.initialized RX5, Cond.code yX5_setPeople cX5_setPeople 5 (some .int), Cond.fieldLink RX5 19 "GlacierBook" "workers" "Ljava/util/ArrayList;", Cond.classLink RX5 48 "GlacierBook$Workers", Cond.fieldLink RX5 140 "GlacierBook$Workers" "people" "I", Cond.methodLink RX5 137 yX5_requireWork, Cond.instanceMethod yX5_requireWork, Cond.selects RX5 yX5_requireWork yX5_requireWork, Cond.code yX5_requireWork cX5_requireWork 2 none, Cond.methodLink RX5 90 yJx4a65c_size_8abf5, Cond.instanceMethod yJx4a65c_size_8abf5, Cond.selects RJx4a65c yJx4a65c_size_8abf5 yJx4a65c_size_8abf5, Cond.initialized RJx4a65c, Cond.code yJx4a65c_size_8abf5 cJx4a65c_size_8abf5 1 (some .int), Cond.fieldLink RJx4a65c 48 "java/util/ArrayList" "size" "I", Cond.methodLink RX5 191 yX5_requireIndex, Cond.static yX5_requireIndex, Cond.code yX5_requireIndex cX5_requireIndex 2 none, Cond.classLink RX5 194 "java/lang/IndexOutOfBoundsException"]
def wsL_setPeople_r2 : List Cond := [Cond.initialized "java/lang/IndexOutOfBoundsException", Cond.methodLink RX5 81 yX5_requireRange, Cond.static yX5_requireRange, Cond.code yX5_requireRange cX5_requireRange 3 none, Cond.classLink RX5 108 "java/lang/IllegalArgumentException", Cond.initialized "java/lang/IllegalArgumentException", Cond.methodLink RX5 60 yJx4a65c_get_915e3, Cond.instanceMethod yJx4a65c_get_915e3, Cond.selects RJx4a65c yJx4a65c_get_915e3 yJx4a65c_get_915e3, Cond.code yJx4a65c_get_915e3 cJx4a65c_get_915e3 2 (some (.object "java/lang/Object")), Cond.methodLink RJx4a65c 118 yJ15_checkIndex_7cf53, Cond.static yJ15_checkIndex_7cf53, Cond.initialized RJ15, Cond.code yJ15_checkIndex_7cf53 cJ15_checkIndex_7cf53 2 (some .int), Cond.methodLink RJ15 105 yJ3_checkIndex_8e157, Cond.static yJ3_checkIndex_8e157, Cond.initialized RJ3, Cond.code yJ3_checkIndex_8e157 cJ3_checkIndex_8e157 3 (some .int), Cond.methodLink RJx4a65c 123 yJx4a65c_elementData_915e3, Cond.instanceMethod yJx4a65c_elementData_915e3, Cond.selects RJx4a65c yJx4a65c_elementData_915e3 yJx4a65c_elementData_915e3, Cond.code yJx4a65c_elementData_915e3 cJx4a65c_elementData_915e3 2 (some (.object "java/lang/Object")), Cond.fieldLink RJx4a65c 9 "java/util/ArrayList" "elementData" "[Ljava/lang/Object;"]
def wsL_setPeople : List Cond := .codeWith yL_setPeople cL_setPeople 5 (some .int) [(0, 10, 13, 13), (0, 10, 17, 15)] :: ((wsL_setPeople_r1 ++ wsL_setPeople_r2) ++ wsX50 ++ wsX40 ++ wsJx4a65c0 ++ (vx_atS RX5 198 "java/lang/IndexOutOfBoundsException" ["java/lang/RuntimeException", "java/lang/Exception"]).filter goodWord ++ (vx_atS RX5 112 "java/lang/IllegalArgumentException" ["java/lang/RuntimeException", "java/lang/Exception"]).filter goodWord)
def wsL_pass_r1 : List Cond := [Cond.classLink RL 15 "java/lang/IllegalArgumentException", Cond.classLink RL 29 "java/lang/IllegalStateException", Cond.methodLink RL 42 yX5_pass, Cond.instanceMethod yX5_pass, Cond.selects RX5 yX5_pass yX5_pass, Cond.initialized RX5, Cond.code yX5_pass cX5_pass 4 (some .int), Cond.classLink RX5 122 "java/lang/IllegalStateException", Cond.initialized "java/lang/IllegalStateException", Cond.fieldLink RX5 32 "GlacierBook" "day" "I", Cond.methodLink RX5 81 yX5_requireRange, Cond.static yX5_requireRange, Cond.code yX5_requireRange cX5_requireRange 3 none, Cond.classLink RX5 108 "java/lang/IllegalArgumentException", Cond.initialized "java/lang/IllegalArgumentException", Cond.methodLink RX5 145 yX5_throwAwayOld, Cond.instanceMethod yX5_throwAwayOld, Cond.selects RX5 yX5_throwAwayOld yX5_throwAwayOld, Cond.code yX5_throwAwayOld cX5_throwAwayOld 3 none, Cond.fieldLink RX5 16 "GlacierBook" "allLots" "Ljava/util/ArrayList;", Cond.classLink RX5 88 "GlacierBook$Lot", Cond.fieldLink RX5 134 "GlacierBook$Lot" "lastDay" "I", Cond.fieldLink RX5 119 "GlacierBook$Lot" "amount" "I", Cond.methodLink RX5 90 yJx4a65c_size_8abf5]
def wsL_pass_r2 : List Cond := [Cond.instanceMethod yJx4a65c_size_8abf5, Cond.selects RJx4a65c yJx4a65c_size_8abf5 yJx4a65c_size_8abf5, Cond.initialized RJx4a65c, Cond.code yJx4a65c_size_8abf5 cJx4a65c_size_8abf5 1 (some .int), Cond.fieldLink RJx4a65c 48 "java/util/ArrayList" "size" "I", Cond.methodLink RX5 60 yJx4a65c_get_915e3, Cond.instanceMethod yJx4a65c_get_915e3, Cond.selects RJx4a65c yJx4a65c_get_915e3 yJx4a65c_get_915e3, Cond.code yJx4a65c_get_915e3 cJx4a65c_get_915e3 2 (some (.object "java/lang/Object")), Cond.methodLink RJx4a65c 118 yJ15_checkIndex_7cf53, Cond.static yJ15_checkIndex_7cf53, Cond.initialized RJ15, Cond.code yJ15_checkIndex_7cf53 cJ15_checkIndex_7cf53 2 (some .int), Cond.methodLink RJ15 105 yJ3_checkIndex_8e157, Cond.static yJ3_checkIndex_8e157, Cond.initialized RJ3, Cond.code yJ3_checkIndex_8e157 cJ3_checkIndex_8e157 3 (some .int), Cond.methodLink RJx4a65c 123 yJx4a65c_elementData_915e3, Cond.instanceMethod yJx4a65c_elementData_915e3, Cond.selects RJx4a65c yJx4a65c_elementData_915e3 yJx4a65c_elementData_915e3, Cond.code yJx4a65c_elementData_915e3 cJx4a65c_elementData_915e3 2 (some (.object "java/lang/Object")), Cond.fieldLink RJx4a65c 9 "java/util/ArrayList" "elementData" "[Ljava/lang/Object;", Cond.methodLink RX5 127 yX5_changeAmount, Cond.instanceMethod yX5_changeAmount]
def wsL_pass_r3 : List Cond := [Cond.selects RX5 yX5_changeAmount yX5_changeAmount, Cond.code yX5_changeAmount cX5_changeAmount 4 none, Cond.fieldLink RX5 22 "GlacierBook" "journal" "Ljava/util/ArrayList;", Cond.constant RX5 205 (65536), Cond.classLink RX5 166 RX2, Cond.instantiable RX2 4, Cond.initialized RX2, Cond.fieldLink RX5 36 "GlacierBook" "crew" "I", Cond.methodLink RX5 206 yX2_init, Cond.instanceMethod yX2_init, Cond.code yX2_init cX2_init 5 none, Cond.methodLink RX2 1 objectInit, Cond.instanceMethod objectInit, Cond.code objectInit ⟨#[0xb1]⟩ 1 none, Cond.fieldLink RX2 7 "GlacierBook$Entry" "crew" "I", Cond.fieldLink RX2 13 "GlacierBook$Entry" "lot" "LGlacierBook$Lot;", Cond.fieldLink RX2 17 "GlacierBook$Entry" "change" "I", Cond.fieldLink RX2 20 "GlacierBook$Entry" "cause" "I", Cond.methodLink RX5 44 yJx4a65c_add_9ea2d, Cond.instanceMethod yJx4a65c_add_9ea2d, Cond.selects RJx4a65c yJx4a65c_add_9ea2d yJx4a65c_add_9ea2d, Cond.code yJx4a65c_add_9ea2d cJx4a65c_add_9ea2d 2 (some .boolean), Cond.fieldLink RJx4a65c 63 "java/util/ArrayList" "modCount" "I", Cond.sameField "java/util/ArrayList" "java/util/AbstractList" "modCount" "I"]
def wsL_pass_r4 : List Cond := [Cond.methodLink RJx4a65c 131 yJx4a65c_add_72be8, Cond.instanceMethod yJx4a65c_add_72be8, Cond.selects RJx4a65c yJx4a65c_add_72be8 yJx4a65c_add_72be8, Cond.code yJx4a65c_add_72be8 cJx4a65c_add_72be8 4 none, Cond.methodLink RJx4a65c 129 yJx4a65c_grow_d5877, Cond.instanceMethod yJx4a65c_grow_d5877, Cond.selects RJx4a65c yJx4a65c_grow_d5877 yJx4a65c_grow_d5877, Cond.code yJx4a65c_grow_d5877 cJx4a65c_grow_d5877 1 (some (.array (.object "java/lang/Object"))), Cond.methodLink RJx4a65c 69 yJx4a65c_grow_92f84, Cond.instanceMethod yJx4a65c_grow_92f84, Cond.selects RJx4a65c yJx4a65c_grow_92f84 yJx4a65c_grow_92f84, Cond.code yJx4a65c_grow_92f84 cJx4a65c_grow_92f84 4 (some (.array (.object "java/lang/Object"))), Cond.fieldLink RJx4a65c 39 "java/util/ArrayList" "DEFAULTCAPACITY_EMPTY_ELEMENTDATA" "[Ljava/lang/Object;", Cond.methodLink RJx4a65c 79 Lib.Math.max.name, Cond.static Lib.Math.max.name, Cond.initialized "java/lang/Math", Cond.code Lib.Math.max.name Lib.Math.max.code 2 (some .int), Cond.classLink RJx4a65c 7 "java/lang/Object", Cond.methodLink RJx4a65c 73 yJ8_newLength_cabcc, Cond.static yJ8_newLength_cabcc, Cond.initialized RJ8, Cond.code yJ8_newLength_cabcc cJ8_newLength_cabcc 4 (some .int), Cond.methodLink RJ8 194 Lib.Math.max.name, Cond.constant RJ8 200 (2147483639)]
def wsL_pass_r5 : List Cond := [Cond.methodLink RJ8 201 yJ8_hugeLength_7cf53, Cond.static yJ8_hugeLength_7cf53, Cond.code yJ8_hugeLength_7cf53 cJ8_hugeLength_7cf53 3 (some .int), Cond.methodLink RJx4a65c 66 yJ7_copyOf_1904c, Cond.static yJ7_copyOf_1904c, Cond.initialized RJ7, Cond.code yJ7_copyOf_1904c cJ7_copyOf_1904c 2 (some (.array (.object "java/lang/Object"))), Cond.methodLink RJ7 86 ⟨"java/lang/Object", "getClass", "()Ljava/lang/Class;"⟩, Cond.selects "[Ljava/lang/Object;" ⟨"java/lang/Object", "getClass", "()Ljava/lang/Class;"⟩ ⟨"java/lang/Object", "getClass", "()Ljava/lang/Class;"⟩, Cond.instanceMethod ⟨"java/lang/Object", "getClass", "()Ljava/lang/Class;"⟩, Cond.native ⟨"java/lang/Object", "getClass", "()Ljava/lang/Class;"⟩, Cond.methodLink RJ7 300 yJ7_copyOf_6403c, Cond.static yJ7_copyOf_6403c, Cond.code yJ7_copyOf_6403c cJ7_copyOf_6403c 4 (some (.array (.object "java/lang/Object"))), Cond.classLink RJ7 110 "[Ljava/lang/Object;", Cond.classLink RJ7 2 "java/lang/Object", Cond.methodLink RJ7 304 Lib.Math.min.name, Cond.static Lib.Math.min.name, Cond.code Lib.Math.min.name Lib.Math.min.code 2 (some .int), Cond.methodLink RJ7 150 arraycopyName, Cond.native arraycopyName, Cond.static arraycopyName, Cond.initialized "java/lang/System", Cond.methodLink RX5 148 yX5_freeze]
def wsL_pass_r6 : List Cond := [Cond.instanceMethod yX5_freeze, Cond.selects RX5 yX5_freeze yX5_freeze, Cond.code yX5_freeze cX5_freeze 3 none, Cond.fieldLink RX5 28 "GlacierBook" "frost" "LGlacierBook$Days;", Cond.fieldLink RX5 131 "GlacierBook$Lot" "good" "I", Cond.fieldLink RX5 104 "GlacierBook$Lot" "depot" "LGlacierBook$Depot;", Cond.fieldLink RX5 74 "GlacierBook$Depot" "warm" "Z", Cond.methodLink RX5 70 yX0_include, Cond.instanceMethod yX0_include, Cond.selects RX0 yX0_include yX0_include, Cond.initialized RX0, Cond.code yX0_include cX0_include 2 (some .boolean), Cond.fieldLink RX0 9 "GlacierBook$Days" "from" "I", Cond.fieldLink RX0 15 "GlacierBook$Days" "to" "I", Cond.methodLink RX5 151 yX5_feedPeople, Cond.instanceMethod yX5_feedPeople, Cond.selects RX5 yX5_feedPeople yX5_feedPeople, Cond.code yX5_feedPeople cX5_feedPeople 4 (some .int), Cond.methodLink RX5 212 Lib.Math.min.name, Cond.methodLink RX5 178 yX5_foodInStation, Cond.instanceMethod yX5_foodInStation, Cond.selects RX5 yX5_foodInStation yX5_foodInStation, Cond.code yX5_foodInStation cX5_foodInStation 4 (some .int), Cond.methodLink RX5 221 yX3_isFoodInStation]
def wsL_pass_r7 : List Cond := [Cond.instanceMethod yX3_isFoodInStation, Cond.selects RX3 yX3_isFoodInStation yX3_isFoodInStation, Cond.initialized RX3, Cond.code yX3_isFoodInStation cX3_isFoodInStation 1 (some .boolean), Cond.fieldLink RX3 18 "GlacierBook$Lot" "depot" "LGlacierBook$Depot;", Cond.fieldLink RX3 28 "GlacierBook$Depot" "number" "I", Cond.fieldLink RX3 22 "GlacierBook$Lot" "good" "I", Cond.methodLink RX5 175 yX5_needOfAll, Cond.instanceMethod yX5_needOfAll, Cond.selects RX5 yX5_needOfAll yX5_needOfAll, Cond.code yX5_needOfAll cX5_needOfAll 3 (some .int), Cond.fieldLink RX5 19 "GlacierBook" "workers" "Ljava/util/ArrayList;", Cond.classLink RX5 48 "GlacierBook$Workers", Cond.methodLink RX5 225 yX4_need, Cond.instanceMethod yX4_need, Cond.selects RX4 yX4_need yX4_need, Cond.initialized RX4, Cond.code yX4_need cX4_need 1 (some .int), Cond.fieldLink RX4 7 "GlacierBook$Workers" "people" "I", Cond.fieldLink RX4 19 "GlacierBook$Workers" "unitsEach" "I", Cond.methodLink RX5 209 yX5_cutRations, Cond.instanceMethod yX5_cutRations, Cond.selects RX5 yX5_cutRations yX5_cutRations, Cond.code yX5_cutRations cX5_cutRations 7 none]
def wsL_pass_r8 : List Cond := [Cond.fieldLink RX5 228 "GlacierBook$Workers" "ration" "I", Cond.fieldLink RX5 156 "GlacierBook$Workers" "missed" "I", Cond.methodLink RX5 218 yX5_eatFromLots, Cond.instanceMethod yX5_eatFromLots, Cond.selects RX5 yX5_eatFromLots yX5_eatFromLots, Cond.code yX5_eatFromLots cX5_eatFromLots 6 none, Cond.methodLink RX5 231 yX5_nextToEat, Cond.instanceMethod yX5_nextToEat, Cond.selects RX5 yX5_nextToEat yX5_nextToEat, Cond.code yX5_nextToEat cX5_nextToEat 5 (some (.object "GlacierBook$Lot"))]
def wsL_pass : List Cond := .codeWith yL_pass cL_pass 4 (some .int) [(0, 9, 12, 15), (0, 9, 15, 29)] :: ((wsL_pass_r1 ++ (wsL_pass_r2 ++ (wsL_pass_r3 ++ (wsL_pass_r4 ++ (wsL_pass_r5 ++ (wsL_pass_r6 ++ (wsL_pass_r7 ++ wsL_pass_r8))))))) ++ wsX50 ++ wsX30 ++ wsJx4a65c0 ++ wsX20 ++ wsX10 ++ wsX00 ++ wsX40 ++ (vx_atS RX5 126 "java/lang/IllegalStateException" ["java/lang/RuntimeException", "java/lang/Exception"]).filter goodWord ++ (vx_atS RX5 112 "java/lang/IllegalArgumentException" ["java/lang/RuntimeException", "java/lang/Exception"]).filter goodWord)
def wsL_nextCrew : List Cond := .codeWith yL_nextCrew cL_nextCrew 3 (some .int) [(0, 8, 11, 29)] :: ([.classLink RL 29 "java/lang/IllegalStateException", .methodLink RL 46 yX5_nextCrew, .instanceMethod yX5_nextCrew, .selects RX5 yX5_nextCrew yX5_nextCrew, .initialized RX5, .code yX5_nextCrew cX5_nextCrew 1 (some .int), .classLink RX5 122 "java/lang/IllegalStateException", .initialized "java/lang/IllegalStateException", .fieldLink RX5 36 "GlacierBook" "crew" "I"] ++ wsX50 ++ (vx_atS RX5 126 "java/lang/IllegalStateException" ["java/lang/RuntimeException", "java/lang/Exception"]).filter goodWord)
def wsL_hunger_r1 : List Cond := [Cond.classLink RL 13 "java/lang/IndexOutOfBoundsException", Cond.methodLink RL 50 yX5_hunger, Cond.instanceMethod yX5_hunger, Cond.selects RX5 yX5_hunger yX5_hunger, Cond.initialized RX5, Cond.code yX5_hunger cX5_hunger 2 (some .int), Cond.fieldLink RX5 19 "GlacierBook" "workers" "Ljava/util/ArrayList;", Cond.classLink RX5 48 "GlacierBook$Workers", Cond.fieldLink RX5 156 "GlacierBook$Workers" "missed" "I", Cond.methodLink RX5 137 yX5_requireWork, Cond.instanceMethod yX5_requireWork, Cond.selects RX5 yX5_requireWork yX5_requireWork, Cond.code yX5_requireWork cX5_requireWork 2 none, Cond.methodLink RX5 90 yJx4a65c_size_8abf5, Cond.instanceMethod yJx4a65c_size_8abf5, Cond.selects RJx4a65c yJx4a65c_size_8abf5 yJx4a65c_size_8abf5, Cond.initialized RJx4a65c, Cond.code yJx4a65c_size_8abf5 cJx4a65c_size_8abf5 1 (some .int), Cond.fieldLink RJx4a65c 48 "java/util/ArrayList" "size" "I", Cond.methodLink RX5 191 yX5_requireIndex, Cond.static yX5_requireIndex, Cond.code yX5_requireIndex cX5_requireIndex 2 none, Cond.classLink RX5 194 "java/lang/IndexOutOfBoundsException", Cond.initialized "java/lang/IndexOutOfBoundsException"]
def wsL_hunger_r2 : List Cond := [Cond.methodLink RX5 60 yJx4a65c_get_915e3, Cond.instanceMethod yJx4a65c_get_915e3, Cond.selects RJx4a65c yJx4a65c_get_915e3 yJx4a65c_get_915e3, Cond.code yJx4a65c_get_915e3 cJx4a65c_get_915e3 2 (some (.object "java/lang/Object")), Cond.methodLink RJx4a65c 118 yJ15_checkIndex_7cf53, Cond.static yJ15_checkIndex_7cf53, Cond.initialized RJ15, Cond.code yJ15_checkIndex_7cf53 cJ15_checkIndex_7cf53 2 (some .int), Cond.methodLink RJ15 105 yJ3_checkIndex_8e157, Cond.static yJ3_checkIndex_8e157, Cond.initialized RJ3, Cond.code yJ3_checkIndex_8e157 cJ3_checkIndex_8e157 3 (some .int), Cond.methodLink RJx4a65c 123 yJx4a65c_elementData_915e3, Cond.instanceMethod yJx4a65c_elementData_915e3, Cond.selects RJx4a65c yJx4a65c_elementData_915e3 yJx4a65c_elementData_915e3, Cond.code yJx4a65c_elementData_915e3 cJx4a65c_elementData_915e3 2 (some (.object "java/lang/Object")), Cond.fieldLink RJx4a65c 9 "java/util/ArrayList" "elementData" "[Ljava/lang/Object;"]
def wsL_hunger : List Cond := .codeWith yL_hunger cL_hunger 4 (some .int) [(0, 9, 12, 13)] :: ((wsL_hunger_r1 ++ wsL_hunger_r2) ++ wsX50 ++ wsX40 ++ wsJx4a65c0 ++ (vx_atS RX5 198 "java/lang/IndexOutOfBoundsException" ["java/lang/RuntimeException", "java/lang/Exception"]).filter goodWord)
def wsL_amount_r1 : List Cond := [Cond.classLink RL 13 "java/lang/IndexOutOfBoundsException", Cond.methodLink RL 53 yX5_amount, Cond.instanceMethod yX5_amount, Cond.selects RX5 yX5_amount yX5_amount, Cond.initialized RX5, Cond.code yX5_amount cX5_amount 2 (some .int), Cond.fieldLink RX5 16 "GlacierBook" "allLots" "Ljava/util/ArrayList;", Cond.classLink RX5 88 "GlacierBook$Lot", Cond.fieldLink RX5 119 "GlacierBook$Lot" "amount" "I", Cond.methodLink RX5 101 yX5_requireLot, Cond.instanceMethod yX5_requireLot, Cond.selects RX5 yX5_requireLot yX5_requireLot, Cond.code yX5_requireLot cX5_requireLot 2 none, Cond.methodLink RX5 90 yJx4a65c_size_8abf5, Cond.instanceMethod yJx4a65c_size_8abf5, Cond.selects RJx4a65c yJx4a65c_size_8abf5 yJx4a65c_size_8abf5, Cond.initialized RJx4a65c, Cond.code yJx4a65c_size_8abf5 cJx4a65c_size_8abf5 1 (some .int), Cond.fieldLink RJx4a65c 48 "java/util/ArrayList" "size" "I", Cond.methodLink RX5 191 yX5_requireIndex, Cond.static yX5_requireIndex, Cond.code yX5_requireIndex cX5_requireIndex 2 none, Cond.classLink RX5 194 "java/lang/IndexOutOfBoundsException", Cond.initialized "java/lang/IndexOutOfBoundsException"]
def wsL_amount_r2 : List Cond := [Cond.methodLink RX5 60 yJx4a65c_get_915e3, Cond.instanceMethod yJx4a65c_get_915e3, Cond.selects RJx4a65c yJx4a65c_get_915e3 yJx4a65c_get_915e3, Cond.code yJx4a65c_get_915e3 cJx4a65c_get_915e3 2 (some (.object "java/lang/Object")), Cond.methodLink RJx4a65c 118 yJ15_checkIndex_7cf53, Cond.static yJ15_checkIndex_7cf53, Cond.initialized RJ15, Cond.code yJ15_checkIndex_7cf53 cJ15_checkIndex_7cf53 2 (some .int), Cond.methodLink RJ15 105 yJ3_checkIndex_8e157, Cond.static yJ3_checkIndex_8e157, Cond.initialized RJ3, Cond.code yJ3_checkIndex_8e157 cJ3_checkIndex_8e157 3 (some .int), Cond.methodLink RJx4a65c 123 yJx4a65c_elementData_915e3, Cond.instanceMethod yJx4a65c_elementData_915e3, Cond.selects RJx4a65c yJx4a65c_elementData_915e3 yJx4a65c_elementData_915e3, Cond.code yJx4a65c_elementData_915e3 cJx4a65c_elementData_915e3 2 (some (.object "java/lang/Object")), Cond.fieldLink RJx4a65c 9 "java/util/ArrayList" "elementData" "[Ljava/lang/Object;"]
def wsL_amount : List Cond := .codeWith yL_amount cL_amount 4 (some .int) [(0, 9, 12, 13)] :: ((wsL_amount_r1 ++ wsL_amount_r2) ++ wsX50 ++ wsX30 ++ wsJx4a65c0 ++ (vx_atS RX5 198 "java/lang/IndexOutOfBoundsException" ["java/lang/RuntimeException", "java/lang/Exception"]).filter goodWord)
def wsL_about_r1 : List Cond := [Cond.classLink RL 13 "java/lang/IndexOutOfBoundsException", Cond.methodLink RL 56 yX5_about, Cond.instanceMethod yX5_about, Cond.selects RX5 yX5_about yX5_about, Cond.initialized RX5, Cond.code yX5_about cX5_about 3 (some .int), Cond.fieldLink RX5 16 "GlacierBook" "allLots" "Ljava/util/ArrayList;", Cond.classLink RX5 88 "GlacierBook$Lot", Cond.fieldLink RX5 104 "GlacierBook$Lot" "depot" "LGlacierBook$Depot;", Cond.fieldLink RX5 159 "GlacierBook$Depot" "number" "I", Cond.fieldLink RX5 131 "GlacierBook$Lot" "good" "I", Cond.methodLink RX5 101 yX5_requireLot, Cond.instanceMethod yX5_requireLot, Cond.selects RX5 yX5_requireLot yX5_requireLot, Cond.code yX5_requireLot cX5_requireLot 2 none, Cond.methodLink RX5 90 yJx4a65c_size_8abf5, Cond.instanceMethod yJx4a65c_size_8abf5, Cond.selects RJx4a65c yJx4a65c_size_8abf5 yJx4a65c_size_8abf5, Cond.initialized RJx4a65c, Cond.code yJx4a65c_size_8abf5 cJx4a65c_size_8abf5 1 (some .int), Cond.fieldLink RJx4a65c 48 "java/util/ArrayList" "size" "I", Cond.methodLink RX5 191 yX5_requireIndex, Cond.static yX5_requireIndex, Cond.code yX5_requireIndex cX5_requireIndex 2 none]
def wsL_about_r2 : List Cond := [Cond.classLink RX5 194 "java/lang/IndexOutOfBoundsException", Cond.initialized "java/lang/IndexOutOfBoundsException", Cond.methodLink RX5 60 yJx4a65c_get_915e3, Cond.instanceMethod yJx4a65c_get_915e3, Cond.selects RJx4a65c yJx4a65c_get_915e3 yJx4a65c_get_915e3, Cond.code yJx4a65c_get_915e3 cJx4a65c_get_915e3 2 (some (.object "java/lang/Object")), Cond.methodLink RJx4a65c 118 yJ15_checkIndex_7cf53, Cond.static yJ15_checkIndex_7cf53, Cond.initialized RJ15, Cond.code yJ15_checkIndex_7cf53 cJ15_checkIndex_7cf53 2 (some .int), Cond.methodLink RJ15 105 yJ3_checkIndex_8e157, Cond.static yJ3_checkIndex_8e157, Cond.initialized RJ3, Cond.code yJ3_checkIndex_8e157 cJ3_checkIndex_8e157 3 (some .int), Cond.methodLink RJx4a65c 123 yJx4a65c_elementData_915e3, Cond.instanceMethod yJx4a65c_elementData_915e3, Cond.selects RJx4a65c yJx4a65c_elementData_915e3 yJx4a65c_elementData_915e3, Cond.code yJx4a65c_elementData_915e3 cJx4a65c_elementData_915e3 2 (some (.object "java/lang/Object")), Cond.fieldLink RJx4a65c 9 "java/util/ArrayList" "elementData" "[Ljava/lang/Object;"]
def wsL_about : List Cond := .codeWith yL_about cL_about 4 (some .int) [(0, 9, 12, 13)] :: ((wsL_about_r1 ++ wsL_about_r2) ++ wsX50 ++ wsX30 ++ wsX10 ++ wsJx4a65c0 ++ (vx_atS RX5 198 "java/lang/IndexOutOfBoundsException" ["java/lang/RuntimeException", "java/lang/Exception"]).filter goodWord)
def wsL_stock_r1 : List Cond := [Cond.classLink RL 13 "java/lang/IndexOutOfBoundsException", Cond.methodLink RL 59 yX5_stock, Cond.instanceMethod yX5_stock, Cond.selects RX5 yX5_stock yX5_stock, Cond.initialized RX5, Cond.code yX5_stock cX5_stock 6 (some .int), Cond.fieldLink RX5 16 "GlacierBook" "allLots" "Ljava/util/ArrayList;", Cond.classLink RX5 88 "GlacierBook$Lot", Cond.fieldLink RX5 119 "GlacierBook$Lot" "amount" "I", Cond.methodLink RX5 53 yX5_requireDepot, Cond.instanceMethod yX5_requireDepot, Cond.selects RX5 yX5_requireDepot yX5_requireDepot, Cond.code yX5_requireDepot cX5_requireDepot 2 none, Cond.fieldLink RX5 10 "GlacierBook" "depots" "Ljava/util/ArrayList;", Cond.methodLink RX5 90 yJx4a65c_size_8abf5, Cond.instanceMethod yJx4a65c_size_8abf5, Cond.selects RJx4a65c yJx4a65c_size_8abf5 yJx4a65c_size_8abf5, Cond.initialized RJx4a65c, Cond.code yJx4a65c_size_8abf5 cJx4a65c_size_8abf5 1 (some .int), Cond.fieldLink RJx4a65c 48 "java/util/ArrayList" "size" "I", Cond.methodLink RX5 191 yX5_requireIndex, Cond.static yX5_requireIndex, Cond.code yX5_requireIndex cX5_requireIndex 2 none, Cond.classLink RX5 194 "java/lang/IndexOutOfBoundsException"]
def wsL_stock_r2 : List Cond := [Cond.initialized "java/lang/IndexOutOfBoundsException", Cond.methodLink RX5 78 yX5_requireGood, Cond.instanceMethod yX5_requireGood, Cond.selects RX5 yX5_requireGood yX5_requireGood, Cond.code yX5_requireGood cX5_requireGood 2 none, Cond.methodLink RX5 60 yJx4a65c_get_915e3, Cond.instanceMethod yJx4a65c_get_915e3, Cond.selects RJx4a65c yJx4a65c_get_915e3 yJx4a65c_get_915e3, Cond.code yJx4a65c_get_915e3 cJx4a65c_get_915e3 2 (some (.object "java/lang/Object")), Cond.methodLink RJx4a65c 118 yJ15_checkIndex_7cf53, Cond.static yJ15_checkIndex_7cf53, Cond.initialized RJ15, Cond.code yJ15_checkIndex_7cf53 cJ15_checkIndex_7cf53 2 (some .int), Cond.methodLink RJ15 105 yJ3_checkIndex_8e157, Cond.static yJ3_checkIndex_8e157, Cond.initialized RJ3, Cond.code yJ3_checkIndex_8e157 cJ3_checkIndex_8e157 3 (some .int), Cond.methodLink RJx4a65c 123 yJx4a65c_elementData_915e3, Cond.instanceMethod yJx4a65c_elementData_915e3, Cond.selects RJx4a65c yJx4a65c_elementData_915e3 yJx4a65c_elementData_915e3, Cond.code yJx4a65c_elementData_915e3 cJx4a65c_elementData_915e3 2 (some (.object "java/lang/Object")), Cond.fieldLink RJx4a65c 9 "java/util/ArrayList" "elementData" "[Ljava/lang/Object;", Cond.methodLink RX5 162 yX3_isOf, Cond.instanceMethod yX3_isOf]
def wsL_stock_r3 : List Cond := [Cond.selects RX3 yX3_isOf yX3_isOf, Cond.initialized RX3, Cond.code yX3_isOf cX3_isOf 3 (some .boolean), Cond.fieldLink RX3 18 "GlacierBook$Lot" "depot" "LGlacierBook$Depot;", Cond.fieldLink RX3 28 "GlacierBook$Depot" "number" "I", Cond.fieldLink RX3 22 "GlacierBook$Lot" "good" "I"]
def wsL_stock : List Cond := .codeWith yL_stock cL_stock 5 (some .int) [(0, 10, 13, 13)] :: ((wsL_stock_r1 ++ (wsL_stock_r2 ++ wsL_stock_r3)) ++ wsX50 ++ wsX30 ++ wsJx4a65c0 ++ wsX10 ++ (vx_atS RX5 198 "java/lang/IndexOutOfBoundsException" ["java/lang/RuntimeException", "java/lang/Exception"]).filter goodWord)
def wsL_stockByJournal_r1 : List Cond := [Cond.classLink RL 13 "java/lang/IndexOutOfBoundsException", Cond.methodLink RL 62 yX5_stockByJournal, Cond.instanceMethod yX5_stockByJournal, Cond.selects RX5 yX5_stockByJournal yX5_stockByJournal, Cond.initialized RX5, Cond.code yX5_stockByJournal cX5_stockByJournal 6 (some .int), Cond.fieldLink RX5 22 "GlacierBook" "journal" "Ljava/util/ArrayList;", Cond.classLink RX5 166 "GlacierBook$Entry", Cond.fieldLink RX5 168 "GlacierBook$Entry" "lot" "LGlacierBook$Lot;", Cond.fieldLink RX5 172 "GlacierBook$Entry" "change" "I", Cond.methodLink RX5 53 yX5_requireDepot, Cond.instanceMethod yX5_requireDepot, Cond.selects RX5 yX5_requireDepot yX5_requireDepot, Cond.code yX5_requireDepot cX5_requireDepot 2 none, Cond.fieldLink RX5 10 "GlacierBook" "depots" "Ljava/util/ArrayList;", Cond.methodLink RX5 90 yJx4a65c_size_8abf5, Cond.instanceMethod yJx4a65c_size_8abf5, Cond.selects RJx4a65c yJx4a65c_size_8abf5 yJx4a65c_size_8abf5, Cond.initialized RJx4a65c, Cond.code yJx4a65c_size_8abf5 cJx4a65c_size_8abf5 1 (some .int), Cond.fieldLink RJx4a65c 48 "java/util/ArrayList" "size" "I", Cond.methodLink RX5 191 yX5_requireIndex, Cond.static yX5_requireIndex, Cond.code yX5_requireIndex cX5_requireIndex 2 none]
def wsL_stockByJournal_r2 : List Cond := [Cond.classLink RX5 194 "java/lang/IndexOutOfBoundsException", Cond.initialized "java/lang/IndexOutOfBoundsException", Cond.methodLink RX5 78 yX5_requireGood, Cond.instanceMethod yX5_requireGood, Cond.selects RX5 yX5_requireGood yX5_requireGood, Cond.code yX5_requireGood cX5_requireGood 2 none, Cond.methodLink RX5 60 yJx4a65c_get_915e3, Cond.instanceMethod yJx4a65c_get_915e3, Cond.selects RJx4a65c yJx4a65c_get_915e3 yJx4a65c_get_915e3, Cond.code yJx4a65c_get_915e3 cJx4a65c_get_915e3 2 (some (.object "java/lang/Object")), Cond.methodLink RJx4a65c 118 yJ15_checkIndex_7cf53, Cond.static yJ15_checkIndex_7cf53, Cond.initialized RJ15, Cond.code yJ15_checkIndex_7cf53 cJ15_checkIndex_7cf53 2 (some .int), Cond.methodLink RJ15 105 yJ3_checkIndex_8e157, Cond.static yJ3_checkIndex_8e157, Cond.initialized RJ3, Cond.code yJ3_checkIndex_8e157 cJ3_checkIndex_8e157 3 (some .int), Cond.methodLink RJx4a65c 123 yJx4a65c_elementData_915e3, Cond.instanceMethod yJx4a65c_elementData_915e3, Cond.selects RJx4a65c yJx4a65c_elementData_915e3 yJx4a65c_elementData_915e3, Cond.code yJx4a65c_elementData_915e3 cJx4a65c_elementData_915e3 2 (some (.object "java/lang/Object")), Cond.fieldLink RJx4a65c 9 "java/util/ArrayList" "elementData" "[Ljava/lang/Object;", Cond.methodLink RX5 162 yX3_isOf]
def wsL_stockByJournal_r3 : List Cond := [Cond.instanceMethod yX3_isOf, Cond.selects RX3 yX3_isOf yX3_isOf, Cond.initialized RX3, Cond.code yX3_isOf cX3_isOf 3 (some .boolean), Cond.fieldLink RX3 18 "GlacierBook$Lot" "depot" "LGlacierBook$Depot;", Cond.fieldLink RX3 28 "GlacierBook$Depot" "number" "I", Cond.fieldLink RX3 22 "GlacierBook$Lot" "good" "I"]
def wsL_stockByJournal : List Cond := .codeWith yL_stockByJournal cL_stockByJournal 5 (some .int) [(0, 10, 13, 13)] :: ((wsL_stockByJournal_r1 ++ (wsL_stockByJournal_r2 ++ wsL_stockByJournal_r3)) ++ wsX50 ++ wsX20 ++ wsJx4a65c0 ++ wsX30 ++ wsX10 ++ (vx_atS RX5 198 "java/lang/IndexOutOfBoundsException" ["java/lang/RuntimeException", "java/lang/Exception"]).filter goodWord)
def wsL_changeOf_r1 : List Cond := [Cond.classLink RL 13 "java/lang/IndexOutOfBoundsException", Cond.methodLink RL 65 yX5_changeOf, Cond.instanceMethod yX5_changeOf, Cond.selects RX5 yX5_changeOf yX5_changeOf, Cond.initialized RX5, Cond.code yX5_changeOf cX5_changeOf 2 (some .int), Cond.fieldLink RX5 22 "GlacierBook" "journal" "Ljava/util/ArrayList;", Cond.classLink RX5 166 "GlacierBook$Entry", Cond.fieldLink RX5 172 "GlacierBook$Entry" "change" "I", Cond.methodLink RX5 181 yX5_requireEntry, Cond.instanceMethod yX5_requireEntry, Cond.selects RX5 yX5_requireEntry yX5_requireEntry, Cond.code yX5_requireEntry cX5_requireEntry 2 none, Cond.methodLink RX5 90 yJx4a65c_size_8abf5, Cond.instanceMethod yJx4a65c_size_8abf5, Cond.selects RJx4a65c yJx4a65c_size_8abf5 yJx4a65c_size_8abf5, Cond.initialized RJx4a65c, Cond.code yJx4a65c_size_8abf5 cJx4a65c_size_8abf5 1 (some .int), Cond.fieldLink RJx4a65c 48 "java/util/ArrayList" "size" "I", Cond.methodLink RX5 191 yX5_requireIndex, Cond.static yX5_requireIndex, Cond.code yX5_requireIndex cX5_requireIndex 2 none, Cond.classLink RX5 194 "java/lang/IndexOutOfBoundsException", Cond.initialized "java/lang/IndexOutOfBoundsException"]
def wsL_changeOf_r2 : List Cond := [Cond.methodLink RX5 60 yJx4a65c_get_915e3, Cond.instanceMethod yJx4a65c_get_915e3, Cond.selects RJx4a65c yJx4a65c_get_915e3 yJx4a65c_get_915e3, Cond.code yJx4a65c_get_915e3 cJx4a65c_get_915e3 2 (some (.object "java/lang/Object")), Cond.methodLink RJx4a65c 118 yJ15_checkIndex_7cf53, Cond.static yJ15_checkIndex_7cf53, Cond.initialized RJ15, Cond.code yJ15_checkIndex_7cf53 cJ15_checkIndex_7cf53 2 (some .int), Cond.methodLink RJ15 105 yJ3_checkIndex_8e157, Cond.static yJ3_checkIndex_8e157, Cond.initialized RJ3, Cond.code yJ3_checkIndex_8e157 cJ3_checkIndex_8e157 3 (some .int), Cond.methodLink RJx4a65c 123 yJx4a65c_elementData_915e3, Cond.instanceMethod yJx4a65c_elementData_915e3, Cond.selects RJx4a65c yJx4a65c_elementData_915e3 yJx4a65c_elementData_915e3, Cond.code yJx4a65c_elementData_915e3 cJx4a65c_elementData_915e3 2 (some (.object "java/lang/Object")), Cond.fieldLink RJx4a65c 9 "java/util/ArrayList" "elementData" "[Ljava/lang/Object;"]
def wsL_changeOf : List Cond := .codeWith yL_changeOf cL_changeOf 4 (some .int) [(0, 9, 12, 13)] :: ((wsL_changeOf_r1 ++ wsL_changeOf_r2) ++ wsX50 ++ wsX20 ++ wsJx4a65c0 ++ (vx_atS RX5 198 "java/lang/IndexOutOfBoundsException" ["java/lang/RuntimeException", "java/lang/Exception"]).filter goodWord)
def wsL_lotOf_r1 : List Cond := [Cond.classLink RL 13 "java/lang/IndexOutOfBoundsException", Cond.methodLink RL 68 yX5_lotOf, Cond.instanceMethod yX5_lotOf, Cond.selects RX5 yX5_lotOf yX5_lotOf, Cond.initialized RX5, Cond.code yX5_lotOf cX5_lotOf 3 (some .int), Cond.fieldLink RX5 22 "GlacierBook" "journal" "Ljava/util/ArrayList;", Cond.classLink RX5 166 "GlacierBook$Entry", Cond.fieldLink RX5 168 "GlacierBook$Entry" "lot" "LGlacierBook$Lot;", Cond.fieldLink RX5 184 "GlacierBook$Lot" "number" "I", Cond.fieldLink RX5 185 "GlacierBook$Entry" "cause" "I", Cond.methodLink RX5 181 yX5_requireEntry, Cond.instanceMethod yX5_requireEntry, Cond.selects RX5 yX5_requireEntry yX5_requireEntry, Cond.code yX5_requireEntry cX5_requireEntry 2 none, Cond.methodLink RX5 90 yJx4a65c_size_8abf5, Cond.instanceMethod yJx4a65c_size_8abf5, Cond.selects RJx4a65c yJx4a65c_size_8abf5 yJx4a65c_size_8abf5, Cond.initialized RJx4a65c, Cond.code yJx4a65c_size_8abf5 cJx4a65c_size_8abf5 1 (some .int), Cond.fieldLink RJx4a65c 48 "java/util/ArrayList" "size" "I", Cond.methodLink RX5 191 yX5_requireIndex, Cond.static yX5_requireIndex, Cond.code yX5_requireIndex cX5_requireIndex 2 none]
def wsL_lotOf_r2 : List Cond := [Cond.classLink RX5 194 "java/lang/IndexOutOfBoundsException", Cond.initialized "java/lang/IndexOutOfBoundsException", Cond.methodLink RX5 60 yJx4a65c_get_915e3, Cond.instanceMethod yJx4a65c_get_915e3, Cond.selects RJx4a65c yJx4a65c_get_915e3 yJx4a65c_get_915e3, Cond.code yJx4a65c_get_915e3 cJx4a65c_get_915e3 2 (some (.object "java/lang/Object")), Cond.methodLink RJx4a65c 118 yJ15_checkIndex_7cf53, Cond.static yJ15_checkIndex_7cf53, Cond.initialized RJ15, Cond.code yJ15_checkIndex_7cf53 cJ15_checkIndex_7cf53 2 (some .int), Cond.methodLink RJ15 105 yJ3_checkIndex_8e157, Cond.static yJ3_checkIndex_8e157, Cond.initialized RJ3, Cond.code yJ3_checkIndex_8e157 cJ3_checkIndex_8e157 3 (some .int), Cond.methodLink RJx4a65c 123 yJx4a65c_elementData_915e3, Cond.instanceMethod yJx4a65c_elementData_915e3, Cond.selects RJx4a65c yJx4a65c_elementData_915e3 yJx4a65c_elementData_915e3, Cond.code yJx4a65c_elementData_915e3 cJx4a65c_elementData_915e3 2 (some (.object "java/lang/Object")), Cond.fieldLink RJx4a65c 9 "java/util/ArrayList" "elementData" "[Ljava/lang/Object;"]
def wsL_lotOf : List Cond := .codeWith yL_lotOf cL_lotOf 4 (some .int) [(0, 9, 12, 13)] :: ((wsL_lotOf_r1 ++ wsL_lotOf_r2) ++ wsX50 ++ wsX20 ++ wsX30 ++ wsJx4a65c0 ++ (vx_atS RX5 198 "java/lang/IndexOutOfBoundsException" ["java/lang/RuntimeException", "java/lang/Exception"]).filter goodWord)
def wsL_changed_r1 : List Cond := [Cond.classLink RL 15 "java/lang/IllegalArgumentException", Cond.methodLink RL 71 yX5_changed, Cond.instanceMethod yX5_changed, Cond.selects RX5 yX5_changed yX5_changed, Cond.initialized RX5, Cond.code yX5_changed cX5_changed 6 (some .int), Cond.classLink RX5 108 "java/lang/IllegalArgumentException", Cond.initialized "java/lang/IllegalArgumentException", Cond.fieldLink RX5 22 "GlacierBook" "journal" "Ljava/util/ArrayList;", Cond.classLink RX5 166 "GlacierBook$Entry", Cond.fieldLink RX5 190 "GlacierBook$Entry" "crew" "I", Cond.fieldLink RX5 185 "GlacierBook$Entry" "cause" "I", Cond.fieldLink RX5 172 "GlacierBook$Entry" "change" "I", Cond.methodLink RX5 81 yX5_requireRange, Cond.static yX5_requireRange, Cond.code yX5_requireRange cX5_requireRange 3 none, Cond.methodLink RX5 90 yJx4a65c_size_8abf5, Cond.instanceMethod yJx4a65c_size_8abf5, Cond.selects RJx4a65c yJx4a65c_size_8abf5 yJx4a65c_size_8abf5, Cond.initialized RJx4a65c, Cond.code yJx4a65c_size_8abf5 cJx4a65c_size_8abf5 1 (some .int), Cond.fieldLink RJx4a65c 48 "java/util/ArrayList" "size" "I", Cond.methodLink RX5 60 yJx4a65c_get_915e3, Cond.instanceMethod yJx4a65c_get_915e3]
def wsL_changed_r2 : List Cond := [Cond.selects RJx4a65c yJx4a65c_get_915e3 yJx4a65c_get_915e3, Cond.code yJx4a65c_get_915e3 cJx4a65c_get_915e3 2 (some (.object "java/lang/Object")), Cond.methodLink RJx4a65c 118 yJ15_checkIndex_7cf53, Cond.static yJ15_checkIndex_7cf53, Cond.initialized RJ15, Cond.code yJ15_checkIndex_7cf53 cJ15_checkIndex_7cf53 2 (some .int), Cond.methodLink RJ15 105 yJ3_checkIndex_8e157, Cond.static yJ3_checkIndex_8e157, Cond.initialized RJ3, Cond.code yJ3_checkIndex_8e157 cJ3_checkIndex_8e157 3 (some .int), Cond.methodLink RJx4a65c 123 yJx4a65c_elementData_915e3, Cond.instanceMethod yJx4a65c_elementData_915e3, Cond.selects RJx4a65c yJx4a65c_elementData_915e3 yJx4a65c_elementData_915e3, Cond.code yJx4a65c_elementData_915e3 cJx4a65c_elementData_915e3 2 (some (.object "java/lang/Object")), Cond.fieldLink RJx4a65c 9 "java/util/ArrayList" "elementData" "[Ljava/lang/Object;"]
def wsL_changed : List Cond := .codeWith yL_changed cL_changed 5 (some .int) [(0, 10, 13, 15)] :: ((wsL_changed_r1 ++ wsL_changed_r2) ++ wsX50 ++ wsX20 ++ wsJx4a65c0 ++ (vx_atS RX5 112 "java/lang/IllegalArgumentException" ["java/lang/RuntimeException", "java/lang/Exception"]).filter goodWord)
def wsL_law0_r1 : List Cond := [Cond.classLink RL 8 RX5, Cond.instantiable RX5 7, Cond.initialized RX5, Cond.classLink RL 75 RX6, Cond.instantiable RX6 22, Cond.initialized RX6, Cond.arrayClass .long, Cond.methodLink RL 74 yX5_init, Cond.instanceMethod yX5_init, Cond.code yX5_init cX5_init 2 none, Cond.methodLink RX5 1 objectInit, Cond.instanceMethod objectInit, Cond.code objectInit ⟨#[0xb1]⟩ 1 none, Cond.classLink RX5 7 RJx4a65c, Cond.instantiable RJx4a65c 3, Cond.initialized RJx4a65c, Cond.fieldLink RX5 10 "GlacierBook" "depots" "Ljava/util/ArrayList;", Cond.fieldLink RX5 16 "GlacierBook" "allLots" "Ljava/util/ArrayList;", Cond.fieldLink RX5 19 "GlacierBook" "workers" "Ljava/util/ArrayList;", Cond.fieldLink RX5 22 "GlacierBook" "journal" "Ljava/util/ArrayList;", Cond.classLink RX5 25 RX0, Cond.instantiable RX0 2, Cond.initialized RX0, Cond.fieldLink RX5 28 "GlacierBook" "frost" "LGlacierBook$Days;"]
def wsL_law0_r2 : List Cond := [Cond.fieldLink RX5 32 "GlacierBook" "day" "I", Cond.fieldLink RX5 36 "GlacierBook" "crew" "I", Cond.classLink RX5 39 RX1, Cond.instantiable RX1 3, Cond.initialized RX1, Cond.classLink RX5 48 RX4, Cond.instantiable RX4 4, Cond.initialized RX4, Cond.methodLink RX5 9 yJx4a65c_init_da8c8, Cond.instanceMethod yJx4a65c_init_da8c8, Cond.code yJx4a65c_init_da8c8 cJx4a65c_init_da8c8 1 none, Cond.fieldLink RJx4a65c 39 "java/util/ArrayList" "DEFAULTCAPACITY_EMPTY_ELEMENTDATA" "[Ljava/lang/Object;", Cond.fieldLink RJx4a65c 9 "java/util/ArrayList" "elementData" "[Ljava/lang/Object;", Cond.methodLink RJx4a65c 1 yJxc12de_init_da8c8, Cond.instanceMethod yJxc12de_init_da8c8, Cond.initialized RJxc12de, Cond.code yJxc12de_init_da8c8 cJxc12de_init_da8c8 1 none, Cond.fieldLink RJxc12de 7 "java/util/AbstractList" "modCount" "I", Cond.methodLink RJxc12de 1 yJxa1e45_init_da8c8, Cond.instanceMethod yJxa1e45_init_da8c8, Cond.initialized RJxa1e45, Cond.code yJxa1e45_init_da8c8 cJxa1e45_init_da8c8 1 none, Cond.methodLink RJxa1e45 1 objectInit, Cond.instanceMethod yX0_init]
def wsL_law0_r3 : List Cond := [Cond.code yX0_init cX0_init 1 none, Cond.methodLink RX0 3 objectInit, Cond.fieldLink RX0 9 "GlacierBook$Days" "from" "I", Cond.fieldLink RX0 15 "GlacierBook$Days" "to" "I", Cond.methodLink RX5 41 yX1_init, Cond.instanceMethod yX1_init, Cond.code yX1_init cX1_init 3 none, Cond.methodLink RX1 1 objectInit, Cond.classLink RX1 7 RX0, Cond.fieldLink RX1 10 "GlacierBook$Depot" "cut" "LGlacierBook$Days;", Cond.fieldLink RX1 16 "GlacierBook$Depot" "number" "I", Cond.fieldLink RX1 20 "GlacierBook$Depot" "warm" "Z", Cond.methodLink RX5 44 yJx4a65c_add_9ea2d, Cond.instanceMethod yJx4a65c_add_9ea2d, Cond.selects RJx4a65c yJx4a65c_add_9ea2d yJx4a65c_add_9ea2d, Cond.code yJx4a65c_add_9ea2d cJx4a65c_add_9ea2d 2 (some .boolean), Cond.fieldLink RJx4a65c 63 "java/util/ArrayList" "modCount" "I", Cond.sameField "java/util/ArrayList" "java/util/AbstractList" "modCount" "I", Cond.fieldLink RJx4a65c 48 "java/util/ArrayList" "size" "I", Cond.methodLink RJx4a65c 131 yJx4a65c_add_72be8, Cond.instanceMethod yJx4a65c_add_72be8, Cond.selects RJx4a65c yJx4a65c_add_72be8 yJx4a65c_add_72be8, Cond.code yJx4a65c_add_72be8 cJx4a65c_add_72be8 4 none, Cond.methodLink RJx4a65c 129 yJx4a65c_grow_d5877]
def wsL_law0_r4 : List Cond := [Cond.instanceMethod yJx4a65c_grow_d5877, Cond.selects RJx4a65c yJx4a65c_grow_d5877 yJx4a65c_grow_d5877, Cond.code yJx4a65c_grow_d5877 cJx4a65c_grow_d5877 1 (some (.array (.object "java/lang/Object"))), Cond.methodLink RJx4a65c 69 yJx4a65c_grow_92f84, Cond.instanceMethod yJx4a65c_grow_92f84, Cond.selects RJx4a65c yJx4a65c_grow_92f84 yJx4a65c_grow_92f84, Cond.code yJx4a65c_grow_92f84 cJx4a65c_grow_92f84 4 (some (.array (.object "java/lang/Object"))), Cond.methodLink RJx4a65c 79 Lib.Math.max.name, Cond.static Lib.Math.max.name, Cond.initialized "java/lang/Math", Cond.code Lib.Math.max.name Lib.Math.max.code 2 (some .int), Cond.classLink RJx4a65c 7 "java/lang/Object", Cond.methodLink RJx4a65c 73 yJ8_newLength_cabcc, Cond.static yJ8_newLength_cabcc, Cond.initialized RJ8, Cond.code yJ8_newLength_cabcc cJ8_newLength_cabcc 4 (some .int), Cond.methodLink RJ8 194 Lib.Math.max.name, Cond.constant RJ8 200 (2147483639), Cond.methodLink RJ8 201 yJ8_hugeLength_7cf53, Cond.static yJ8_hugeLength_7cf53, Cond.code yJ8_hugeLength_7cf53 cJ8_hugeLength_7cf53 3 (some .int), Cond.methodLink RJx4a65c 66 yJ7_copyOf_1904c, Cond.static yJ7_copyOf_1904c, Cond.initialized RJ7]
def wsL_law0_r5 : List Cond := [Cond.code yJ7_copyOf_1904c cJ7_copyOf_1904c 2 (some (.array (.object "java/lang/Object"))), Cond.methodLink RJ7 86 ⟨"java/lang/Object", "getClass", "()Ljava/lang/Class;"⟩, Cond.selects "[Ljava/lang/Object;" ⟨"java/lang/Object", "getClass", "()Ljava/lang/Class;"⟩ ⟨"java/lang/Object", "getClass", "()Ljava/lang/Class;"⟩, Cond.instanceMethod ⟨"java/lang/Object", "getClass", "()Ljava/lang/Class;"⟩, Cond.native ⟨"java/lang/Object", "getClass", "()Ljava/lang/Class;"⟩, Cond.methodLink RJ7 300 yJ7_copyOf_6403c, Cond.static yJ7_copyOf_6403c, Cond.code yJ7_copyOf_6403c cJ7_copyOf_6403c 4 (some (.array (.object "java/lang/Object"))), Cond.classLink RJ7 110 "[Ljava/lang/Object;", Cond.classLink RJ7 2 "java/lang/Object", Cond.methodLink RJ7 304 Lib.Math.min.name, Cond.static Lib.Math.min.name, Cond.code Lib.Math.min.name Lib.Math.min.code 2 (some .int), Cond.methodLink RJ7 150 arraycopyName, Cond.native arraycopyName, Cond.static arraycopyName, Cond.initialized "java/lang/System", Cond.methodLink RX5 50 yX4_init, Cond.instanceMethod yX4_init, Cond.code yX4_init cX4_init 2 none, Cond.methodLink RX4 1 objectInit, Cond.fieldLink RX4 7 "GlacierBook$Workers" "people" "I", Cond.fieldLink RX4 13 "GlacierBook$Workers" "ration" "I", Cond.fieldLink RX4 16 "GlacierBook$Workers" "missed" "I"]
def wsL_law0_r6 : List Cond := [Cond.fieldLink RX4 19 "GlacierBook$Workers" "unitsEach" "I", Cond.methodLink RL 77 yX6_init, Cond.instanceMethod yX6_init, Cond.code yX6_init cX6_init 1 none, Cond.methodLink RX6 1 objectInit, Cond.arrayClass .boolean, Cond.fieldLink RX6 7 "GlacierBookModel" "isWarm" "[Z", Cond.arrayClass .int, Cond.fieldLink RX6 13 "GlacierBookModel" "cutFrom" "[I", Cond.fieldLink RX6 17 "GlacierBookModel" "cutTo" "[I", Cond.fieldLink RX6 20 "GlacierBookModel" "frostTo" "I", Cond.fieldLink RX6 24 "GlacierBookModel" "depot" "[I", Cond.fieldLink RX6 27 "GlacierBookModel" "good" "[I", Cond.fieldLink RX6 30 "GlacierBookModel" "amount" "[I", Cond.fieldLink RX6 33 "GlacierBookModel" "lastDay" "[I", Cond.fieldLink RX6 36 "GlacierBookModel" "people" "[I", Cond.fieldLink RX6 39 "GlacierBookModel" "hunger" "[I", Cond.fieldLink RX6 42 "GlacierBookModel" "itsCrew" "[I", Cond.fieldLink RX6 45 "GlacierBookModel" "itsLot" "[I", Cond.fieldLink RX6 48 "GlacierBookModel" "change" "[I", Cond.fieldLink RX6 51 "GlacierBookModel" "cause" "[I", Cond.fieldLink RX6 54 "GlacierBookModel" "need" "[I", Cond.fieldLink RX6 57 "GlacierBookModel" "gets" "[I", Cond.methodLink RL 78 yL_setCut]
def wsL_law0_r7 : List Cond := [Cond.static yL_setCut, Cond.initialized RL, Cond.codeWith yL_setCut cL_setCut 6 (some .int) [(0, 19, 22, 13), (0, 19, 26, 15)], Cond.classLink RL 13 "java/lang/IndexOutOfBoundsException", Cond.classLink RL 15 "java/lang/IllegalArgumentException", Cond.methodLink RL 7 yX5_setCut, Cond.instanceMethod yX5_setCut, Cond.selects RX5 yX5_setCut yX5_setCut, Cond.code yX5_setCut cX5_setCut 5 (some .boolean), Cond.classLink RX5 39 "GlacierBook$Depot", Cond.fieldLink RX5 64 "GlacierBook$Depot" "cut" "LGlacierBook$Days;", Cond.methodLink RX5 53 yX5_requireDepot, Cond.instanceMethod yX5_requireDepot, Cond.selects RX5 yX5_requireDepot yX5_requireDepot, Cond.code yX5_requireDepot cX5_requireDepot 2 none, Cond.methodLink RX5 90 yJx4a65c_size_8abf5, Cond.instanceMethod yJx4a65c_size_8abf5, Cond.selects RJx4a65c yJx4a65c_size_8abf5 yJx4a65c_size_8abf5, Cond.code yJx4a65c_size_8abf5 cJx4a65c_size_8abf5 1 (some .int), Cond.methodLink RX5 191 yX5_requireIndex, Cond.static yX5_requireIndex, Cond.code yX5_requireIndex cX5_requireIndex 2 none, Cond.classLink RX5 194 "java/lang/IndexOutOfBoundsException", Cond.initialized "java/lang/IndexOutOfBoundsException"]
def wsL_law0_r8 : List Cond := [Cond.methodLink RX5 56 yX5_requireDays, Cond.static yX5_requireDays, Cond.code yX5_requireDays cX5_requireDays 2 none, Cond.methodLink RX5 81 yX5_requireRange, Cond.static yX5_requireRange, Cond.code yX5_requireRange cX5_requireRange 3 none, Cond.classLink RX5 108 "java/lang/IllegalArgumentException", Cond.initialized "java/lang/IllegalArgumentException", Cond.methodLink RX5 60 yJx4a65c_get_915e3, Cond.instanceMethod yJx4a65c_get_915e3, Cond.selects RJx4a65c yJx4a65c_get_915e3 yJx4a65c_get_915e3, Cond.code yJx4a65c_get_915e3 cJx4a65c_get_915e3 2 (some (.object "java/lang/Object")), Cond.methodLink RJx4a65c 118 yJ15_checkIndex_7cf53, Cond.static yJ15_checkIndex_7cf53, Cond.initialized RJ15, Cond.code yJ15_checkIndex_7cf53 cJ15_checkIndex_7cf53 2 (some .int), Cond.methodLink RJ15 105 yJ3_checkIndex_8e157, Cond.static yJ3_checkIndex_8e157, Cond.initialized RJ3, Cond.code yJ3_checkIndex_8e157 cJ3_checkIndex_8e157 3 (some .int), Cond.methodLink RJx4a65c 123 yJx4a65c_elementData_915e3, Cond.instanceMethod yJx4a65c_elementData_915e3, Cond.selects RJx4a65c yJx4a65c_elementData_915e3 yJx4a65c_elementData_915e3, Cond.code yJx4a65c_elementData_915e3 cJx4a65c_elementData_915e3 2 (some (.object "java/lang/Object"))]
def wsL_law0_r9 : List Cond := [Cond.methodLink RX5 67 yX0_become, Cond.instanceMethod yX0_become, Cond.selects RX0 yX0_become yX0_become, Cond.code yX0_become cX0_become 3 none, Cond.methodLink RX5 70 yX0_include, Cond.instanceMethod yX0_include, Cond.selects RX0 yX0_include yX0_include, Cond.code yX0_include cX0_include 2 (some .boolean), Cond.methodLink RL 83 yX6_setCut, Cond.instanceMethod yX6_setCut, Cond.selects RX6 yX6_setCut yX6_setCut, Cond.code yX6_setCut cX6_setCut 4 (some .boolean), Cond.fieldLink RX6 60 "GlacierBookModel" "thrown" "I", Cond.methodLink RX6 73 yX6_isDepot, Cond.static yX6_isDepot, Cond.code yX6_isDepot cX6_isDepot 1 (some .boolean), Cond.methodLink RX6 63 yX6_in, Cond.static yX6_in, Cond.code yX6_in cX6_in 3 (some .boolean), Cond.methodLink RX6 77 yX6_areDays, Cond.static yX6_areDays, Cond.code yX6_areDays cX6_areDays 2 (some .boolean), Cond.methodLink RX6 81 yX6_isCut, Cond.instanceMethod yX6_isCut]
def wsL_law0_r10 : List Cond := [Cond.selects RX6 yX6_isCut yX6_isCut, Cond.code yX6_isCut cX6_isCut 2 (some .boolean), Cond.fieldLink RX6 70 "GlacierBookModel" "today" "I", Cond.methodLink RL 84 yX6_thrown, Cond.instanceMethod yX6_thrown, Cond.selects RX6 yX6_thrown yX6_thrown, Cond.code yX6_thrown cX6_thrown 1 (some .int), Cond.methodLink RL 87 yL_setWarm, Cond.static yL_setWarm, Cond.codeWith yL_setWarm cL_setWarm 5 (some .int) [(0, 17, 20, 13)], Cond.methodLink RL 17 yX5_setWarm, Cond.instanceMethod yX5_setWarm, Cond.selects RX5 yX5_setWarm yX5_setWarm, Cond.code yX5_setWarm cX5_setWarm 5 (some .boolean), Cond.fieldLink RX5 74 "GlacierBook$Depot" "warm" "Z", Cond.methodLink RL 90 yX6_setWarm, Cond.instanceMethod yX6_setWarm, Cond.selects RX6 yX6_setWarm yX6_setWarm, Cond.code yX6_setWarm cX6_setWarm 4 (some .boolean), Cond.methodLink RL 91 yL_setFrost, Cond.static yL_setFrost, Cond.codeWith yL_setFrost cL_setFrost 5 (some .int) [(0, 17, 20, 15)], Cond.methodLink RL 21 yX5_setFrost, Cond.instanceMethod yX5_setFrost]
def wsL_law0_r11 : List Cond := [Cond.selects RX5 yX5_setFrost yX5_setFrost, Cond.code yX5_setFrost cX5_setFrost 3 (some .boolean), Cond.methodLink RL 94 yX6_setFrost, Cond.instanceMethod yX6_setFrost, Cond.selects RX6 yX6_setFrost yX6_setFrost, Cond.code yX6_setFrost cX6_setFrost 3 (some .boolean), Cond.fieldLink RX6 84 "GlacierBookModel" "frostFrom" "I", Cond.methodLink RX6 87 yX6_isFrost, Cond.instanceMethod yX6_isFrost, Cond.selects RX6 yX6_isFrost yX6_isFrost, Cond.code yX6_isFrost cX6_isFrost 1 (some .boolean), Cond.methodLink RL 95 yL_fill, Cond.static yL_fill, Cond.codeWith yL_fill cL_fill 7 (some .int) [(0, 14, 17, 13), (0, 14, 21, 15), (0, 14, 25, 29)], Cond.classLink RL 29 "java/lang/IllegalStateException", Cond.methodLink RL 25 yX5_fill, Cond.instanceMethod yX5_fill, Cond.selects RX5 yX5_fill yX5_fill, Cond.code yX5_fill cX5_fill 5 (some .int), Cond.classLink RX5 88 RX3, Cond.instantiable RX3 5, Cond.initialized RX3, Cond.methodLink RX5 78 yX5_requireGood, Cond.instanceMethod yX5_requireGood]
def wsL_law0_r12 : List Cond := [Cond.selects RX5 yX5_requireGood yX5_requireGood, Cond.code yX5_requireGood cX5_requireGood 2 none, Cond.methodLink RX5 85 yX5_requireRoomForLot, Cond.instanceMethod yX5_requireRoomForLot, Cond.selects RX5 yX5_requireRoomForLot yX5_requireRoomForLot, Cond.code yX5_requireRoomForLot cX5_requireRoomForLot 1 none, Cond.classLink RX5 122 "java/lang/IllegalStateException", Cond.initialized "java/lang/IllegalStateException", Cond.methodLink RX5 94 yX3_init, Cond.instanceMethod yX3_init, Cond.code yX3_init cX3_init 5 none, Cond.methodLink RX3 3 objectInit, Cond.fieldLink RX3 9 "GlacierBook$Lot" "amount" "I", Cond.fieldLink RX3 15 "GlacierBook$Lot" "number" "I", Cond.fieldLink RX3 18 "GlacierBook$Lot" "depot" "LGlacierBook$Depot;", Cond.fieldLink RX3 22 "GlacierBook$Lot" "good" "I", Cond.fieldLink RX3 25 "GlacierBook$Lot" "lastDay" "I", Cond.methodLink RX5 97 yX5_addLot, Cond.instanceMethod yX5_addLot, Cond.selects RX5 yX5_addLot yX5_addLot, Cond.code yX5_addLot cX5_addLot 4 (some .int), Cond.fieldLink RX5 184 "GlacierBook$Lot" "number" "I", Cond.methodLink RX5 127 yX5_changeAmount, Cond.instanceMethod yX5_changeAmount]
def wsL_law0_r13 : List Cond := [Cond.selects RX5 yX5_changeAmount yX5_changeAmount, Cond.code yX5_changeAmount cX5_changeAmount 4 none, Cond.fieldLink RX5 119 "GlacierBook$Lot" "amount" "I", Cond.constant RX5 205 (65536), Cond.classLink RX5 166 RX2, Cond.instantiable RX2 4, Cond.initialized RX2, Cond.methodLink RX5 206 yX2_init, Cond.instanceMethod yX2_init, Cond.code yX2_init cX2_init 5 none, Cond.methodLink RX2 1 objectInit, Cond.fieldLink RX2 7 "GlacierBook$Entry" "crew" "I", Cond.fieldLink RX2 13 "GlacierBook$Entry" "lot" "LGlacierBook$Lot;", Cond.fieldLink RX2 17 "GlacierBook$Entry" "change" "I", Cond.fieldLink RX2 20 "GlacierBook$Entry" "cause" "I", Cond.methodLink RL 98 yX6_fill, Cond.instanceMethod yX6_fill, Cond.selects RX6 yX6_fill yX6_fill, Cond.code yX6_fill cX6_fill 6 (some .int), Cond.fieldLink RX6 67 "GlacierBookModel" "lots" "I", Cond.methodLink RX6 97 yX6_isGood, Cond.static yX6_isGood, Cond.code yX6_isGood cX6_isGood 1 (some .boolean), Cond.methodLink RX6 100 yX6_makes]
def wsL_law0_r14 : List Cond := [Cond.instanceMethod yX6_makes, Cond.selects RX6 yX6_makes yX6_makes, Cond.code yX6_makes cX6_makes 4 (some .int), Cond.methodLink RX6 104 yX6_changes, Cond.instanceMethod yX6_changes, Cond.selects RX6 yX6_changes yX6_changes, Cond.code yX6_changes cX6_changes 4 none, Cond.fieldLink RX6 91 "GlacierBookModel" "entries" "I", Cond.fieldLink RX6 94 "GlacierBookModel" "crew" "I", Cond.methodLink RL 99 yL_move, Cond.static yL_move, Cond.codeWith yL_move cL_move 6 (some .int) [(0, 12, 15, 13), (0, 12, 19, 15), (0, 12, 23, 29)], Cond.methodLink RL 31 yX5_move, Cond.instanceMethod yX5_move, Cond.selects RX5 yX5_move yX5_move, Cond.code yX5_move cX5_move 6 (some .int), Cond.classLink RX5 88 "GlacierBook$Lot", Cond.fieldLink RX5 104 "GlacierBook$Lot" "depot" "LGlacierBook$Depot;", Cond.fieldLink RX5 131 "GlacierBook$Lot" "good" "I", Cond.fieldLink RX5 134 "GlacierBook$Lot" "lastDay" "I", Cond.methodLink RX5 101 yX5_requireLot, Cond.instanceMethod yX5_requireLot, Cond.selects RX5 yX5_requireLot yX5_requireLot, Cond.code yX5_requireLot cX5_requireLot 2 none]
def wsL_law0_r15 : List Cond := [Cond.methodLink RX5 115 yX5_requireReached, Cond.instanceMethod yX5_requireReached, Cond.selects RX5 yX5_requireReached yX5_requireReached, Cond.code yX5_requireReached cX5_requireReached 2 none, Cond.methodLink RL 101 yX6_move, Cond.instanceMethod yX6_move, Cond.selects RX6 yX6_move yX6_move, Cond.code yX6_move cX6_move 5 (some .int), Cond.methodLink RX6 108 yX6_isLot, Cond.instanceMethod yX6_isLot, Cond.selects RX6 yX6_isLot yX6_isLot, Cond.code yX6_isLot cX6_isLot 2 (some .boolean), Cond.methodLink RL 102 yL_count, Cond.static yL_count, Cond.codeWith yL_count cL_count 5 (some .int) [(0, 10, 13, 13), (0, 10, 17, 15), (0, 10, 21, 29)], Cond.methodLink RL 35 yX5_count, Cond.instanceMethod yX5_count, Cond.selects RX5 yX5_count yX5_count, Cond.code yX5_count cX5_count 5 (some .int), Cond.methodLink RL 104 yX6_count, Cond.instanceMethod yX6_count, Cond.selects RX6 yX6_count yX6_count, Cond.code yX6_count cX6_count 4 (some .int), Cond.methodLink RL 105 yL_setPeople]
def wsL_law0_r16 : List Cond := [Cond.static yL_setPeople, Cond.codeWith yL_setPeople cL_setPeople 5 (some .int) [(0, 10, 13, 13), (0, 10, 17, 15)], Cond.methodLink RL 39 yX5_setPeople, Cond.instanceMethod yX5_setPeople, Cond.selects RX5 yX5_setPeople yX5_setPeople, Cond.code yX5_setPeople cX5_setPeople 5 (some .int), Cond.classLink RX5 48 "GlacierBook$Workers", Cond.fieldLink RX5 140 "GlacierBook$Workers" "people" "I", Cond.methodLink RX5 137 yX5_requireWork, Cond.instanceMethod yX5_requireWork, Cond.selects RX5 yX5_requireWork yX5_requireWork, Cond.code yX5_requireWork cX5_requireWork 2 none, Cond.methodLink RL 107 yX6_setPeople, Cond.instanceMethod yX6_setPeople, Cond.selects RX6 yX6_setPeople yX6_setPeople, Cond.code yX6_setPeople cX6_setPeople 4 (some .int), Cond.methodLink RL 108 yL_pass, Cond.static yL_pass, Cond.codeWith yL_pass cL_pass 4 (some .int) [(0, 9, 12, 15), (0, 9, 15, 29)], Cond.methodLink RL 42 yX5_pass, Cond.instanceMethod yX5_pass, Cond.selects RX5 yX5_pass yX5_pass, Cond.code yX5_pass cX5_pass 4 (some .int), Cond.methodLink RX5 145 yX5_throwAwayOld]
def wsL_law0_r17 : List Cond := [Cond.instanceMethod yX5_throwAwayOld, Cond.selects RX5 yX5_throwAwayOld yX5_throwAwayOld, Cond.code yX5_throwAwayOld cX5_throwAwayOld 3 none, Cond.methodLink RX5 148 yX5_freeze, Cond.instanceMethod yX5_freeze, Cond.selects RX5 yX5_freeze yX5_freeze, Cond.code yX5_freeze cX5_freeze 3 none, Cond.methodLink RX5 151 yX5_feedPeople, Cond.instanceMethod yX5_feedPeople, Cond.selects RX5 yX5_feedPeople yX5_feedPeople, Cond.code yX5_feedPeople cX5_feedPeople 4 (some .int), Cond.methodLink RX5 212 Lib.Math.min.name, Cond.methodLink RX5 178 yX5_foodInStation, Cond.instanceMethod yX5_foodInStation, Cond.selects RX5 yX5_foodInStation yX5_foodInStation, Cond.code yX5_foodInStation cX5_foodInStation 4 (some .int), Cond.methodLink RX5 221 yX3_isFoodInStation, Cond.instanceMethod yX3_isFoodInStation, Cond.selects RX3 yX3_isFoodInStation yX3_isFoodInStation, Cond.code yX3_isFoodInStation cX3_isFoodInStation 1 (some .boolean), Cond.fieldLink RX3 28 "GlacierBook$Depot" "number" "I", Cond.methodLink RX5 175 yX5_needOfAll, Cond.instanceMethod yX5_needOfAll, Cond.selects RX5 yX5_needOfAll yX5_needOfAll]
def wsL_law0_r18 : List Cond := [Cond.code yX5_needOfAll cX5_needOfAll 3 (some .int), Cond.methodLink RX5 225 yX4_need, Cond.instanceMethod yX4_need, Cond.selects RX4 yX4_need yX4_need, Cond.code yX4_need cX4_need 1 (some .int), Cond.methodLink RX5 209 yX5_cutRations, Cond.instanceMethod yX5_cutRations, Cond.selects RX5 yX5_cutRations yX5_cutRations, Cond.code yX5_cutRations cX5_cutRations 7 none, Cond.fieldLink RX5 228 "GlacierBook$Workers" "ration" "I", Cond.fieldLink RX5 156 "GlacierBook$Workers" "missed" "I", Cond.methodLink RX5 218 yX5_eatFromLots, Cond.instanceMethod yX5_eatFromLots, Cond.selects RX5 yX5_eatFromLots yX5_eatFromLots, Cond.code yX5_eatFromLots cX5_eatFromLots 6 none, Cond.methodLink RX5 231 yX5_nextToEat, Cond.instanceMethod yX5_nextToEat, Cond.selects RX5 yX5_nextToEat yX5_nextToEat, Cond.code yX5_nextToEat cX5_nextToEat 5 (some (.object "GlacierBook$Lot")), Cond.methodLink RL 111 yX6_pass, Cond.instanceMethod yX6_pass, Cond.selects RX6 yX6_pass yX6_pass, Cond.code yX6_pass cX6_pass 4 (some .int), Cond.methodLink RX6 131 yX6_passes]
def wsL_law0_r19 : List Cond := [Cond.instanceMethod yX6_passes, Cond.selects RX6 yX6_passes yX6_passes, Cond.code yX6_passes cX6_passes 3 (some .int), Cond.methodLink RX6 128 yX6_eats, Cond.instanceMethod yX6_eats, Cond.selects RX6 yX6_eats yX6_eats, Cond.code yX6_eats cX6_eats 7 (some .int), Cond.methodLink RX6 114 yX6_allNeed, Cond.instanceMethod yX6_allNeed, Cond.selects RX6 yX6_allNeed yX6_allNeed, Cond.code yX6_allNeed cX6_allNeed 3 (some .int), Cond.methodLink RX6 118 yX6_allFood, Cond.instanceMethod yX6_allFood, Cond.selects RX6 yX6_allFood yX6_allFood, Cond.code yX6_allFood cX6_allFood 3 (some .int), Cond.methodLink RX6 111 yX6_isFoodHere, Cond.instanceMethod yX6_isFoodHere, Cond.selects RX6 yX6_isFoodHere yX6_isFoodHere, Cond.code yX6_isFoodHere cX6_isFoodHere 2 (some .boolean), Cond.methodLink RX6 121 yX6_shares, Cond.instanceMethod yX6_shares, Cond.selects RX6 yX6_shares yX6_shares, Cond.code yX6_shares cX6_shares 6 none, Cond.methodLink RX6 125 yX6_nextLot]
def wsL_law0_r20 : List Cond := [Cond.instanceMethod yX6_nextLot, Cond.selects RX6 yX6_nextLot yX6_nextLot, Cond.code yX6_nextLot cX6_nextLot 4 (some .int), Cond.methodLink RL 112 yL_nextCrew, Cond.static yL_nextCrew, Cond.codeWith yL_nextCrew cL_nextCrew 3 (some .int) [(0, 8, 11, 29)], Cond.methodLink RL 46 yX5_nextCrew, Cond.instanceMethod yX5_nextCrew, Cond.selects RX5 yX5_nextCrew yX5_nextCrew, Cond.code yX5_nextCrew cX5_nextCrew 1 (some .int), Cond.methodLink RL 115 yX6_nextCrew, Cond.instanceMethod yX6_nextCrew, Cond.selects RX6 yX6_nextCrew yX6_nextCrew, Cond.code yX6_nextCrew cX6_nextCrew 1 (some .int), Cond.methodLink RL 116 yX5_today, Cond.instanceMethod yX5_today, Cond.selects RX5 yX5_today yX5_today, Cond.code yX5_today cX5_today 1 (some .int), Cond.methodLink RL 119 yX6_today, Cond.instanceMethod yX6_today, Cond.selects RX6 yX6_today yX6_today, Cond.code yX6_today cX6_today 1 (some .int), Cond.methodLink RL 120 yL_hunger, Cond.static yL_hunger]
def wsL_law0_r21 : List Cond := [Cond.codeWith yL_hunger cL_hunger 4 (some .int) [(0, 9, 12, 13)], Cond.methodLink RL 50 yX5_hunger, Cond.instanceMethod yX5_hunger, Cond.selects RX5 yX5_hunger yX5_hunger, Cond.code yX5_hunger cX5_hunger 2 (some .int), Cond.methodLink RL 122 yX6_hunger, Cond.instanceMethod yX6_hunger, Cond.selects RX6 yX6_hunger yX6_hunger, Cond.code yX6_hunger cX6_hunger 2 (some .int), Cond.methodLink RL 123 yX5_lots, Cond.instanceMethod yX5_lots, Cond.selects RX5 yX5_lots yX5_lots, Cond.code yX5_lots cX5_lots 1 (some .int), Cond.methodLink RL 126 yX6_lots, Cond.instanceMethod yX6_lots, Cond.selects RX6 yX6_lots yX6_lots, Cond.code yX6_lots cX6_lots 1 (some .int), Cond.methodLink RL 127 yL_amount, Cond.static yL_amount, Cond.codeWith yL_amount cL_amount 4 (some .int) [(0, 9, 12, 13)], Cond.methodLink RL 53 yX5_amount, Cond.instanceMethod yX5_amount, Cond.selects RX5 yX5_amount yX5_amount, Cond.code yX5_amount cX5_amount 2 (some .int)]
def wsL_law0_r22 : List Cond := [Cond.methodLink RL 129 yX6_amount, Cond.instanceMethod yX6_amount, Cond.selects RX6 yX6_amount yX6_amount, Cond.code yX6_amount cX6_amount 2 (some .int), Cond.methodLink RX6 134 yX6_asks, Cond.instanceMethod yX6_asks, Cond.selects RX6 yX6_asks yX6_asks, Cond.code yX6_asks cX6_asks 2 (some .boolean), Cond.methodLink RL 130 yL_about, Cond.static yL_about, Cond.codeWith yL_about cL_about 4 (some .int) [(0, 9, 12, 13)], Cond.methodLink RL 56 yX5_about, Cond.instanceMethod yX5_about, Cond.selects RX5 yX5_about yX5_about, Cond.code yX5_about cX5_about 3 (some .int), Cond.fieldLink RX5 159 "GlacierBook$Depot" "number" "I", Cond.methodLink RL 132 yX6_about, Cond.instanceMethod yX6_about, Cond.selects RX6 yX6_about yX6_about, Cond.code yX6_about cX6_about 2 (some .int), Cond.methodLink RL 133 yL_stock, Cond.static yL_stock, Cond.codeWith yL_stock cL_stock 5 (some .int) [(0, 10, 13, 13)], Cond.methodLink RL 59 yX5_stock]
def wsL_law0_r23 : List Cond := [Cond.instanceMethod yX5_stock, Cond.selects RX5 yX5_stock yX5_stock, Cond.code yX5_stock cX5_stock 6 (some .int), Cond.methodLink RX5 162 yX3_isOf, Cond.instanceMethod yX3_isOf, Cond.selects RX3 yX3_isOf yX3_isOf, Cond.code yX3_isOf cX3_isOf 3 (some .boolean), Cond.methodLink RL 135 yX6_stock, Cond.instanceMethod yX6_stock, Cond.selects RX6 yX6_stock yX6_stock, Cond.code yX6_stock cX6_stock 5 (some .int), Cond.methodLink RL 136 yL_stockByJournal, Cond.static yL_stockByJournal, Cond.codeWith yL_stockByJournal cL_stockByJournal 5 (some .int) [(0, 10, 13, 13)], Cond.methodLink RL 62 yX5_stockByJournal, Cond.instanceMethod yX5_stockByJournal, Cond.selects RX5 yX5_stockByJournal yX5_stockByJournal, Cond.code yX5_stockByJournal cX5_stockByJournal 6 (some .int), Cond.classLink RX5 166 "GlacierBook$Entry", Cond.fieldLink RX5 168 "GlacierBook$Entry" "lot" "LGlacierBook$Lot;", Cond.fieldLink RX5 172 "GlacierBook$Entry" "change" "I", Cond.methodLink RL 138 yX6_stockByJournal, Cond.instanceMethod yX6_stockByJournal, Cond.selects RX6 yX6_stockByJournal yX6_stockByJournal]
def wsL_law0_r24 : List Cond := [Cond.code yX6_stockByJournal cX6_stockByJournal 6 (some .int), Cond.methodLink RL 139 yX5_enoughFor, Cond.instanceMethod yX5_enoughFor, Cond.selects RX5 yX5_enoughFor yX5_enoughFor, Cond.code yX5_enoughFor cX5_enoughFor 2 (some .int), Cond.methodLink RL 142 yX6_enoughFor, Cond.instanceMethod yX6_enoughFor, Cond.selects RX6 yX6_enoughFor yX6_enoughFor, Cond.code yX6_enoughFor cX6_enoughFor 2 (some .int), Cond.methodLink RL 143 yX5_entries, Cond.instanceMethod yX5_entries, Cond.selects RX5 yX5_entries yX5_entries, Cond.code yX5_entries cX5_entries 1 (some .int), Cond.methodLink RL 146 yX6_entries, Cond.instanceMethod yX6_entries, Cond.selects RX6 yX6_entries yX6_entries, Cond.code yX6_entries cX6_entries 1 (some .int), Cond.methodLink RL 147 yL_changeOf, Cond.static yL_changeOf, Cond.codeWith yL_changeOf cL_changeOf 4 (some .int) [(0, 9, 12, 13)], Cond.methodLink RL 65 yX5_changeOf, Cond.instanceMethod yX5_changeOf, Cond.selects RX5 yX5_changeOf yX5_changeOf, Cond.code yX5_changeOf cX5_changeOf 2 (some .int)]
def wsL_law0_r25 : List Cond := [Cond.methodLink RX5 181 yX5_requireEntry, Cond.instanceMethod yX5_requireEntry, Cond.selects RX5 yX5_requireEntry yX5_requireEntry, Cond.code yX5_requireEntry cX5_requireEntry 2 none, Cond.methodLink RL 149 yX6_changeOf, Cond.instanceMethod yX6_changeOf, Cond.selects RX6 yX6_changeOf yX6_changeOf, Cond.code yX6_changeOf cX6_changeOf 2 (some .int), Cond.methodLink RX6 137 yX6_isEntry, Cond.instanceMethod yX6_isEntry, Cond.selects RX6 yX6_isEntry yX6_isEntry, Cond.code yX6_isEntry cX6_isEntry 2 (some .boolean), Cond.methodLink RL 150 yL_lotOf, Cond.static yL_lotOf, Cond.codeWith yL_lotOf cL_lotOf 4 (some .int) [(0, 9, 12, 13)], Cond.methodLink RL 68 yX5_lotOf, Cond.instanceMethod yX5_lotOf, Cond.selects RX5 yX5_lotOf yX5_lotOf, Cond.code yX5_lotOf cX5_lotOf 3 (some .int), Cond.fieldLink RX5 185 "GlacierBook$Entry" "cause" "I", Cond.methodLink RL 152 yX6_lotOf, Cond.instanceMethod yX6_lotOf, Cond.selects RX6 yX6_lotOf yX6_lotOf, Cond.code yX6_lotOf cX6_lotOf 2 (some .int)]
def wsL_law0_r26 : List Cond := [Cond.methodLink RL 153 yL_changed, Cond.static yL_changed, Cond.codeWith yL_changed cL_changed 5 (some .int) [(0, 10, 13, 15)], Cond.methodLink RL 71 yX5_changed, Cond.instanceMethod yX5_changed, Cond.selects RX5 yX5_changed yX5_changed, Cond.code yX5_changed cX5_changed 6 (some .int), Cond.fieldLink RX5 190 "GlacierBook$Entry" "crew" "I", Cond.methodLink RL 155 yX6_changed, Cond.instanceMethod yX6_changed, Cond.selects RX6 yX6_changed yX6_changed, Cond.code yX6_changed cX6_changed 5 (some .int)]
def wsL_law0 : List Cond := (wsL_law0_r1 ++ (wsL_law0_r2 ++ (wsL_law0_r3 ++ (wsL_law0_r4 ++ (wsL_law0_r5 ++ (wsL_law0_r6 ++ (wsL_law0_r7 ++ (wsL_law0_r8 ++ (wsL_law0_r9 ++ (wsL_law0_r10 ++ (wsL_law0_r11 ++ (wsL_law0_r12 ++ (wsL_law0_r13 ++ (wsL_law0_r14 ++ (wsL_law0_r15 ++ (wsL_law0_r16 ++ (wsL_law0_r17 ++ (wsL_law0_r18 ++ (wsL_law0_r19 ++ (wsL_law0_r20 ++ (wsL_law0_r21 ++ (wsL_law0_r22 ++ (wsL_law0_r23 ++ (wsL_law0_r24 ++ (wsL_law0_r25 ++ wsL_law0_r26))))))))))))))))))))))))) ++ wsX50 ++ wsX60 ++ wsJx4a65c0 ++ wsX00 ++ wsX10 ++ wsX40 ++ wsX30 ++ wsX20 ++ ([] : List Cond)
def wsL_law : List Cond := wsL_law0 ++ (vx_atS RX5 198 "java/lang/IndexOutOfBoundsException" ["java/lang/RuntimeException", "java/lang/Exception"]).filter goodWord ++ (vx_atS RX5 112 "java/lang/IllegalArgumentException" ["java/lang/RuntimeException", "java/lang/Exception"]).filter goodWord ++ (vx_atS RX5 126 "java/lang/IllegalStateException" ["java/lang/RuntimeException", "java/lang/Exception"]).filter goodWord
end
section
set_option maxRecDepth 20000 in
theorem gb_lw_1 : ∀ w ∈ wsL_law0_r1, w ∈ lw_tbl := fun w h => (goodIn_r wsL_law0_r1 [58, 59, 36, 640, 641, 47, 871, 60, 61, 62, 63, 64, 65, 66, 67, 39, 207, 208, 209, 210, 92, 93, 40, 211] (by decide +kernel) (by decide +kernel) w h).1
set_option maxRecDepth 20000 in
theorem gb_lw_2 : ∀ w ∈ wsL_law0_r2, w ∈ lw_tbl := fun w h => (goodIn_r wsL_law0_r2 [212, 213, 105, 106, 41, 185, 186, 46, 68, 69, 70, 78, 80, 71, 72, 38, 73, 82, 74, 75, 37, 76, 77, 95] (by decide +kernel) (by decide +kernel) w h).1
set_option maxRecDepth 20000 in
theorem gb_lw_3 : ∀ w ∈ wsL_law0_r3, w ∈ lw_tbl := fun w h => (goodIn_r wsL_law0_r3 [96, 97, 98, 99, 107, 108, 109, 110, 111, 116, 113, 118, 127, 128, 129, 130, 83, 84, 81, 131, 133, 0, 134, 135] (by decide +kernel) (by decide +kernel) w h).1
set_option maxRecDepth 20000 in
theorem gb_lw_4 : ∀ w ∈ wsL_law0_r4, w ∈ lw_tbl := fun w h => (goodIn_r wsL_law0_r4 [137, 1, 138, 139, 141, 2, 142, 183, 147, 43, 148, 184, 143, 144, 42, 145, 146, 149, 150, 151, 152, 153, 154, 44] (by decide +kernel) (by decide +kernel) w h).1
set_option maxRecDepth 20000 in
theorem gb_lw_5 : ∀ w ∈ wsL_law0_r5, w ∈ lw_tbl := fun w h => (goodIn_r wsL_law0_r5 [155, 156, 887, 157, 170, 171, 172, 173, 174, 176, 177, 178, 179, 180, 182, 181, 45, 187, 188, 189, 190, 192, 194, 196] (by decide +kernel) (by decide +kernel) w h).1
set_option maxRecDepth 20000 in
theorem gb_lw_6 : ∀ w ∈ wsL_law0_r6, w ∈ lw_tbl := fun w h => (goodIn_r wsL_law0_r6 [191, 642, 643, 644, 645, 713, 649, 714, 650, 651, 653, 655, 656, 657, 658, 659, 660, 662, 663, 664, 665, 666, 667, 280] (by decide +kernel) (by decide +kernel) w h).1
set_option maxRecDepth 20000 in
theorem gb_lw_7 : ∀ w ∈ wsL_law0_r7, w ∈ lw_tbl := fun w h => (goodIn_r wsL_law0_r7 [281, 35, 282, 283, 284, 285, 286, 287, 288, 105, 117, 289, 291, 5, 292, 237, 238, 239, 240, 293, 294, 295, 296, 51] (by decide +kernel) (by decide +kernel) w h).1
set_option maxRecDepth 20000 in
theorem gb_lw_8 : ∀ w ∈ wsL_law0_r8, w ∈ lw_tbl := fun w h => (goodIn_r wsL_law0_r8 [364, 365, 366, 367, 368, 369, 370, 52, 249, 250, 251, 252, 253, 254, 53, 255, 256, 257, 54, 258, 259, 260, 261, 262] (by decide +kernel) (by decide +kernel) w h).1
set_option maxRecDepth 20000 in
theorem gb_lw_9 : ∀ w ∈ wsL_law0_r9, w ∈ lw_tbl := fun w h => (goodIn_r wsL_law0_r9 [386, 387, 388, 389, 390, 391, 392, 393, 719, 720, 721, 722, 646, 723, 724, 725, 726, 727, 728, 729, 730, 731, 732, 734] (by decide +kernel) (by decide +kernel) w h).1
set_option maxRecDepth 20000 in
theorem gb_lw_10 : ∀ w ∈ wsL_law0_r10, w ∈ lw_tbl := fun w h => (goodIn_r wsL_law0_r10 [21, 735, 647, 715, 716, 717, 718, 394, 395, 396, 397, 398, 399, 400, 119, 736, 737, 738, 739, 401, 402, 403, 404, 405] (by decide +kernel) (by decide +kernel) w h).1
set_option maxRecDepth 20000 in
theorem gb_lw_11 : ∀ w ∈ wsL_law0_r11, w ∈ lw_tbl := fun w h => (goodIn_r wsL_law0_r11 [406, 407, 740, 741, 742, 743, 652, 744, 746, 22, 747, 408, 409, 410, 411, 412, 413, 414, 415, 271, 440, 56, 416, 418] (by decide +kernel) (by decide +kernel) w h).1
set_option maxRecDepth 20000 in
theorem gb_lw_12 : ∀ w ∈ wsL_law0_r12, w ∈ lw_tbl := fun w h => (goodIn_r wsL_law0_r12 [7, 419, 420, 422, 8, 423, 424, 55, 441, 442, 443, 444, 453, 445, 447, 449, 451, 466, 468, 9, 469, 446, 470, 472] (by decide +kernel) (by decide +kernel) w h).1
set_option maxRecDepth 20000 in
theorem gb_lw_13 : ∀ w ∈ wsL_law0_r13, w ∈ lw_tbl := fun w h => (goodIn_r wsL_law0_r13 [10, 473, 454, 474, 475, 476, 57, 477, 478, 479, 480, 481, 483, 485, 487, 748, 749, 750, 751, 654, 752, 753, 754, 755] (by decide +kernel) (by decide +kernel) w h).1
set_option maxRecDepth 20000 in
theorem gb_lw_14 : ∀ w ∈ wsL_law0_r14, w ∈ lw_tbl := fun w h => (goodIn_r wsL_law0_r14 [757, 23, 758, 759, 761, 24, 762, 661, 648, 498, 499, 500, 501, 502, 503, 504, 271, 448, 450, 452, 505, 507, 11, 508] (by decide +kernel) (by decide +kernel) w h).1
set_option maxRecDepth 20000 in
theorem gb_lw_15 : ∀ w ∈ wsL_law0_r15, w ∈ lw_tbl := fun w h => (goodIn_r wsL_law0_r15 [510, 512, 12, 513, 763, 764, 765, 766, 767, 769, 25, 770, 516, 517, 518, 519, 520, 521, 522, 771, 772, 773, 774, 523] (by decide +kernel) (by decide +kernel) w h).1
set_option maxRecDepth 20000 in
theorem gb_lw_16 : ∀ w ∈ wsL_law0_r16, w ∈ lw_tbl := fun w h => (goodIn_r wsL_law0_r16 [524, 525, 526, 527, 528, 529, 185, 193, 530, 532, 13, 533, 775, 776, 777, 778, 534, 535, 536, 537, 538, 539, 540, 542] (by decide +kernel) (by decide +kernel) w h).1
set_option maxRecDepth 20000 in
theorem gb_lw_17 : ∀ w ∈ wsL_law0_r17, w ∈ lw_tbl := fun w h => (goodIn_r wsL_law0_r17 [544, 14, 545, 546, 548, 15, 549, 550, 552, 16, 553, 558, 267, 269, 4, 270, 272, 273, 274, 275, 114, 245, 247, 3] (by decide +kernel) (by decide +kernel) w h).1
set_option maxRecDepth 20000 in
theorem gb_lw_18 : ∀ w ∈ wsL_law0_r18, w ∈ lw_tbl := fun w h => (goodIn_r wsL_law0_r18 [248, 263, 264, 265, 266, 554, 556, 17, 557, 195, 197, 559, 561, 18, 562, 563, 565, 19, 566, 779, 780, 781, 782, 783] (by decide +kernel) (by decide +kernel) w h).1
set_option maxRecDepth 20000 in
theorem gb_lw_19 : ∀ w ∈ wsL_law0_r19, w ∈ lw_tbl := fun w h => (goodIn_r wsL_law0_r19 [785, 26, 786, 787, 789, 27, 790, 791, 793, 28, 794, 795, 797, 29, 798, 799, 801, 30, 802, 803, 805, 31, 806, 807] (by decide +kernel) (by decide +kernel) w h).1
set_option maxRecDepth 20000 in
theorem gb_lw_20 : ∀ w ∈ wsL_law0_r20, w ∈ lw_tbl := fun w h => (goodIn_r wsL_law0_r20 [809, 32, 810, 567, 568, 569, 570, 571, 572, 573, 811, 812, 813, 814, 229, 230, 231, 232, 815, 816, 817, 818, 575, 576] (by decide +kernel) (by decide +kernel) w h).1
set_option maxRecDepth 20000 in
theorem gb_lw_21 : ∀ w ∈ wsL_law0_r21, w ∈ lw_tbl := fun w h => (goodIn_r wsL_law0_r21 [577, 578, 579, 580, 581, 819, 820, 821, 822, 233, 234, 235, 236, 823, 824, 825, 826, 582, 583, 584, 585, 586, 587, 588] (by decide +kernel) (by decide +kernel) w h).1
set_option maxRecDepth 20000 in
theorem gb_lw_22 : ∀ w ∈ wsL_law0_r22, w ∈ lw_tbl := fun w h => (goodIn_r wsL_law0_r22 [827, 828, 829, 830, 831, 833, 33, 834, 589, 590, 591, 592, 593, 594, 595, 115, 835, 836, 837, 838, 596, 597, 598, 599] (by decide +kernel) (by decide +kernel) w h).1
set_option maxRecDepth 20000 in
theorem gb_lw_23 : ∀ w ∈ wsL_law0_r23, w ∈ lw_tbl := fun w h => (goodIn_r wsL_law0_r23 [600, 601, 602, 603, 604, 605, 606, 839, 840, 841, 842, 607, 608, 609, 610, 611, 612, 613, 475, 484, 486, 843, 844, 845] (by decide +kernel) (by decide +kernel) w h).1
set_option maxRecDepth 20000 in
theorem gb_lw_24 : ∀ w ∈ wsL_law0_r24, w ∈ lw_tbl := fun w h => (goodIn_r wsL_law0_r24 [846, 241, 242, 243, 244, 847, 848, 849, 850, 276, 277, 278, 279, 851, 852, 853, 854, 614, 615, 616, 617, 618, 619, 620] (by decide +kernel) (by decide +kernel) w h).1
set_option maxRecDepth 20000 in
theorem gb_lw_25 : ∀ w ∈ wsL_law0_r25, w ∈ lw_tbl := fun w h => (goodIn_r wsL_law0_r25 [621, 623, 20, 624, 855, 856, 857, 858, 859, 861, 34, 862, 625, 626, 627, 628, 629, 630, 631, 488, 863, 864, 865, 866] (by decide +kernel) (by decide +kernel) w h).1
set_option maxRecDepth 20000 in
theorem gb_lw_26 : ∀ w ∈ wsL_law0_r26, w ∈ lw_tbl := fun w h => (goodIn_r wsL_law0_r26 [632, 633, 634, 635, 636, 637, 638, 482, 867, 868, 869, 870] (by decide +kernel) (by decide +kernel) w h).1
set_option maxRecDepth 20000 in
theorem gb_lw_X5 : ∀ w ∈ wsX50, w ∈ lw_tbl := by decide +kernel
set_option maxRecDepth 20000 in
theorem gb_lw_X6 : ∀ w ∈ wsX60, w ∈ lw_tbl := by decide +kernel
set_option maxRecDepth 20000 in
theorem gb_lw_Jx4a65c : ∀ w ∈ wsJx4a65c0, w ∈ lw_tbl := by decide +kernel
set_option maxRecDepth 20000 in
theorem gb_lw_X0 : ∀ w ∈ wsX00, w ∈ lw_tbl := by decide +kernel
set_option maxRecDepth 20000 in
theorem gb_lw_X1 : ∀ w ∈ wsX10, w ∈ lw_tbl := by decide +kernel
set_option maxRecDepth 20000 in
theorem gb_lw_X4 : ∀ w ∈ wsX40, w ∈ lw_tbl := by decide +kernel
set_option maxRecDepth 20000 in
theorem gb_lw_X3 : ∀ w ∈ wsX30, w ∈ lw_tbl := by decide +kernel
set_option maxRecDepth 20000 in
theorem gb_lw_X2 : ∀ w ∈ wsX20, w ∈ lw_tbl := by decide +kernel
set_option maxRecDepth 20000 in
theorem wsL_law_in0 : ∀ w ∈ wsL_law0, w ∈ lw_tbl := List.forall_mem_append.mpr ⟨List.forall_mem_append.mpr ⟨List.forall_mem_append.mpr ⟨List.forall_mem_append.mpr ⟨List.forall_mem_append.mpr ⟨List.forall_mem_append.mpr ⟨List.forall_mem_append.mpr ⟨List.forall_mem_append.mpr ⟨List.forall_mem_append.mpr ⟨List.forall_mem_append.mpr ⟨gb_lw_1, List.forall_mem_append.mpr ⟨gb_lw_2, List.forall_mem_append.mpr ⟨gb_lw_3, List.forall_mem_append.mpr ⟨gb_lw_4, List.forall_mem_append.mpr ⟨gb_lw_5, List.forall_mem_append.mpr ⟨gb_lw_6, List.forall_mem_append.mpr ⟨gb_lw_7, List.forall_mem_append.mpr ⟨gb_lw_8, List.forall_mem_append.mpr ⟨gb_lw_9, List.forall_mem_append.mpr ⟨gb_lw_10, List.forall_mem_append.mpr ⟨gb_lw_11, List.forall_mem_append.mpr ⟨gb_lw_12, List.forall_mem_append.mpr ⟨gb_lw_13, List.forall_mem_append.mpr ⟨gb_lw_14, List.forall_mem_append.mpr ⟨gb_lw_15, List.forall_mem_append.mpr ⟨gb_lw_16, List.forall_mem_append.mpr ⟨gb_lw_17, List.forall_mem_append.mpr ⟨gb_lw_18, List.forall_mem_append.mpr ⟨gb_lw_19, List.forall_mem_append.mpr ⟨gb_lw_20, List.forall_mem_append.mpr ⟨gb_lw_21, List.forall_mem_append.mpr ⟨gb_lw_22, List.forall_mem_append.mpr ⟨gb_lw_23, List.forall_mem_append.mpr ⟨gb_lw_24, List.forall_mem_append.mpr ⟨gb_lw_25, gb_lw_26⟩⟩⟩⟩⟩⟩⟩⟩⟩⟩⟩⟩⟩⟩⟩⟩⟩⟩⟩⟩⟩⟩⟩⟩⟩, gb_lw_X5⟩, gb_lw_X6⟩, gb_lw_Jx4a65c⟩, gb_lw_X0⟩, gb_lw_X1⟩, gb_lw_X4⟩, gb_lw_X3⟩, gb_lw_X2⟩, fun _ h => absurd h List.not_mem_nil⟩
theorem wsL_law_x0 : ∀ w ∈ (vx_atS RX5 198 "java/lang/IndexOutOfBoundsException" ["java/lang/RuntimeException", "java/lang/Exception"]).filter goodWord, w ∈ lw_tbl := by decide +kernel
theorem wsL_law_x1 : ∀ w ∈ (vx_atS RX5 112 "java/lang/IllegalArgumentException" ["java/lang/RuntimeException", "java/lang/Exception"]).filter goodWord, w ∈ lw_tbl := by decide +kernel
theorem wsL_law_x2 : ∀ w ∈ (vx_atS RX5 126 "java/lang/IllegalStateException" ["java/lang/RuntimeException", "java/lang/Exception"]).filter goodWord, w ∈ lw_tbl := by decide +kernel
theorem wsL_law_in : ∀ w ∈ wsL_law, w ∈ lw_tbl := fun w h => (List.mem_append.mp h).elim (fun h => (List.mem_append.mp h).elim (fun h => (List.mem_append.mp h).elim (fun h => wsL_law_in0 w h) (fun h => wsL_law_x0 w h)) (fun h => wsL_law_x1 w h)) (fun h => wsL_law_x2 w h)
theorem inlX0 : ∀ w ∈ wsX00, w ∈ wsL_law := fun _ h => List.mem_append_left _ (List.mem_append_left _ (List.mem_append_left _ (List.mem_append_left _ (List.mem_append_left _ (List.mem_append_left _ (List.mem_append_left _ (List.mem_append_left _ (List.mem_append_right _ h))))))))
theorem inX0 : ∀ w ∈ wsX00, w ∈ lw_tbl := fun w h => wsL_law_in w (inlX0 w h)
theorem inlX1 : ∀ w ∈ wsX10, w ∈ wsL_law := fun _ h => List.mem_append_left _ (List.mem_append_left _ (List.mem_append_left _ (List.mem_append_left _ (List.mem_append_left _ (List.mem_append_left _ (List.mem_append_left _ (List.mem_append_right _ h)))))))
theorem inX1 : ∀ w ∈ wsX10, w ∈ lw_tbl := fun w h => wsL_law_in w (inlX1 w h)
theorem inlX2 : ∀ w ∈ wsX20, w ∈ wsL_law := fun _ h => List.mem_append_left _ (List.mem_append_left _ (List.mem_append_left _ (List.mem_append_left _ (List.mem_append_right _ h))))
theorem inX2 : ∀ w ∈ wsX20, w ∈ lw_tbl := fun w h => wsL_law_in w (inlX2 w h)
theorem inlX3 : ∀ w ∈ wsX30, w ∈ wsL_law := fun _ h => List.mem_append_left _ (List.mem_append_left _ (List.mem_append_left _ (List.mem_append_left _ (List.mem_append_left _ (List.mem_append_right _ h)))))
theorem inX3 : ∀ w ∈ wsX30, w ∈ lw_tbl := fun w h => wsL_law_in w (inlX3 w h)
theorem inlX4 : ∀ w ∈ wsX40, w ∈ wsL_law := fun _ h => List.mem_append_left _ (List.mem_append_left _ (List.mem_append_left _ (List.mem_append_left _ (List.mem_append_left _ (List.mem_append_left _ (List.mem_append_right _ h))))))
theorem inX4 : ∀ w ∈ wsX40, w ∈ lw_tbl := fun w h => wsL_law_in w (inlX4 w h)
theorem inlX5 : ∀ w ∈ wsX50, w ∈ wsL_law := fun _ h => List.mem_append_left _ (List.mem_append_left _ (List.mem_append_left _ (List.mem_append_left _ (List.mem_append_left _ (List.mem_append_left _ (List.mem_append_left _ (List.mem_append_left _ (List.mem_append_left _ (List.mem_append_left _ (List.mem_append_left _ (List.mem_append_right _ h)))))))))))
theorem inX5 : ∀ w ∈ wsX50, w ∈ lw_tbl := fun w h => wsL_law_in w (inlX5 w h)
theorem inlX6 : ∀ w ∈ wsX60, w ∈ wsL_law := fun _ h => List.mem_append_left _ (List.mem_append_left _ (List.mem_append_left _ (List.mem_append_left _ (List.mem_append_left _ (List.mem_append_left _ (List.mem_append_left _ (List.mem_append_left _ (List.mem_append_left _ (List.mem_append_left _ (List.mem_append_right _ h))))))))))
theorem inX6 : ∀ w ∈ wsX60, w ∈ lw_tbl := fun w h => wsL_law_in w (inlX6 w h)
theorem inJx145de : ∀ w ∈ wsJx145de0, w ∈ lw_tbl := by decide +kernel
theorem inJx8e188 : ∀ w ∈ wsJx8e1880, w ∈ lw_tbl := by decide +kernel
theorem inJxab1ab : ∀ w ∈ wsJxab1ab0, w ∈ lw_tbl := by decide +kernel
theorem inJ9 : ∀ w ∈ wsJ90, w ∈ lw_tbl := by decide +kernel
theorem inJ0 : ∀ w ∈ wsJ00, w ∈ lw_tbl := by decide +kernel
theorem inJ10 : ∀ w ∈ wsJ100, w ∈ lw_tbl := by decide +kernel
theorem inJxa1e45 : ∀ w ∈ wsJxa1e450, w ∈ lw_tbl := by decide +kernel
theorem inJxc12de : ∀ w ∈ wsJxc12de0, w ∈ lw_tbl := by decide +kernel
theorem inlJx4a65c : ∀ w ∈ wsJx4a65c0, w ∈ wsL_law := fun _ h => List.mem_append_left _ (List.mem_append_left _ (List.mem_append_left _ (List.mem_append_left _ (List.mem_append_left _ (List.mem_append_left _ (List.mem_append_left _ (List.mem_append_left _ (List.mem_append_left _ (List.mem_append_right _ h)))))))))
theorem inJx4a65c : ∀ w ∈ wsJx4a65c0, w ∈ lw_tbl := fun w h => wsL_law_in w (inlJx4a65c w h)
theorem inJ7 : ∀ w ∈ wsJ70, w ∈ lw_tbl := by decide +kernel
theorem inJx5ef63 : ∀ w ∈ wsJx5ef630, w ∈ lw_tbl := by decide +kernel
theorem inJxbd725 : ∀ w ∈ wsJxbd7250, w ∈ lw_tbl := by decide +kernel
theorem inJ15 : ∀ w ∈ wsJ150, w ∈ lw_tbl := by decide +kernel
theorem inJxf0a74 : ∀ w ∈ wsJxf0a740, w ∈ lw_tbl := by decide +kernel
theorem inJxa66e6 : ∀ w ∈ wsJxa66e60, w ∈ lw_tbl := by decide +kernel
theorem inJ8 : ∀ w ∈ wsJ80, w ∈ lw_tbl := by decide +kernel
theorem inJ3 : ∀ w ∈ wsJ30, w ∈ lw_tbl := by decide +kernel
end
section
theorem dX0_init_0 : decode cX0_init 0 = .ok (.aload_n 0, 1) := by decide +kernel
theorem dX0_init_1 : decode cX0_init 1 = .ok (.invokespecial 3, 3) := by decide +kernel
theorem dX0_init_4 : decode cX0_init 4 = .ok (.aload_n 0, 1) := by decide +kernel
theorem dX0_init_5 : decode cX0_init 5 = .ok (.iconst 0, 1) := by decide +kernel
theorem dX0_init_6 : decode cX0_init 6 = .ok (.putfield 9, 3) := by decide +kernel
theorem dX0_init_9 : decode cX0_init 9 = .ok (.aload_n 0, 1) := by decide +kernel
theorem dX0_init_10 : decode cX0_init 10 = .ok (.iconst (-1), 1) := by decide +kernel
theorem dX0_init_11 : decode cX0_init 11 = .ok (.putfield 15, 3) := by decide +kernel
theorem dX0_init_14 : decode cX0_init 14 = .ok (.return_, 1) := by decide +kernel
theorem dX0_become_0 : decode cX0_become 0 = .ok (.aload_n 0, 1) := by decide +kernel
theorem dX0_become_1 : decode cX0_become 1 = .ok (.iload_n 1, 1) := by decide +kernel
theorem dX0_become_2 : decode cX0_become 2 = .ok (.putfield 9, 3) := by decide +kernel
theorem dX0_become_5 : decode cX0_become 5 = .ok (.aload_n 0, 1) := by decide +kernel
theorem dX0_become_6 : decode cX0_become 6 = .ok (.iload_n 2, 1) := by decide +kernel
theorem dX0_become_7 : decode cX0_become 7 = .ok (.putfield 15, 3) := by decide +kernel
theorem dX0_become_10 : decode cX0_become 10 = .ok (.return_, 1) := by decide +kernel
theorem dX0_include_0 : decode cX0_include 0 = .ok (.aload_n 0, 1) := by decide +kernel
theorem dX0_include_1 : decode cX0_include 1 = .ok (.getfield 9, 3) := by decide +kernel
theorem dX0_include_4 : decode cX0_include 4 = .ok (.iload_n 1, 1) := by decide +kernel
theorem dX0_include_5 : decode cX0_include 5 = .ok (.if_icmp .gt 15, 3) := by decide +kernel
theorem dX0_include_8 : decode cX0_include 8 = .ok (.iload_n 1, 1) := by decide +kernel
theorem dX0_include_9 : decode cX0_include 9 = .ok (.aload_n 0, 1) := by decide +kernel
theorem dX0_include_10 : decode cX0_include 10 = .ok (.getfield 15, 3) := by decide +kernel
theorem dX0_include_13 : decode cX0_include 13 = .ok (.if_icmp .gt 7, 3) := by decide +kernel
theorem dX0_include_16 : decode cX0_include 16 = .ok (.iconst 1, 1) := by decide +kernel
theorem dX0_include_17 : decode cX0_include 17 = .ok (.goto 4, 3) := by decide +kernel
theorem dX0_include_20 : decode cX0_include 20 = .ok (.iconst 0, 1) := by decide +kernel
theorem dX0_include_21 : decode cX0_include 21 = .ok (.ireturn, 1) := by decide +kernel
set_option maxRecDepth 20000 in
theorem ggX1_init_X0_init : GoodIn wsX1_init wsX0_init := goodIn_r _ [11, 12, 2, 3, 13, 14, 15, 16] (by decide +kernel) (by decide +kernel)
set_option maxRecDepth 20000 in
theorem gX1_init_X0_init_n9 : GoodIn wsX1_init (wsX0_init) := ggX1_init_X0_init
theorem dX1_init_0 : decode cX1_init 0 = .ok (.aload_n 0, 1) := by decide +kernel
theorem dX1_init_1 : decode cX1_init 1 = .ok (.invokespecial 1, 3) := by decide +kernel
theorem dX1_init_4 : decode cX1_init 4 = .ok (.aload_n 0, 1) := by decide +kernel
theorem dX1_init_5 : decode cX1_init 5 = .ok (.new 7, 3) := by decide +kernel
theorem dX1_init_8 : decode cX1_init 8 = .ok (.dup, 1) := by decide +kernel
theorem dX1_init_9 : decode cX1_init 9 = .ok (.invokespecial 9, 3) := by decide +kernel
theorem dX1_init_12 : decode cX1_init 12 = .ok (.putfield 10, 3) := by decide +kernel
theorem dX1_init_15 : decode cX1_init 15 = .ok (.aload_n 0, 1) := by decide +kernel
theorem dX1_init_16 : decode cX1_init 16 = .ok (.iload_n 1, 1) := by decide +kernel
theorem dX1_init_17 : decode cX1_init 17 = .ok (.putfield 16, 3) := by decide +kernel
theorem dX1_init_20 : decode cX1_init 20 = .ok (.aload_n 0, 1) := by decide +kernel
theorem dX1_init_21 : decode cX1_init 21 = .ok (.iload_n 2, 1) := by decide +kernel
theorem dX1_init_22 : decode cX1_init 22 = .ok (.putfield 20, 3) := by decide +kernel
theorem dX1_init_25 : decode cX1_init 25 = .ok (.return_, 1) := by decide +kernel
theorem dX2_init_0 : decode cX2_init 0 = .ok (.aload_n 0, 1) := by decide +kernel
theorem dX2_init_1 : decode cX2_init 1 = .ok (.invokespecial 1, 3) := by decide +kernel
theorem dX2_init_4 : decode cX2_init 4 = .ok (.aload_n 0, 1) := by decide +kernel
theorem dX2_init_5 : decode cX2_init 5 = .ok (.iload_n 1, 1) := by decide +kernel
theorem dX2_init_6 : decode cX2_init 6 = .ok (.putfield 7, 3) := by decide +kernel
theorem dX2_init_9 : decode cX2_init 9 = .ok (.aload_n 0, 1) := by decide +kernel
theorem dX2_init_10 : decode cX2_init 10 = .ok (.aload_n 2, 1) := by decide +kernel
theorem dX2_init_11 : decode cX2_init 11 = .ok (.putfield 13, 3) := by decide +kernel
theorem dX2_init_14 : decode cX2_init 14 = .ok (.aload_n 0, 1) := by decide +kernel
theorem dX2_init_15 : decode cX2_init 15 = .ok (.iload_n 3, 1) := by decide +kernel
theorem dX2_init_16 : decode cX2_init 16 = .ok (.putfield 17, 3) := by decide +kernel
theorem dX2_init_19 : decode cX2_init 19 = .ok (.aload_n 0, 1) := by decide +kernel
theorem dX2_init_20 : decode cX2_init 20 = .ok (.iload 4, 2) := by decide +kernel
theorem dX2_init_22 : decode cX2_init 22 = .ok (.putfield 20, 3) := by decide +kernel
theorem dX2_init_25 : decode cX2_init 25 = .ok (.return_, 1) := by decide +kernel
theorem dX3_init_0 : decode cX3_init 0 = .ok (.aload_n 0, 1) := by decide +kernel
theorem dX3_init_1 : decode cX3_init 1 = .ok (.invokespecial 3, 3) := by decide +kernel
theorem dX3_init_4 : decode cX3_init 4 = .ok (.aload_n 0, 1) := by decide +kernel
theorem dX3_init_5 : decode cX3_init 5 = .ok (.iconst 0, 1) := by decide +kernel
theorem dX3_init_6 : decode cX3_init 6 = .ok (.putfield 9, 3) := by decide +kernel
theorem dX3_init_9 : decode cX3_init 9 = .ok (.aload_n 0, 1) := by decide +kernel
theorem dX3_init_10 : decode cX3_init 10 = .ok (.iload_n 1, 1) := by decide +kernel
theorem dX3_init_11 : decode cX3_init 11 = .ok (.putfield 15, 3) := by decide +kernel
theorem dX3_init_14 : decode cX3_init 14 = .ok (.aload_n 0, 1) := by decide +kernel
theorem dX3_init_15 : decode cX3_init 15 = .ok (.aload_n 2, 1) := by decide +kernel
theorem dX3_init_16 : decode cX3_init 16 = .ok (.putfield 18, 3) := by decide +kernel
theorem dX3_init_19 : decode cX3_init 19 = .ok (.aload_n 0, 1) := by decide +kernel
theorem dX3_init_20 : decode cX3_init 20 = .ok (.iload_n 3, 1) := by decide +kernel
theorem dX3_init_21 : decode cX3_init 21 = .ok (.putfield 22, 3) := by decide +kernel
theorem dX3_init_24 : decode cX3_init 24 = .ok (.aload_n 0, 1) := by decide +kernel
theorem dX3_init_25 : decode cX3_init 25 = .ok (.iload 4, 2) := by decide +kernel
theorem dX3_init_27 : decode cX3_init 27 = .ok (.putfield 25, 3) := by decide +kernel
theorem dX3_init_30 : decode cX3_init 30 = .ok (.return_, 1) := by decide +kernel
theorem dX3_isOf_0 : decode cX3_isOf 0 = .ok (.aload_n 0, 1) := by decide +kernel
theorem dX3_isOf_1 : decode cX3_isOf 1 = .ok (.getfield 18, 3) := by decide +kernel
theorem dX3_isOf_4 : decode cX3_isOf 4 = .ok (.getfield 28, 3) := by decide +kernel
theorem dX3_isOf_7 : decode cX3_isOf 7 = .ok (.iload_n 1, 1) := by decide +kernel
theorem dX3_isOf_8 : decode cX3_isOf 8 = .ok (.if_icmp .ne 15, 3) := by decide +kernel
theorem dX3_isOf_11 : decode cX3_isOf 11 = .ok (.aload_n 0, 1) := by decide +kernel
theorem dX3_isOf_12 : decode cX3_isOf 12 = .ok (.getfield 22, 3) := by decide +kernel
theorem dX3_isOf_15 : decode cX3_isOf 15 = .ok (.iload_n 2, 1) := by decide +kernel
theorem dX3_isOf_16 : decode cX3_isOf 16 = .ok (.if_icmp .ne 7, 3) := by decide +kernel
theorem dX3_isOf_19 : decode cX3_isOf 19 = .ok (.iconst 1, 1) := by decide +kernel
theorem dX3_isOf_20 : decode cX3_isOf 20 = .ok (.goto 4, 3) := by decide +kernel
theorem dX3_isOf_23 : decode cX3_isOf 23 = .ok (.iconst 0, 1) := by decide +kernel
theorem dX3_isOf_24 : decode cX3_isOf 24 = .ok (.ireturn, 1) := by decide +kernel
theorem dX3_isFoodInStation_0 : decode cX3_isFoodInStation 0 = .ok (.aload_n 0, 1) := by decide +kernel
theorem dX3_isFoodInStation_1 : decode cX3_isFoodInStation 1 = .ok (.getfield 18, 3) := by decide +kernel
theorem dX3_isFoodInStation_4 : decode cX3_isFoodInStation 4 = .ok (.getfield 28, 3) := by decide +kernel
theorem dX3_isFoodInStation_7 : decode cX3_isFoodInStation 7 = .ok (.ifCond .ne 15, 3) := by decide +kernel
theorem dX3_isFoodInStation_10 : decode cX3_isFoodInStation 10 = .ok (.aload_n 0, 1) := by decide +kernel
theorem dX3_isFoodInStation_11 : decode cX3_isFoodInStation 11 = .ok (.getfield 22, 3) := by decide +kernel
theorem dX3_isFoodInStation_14 : decode cX3_isFoodInStation 14 = .ok (.iconst 3, 1) := by decide +kernel
theorem dX3_isFoodInStation_15 : decode cX3_isFoodInStation 15 = .ok (.if_icmp .ge 7, 3) := by decide +kernel
theorem dX3_isFoodInStation_18 : decode cX3_isFoodInStation 18 = .ok (.iconst 1, 1) := by decide +kernel
theorem dX3_isFoodInStation_19 : decode cX3_isFoodInStation 19 = .ok (.goto 4, 3) := by decide +kernel
theorem dX3_isFoodInStation_22 : decode cX3_isFoodInStation 22 = .ok (.iconst 0, 1) := by decide +kernel
theorem dX3_isFoodInStation_23 : decode cX3_isFoodInStation 23 = .ok (.ireturn, 1) := by decide +kernel
theorem dX4_init_0 : decode cX4_init 0 = .ok (.aload_n 0, 1) := by decide +kernel
theorem dX4_init_1 : decode cX4_init 1 = .ok (.invokespecial 1, 3) := by decide +kernel
theorem dX4_init_4 : decode cX4_init 4 = .ok (.aload_n 0, 1) := by decide +kernel
theorem dX4_init_5 : decode cX4_init 5 = .ok (.iconst 0, 1) := by decide +kernel
theorem dX4_init_6 : decode cX4_init 6 = .ok (.putfield 7, 3) := by decide +kernel
theorem dX4_init_9 : decode cX4_init 9 = .ok (.aload_n 0, 1) := by decide +kernel
theorem dX4_init_10 : decode cX4_init 10 = .ok (.iconst 0, 1) := by decide +kernel
theorem dX4_init_11 : decode cX4_init 11 = .ok (.putfield 13, 3) := by decide +kernel
theorem dX4_init_14 : decode cX4_init 14 = .ok (.aload_n 0, 1) := by decide +kernel
theorem dX4_init_15 : decode cX4_init 15 = .ok (.iconst 0, 1) := by decide +kernel
theorem dX4_init_16 : decode cX4_init 16 = .ok (.putfield 16, 3) := by decide +kernel
theorem dX4_init_19 : decode cX4_init 19 = .ok (.aload_n 0, 1) := by decide +kernel
theorem dX4_init_20 : decode cX4_init 20 = .ok (.iload_n 1, 1) := by decide +kernel
theorem dX4_init_21 : decode cX4_init 21 = .ok (.putfield 19, 3) := by decide +kernel
theorem dX4_init_24 : decode cX4_init 24 = .ok (.return_, 1) := by decide +kernel
theorem dX4_need_0 : decode cX4_need 0 = .ok (.aload_n 0, 1) := by decide +kernel
theorem dX4_need_1 : decode cX4_need 1 = .ok (.getfield 7, 3) := by decide +kernel
theorem dX4_need_4 : decode cX4_need 4 = .ok (.aload_n 0, 1) := by decide +kernel
theorem dX4_need_5 : decode cX4_need 5 = .ok (.getfield 19, 3) := by decide +kernel
theorem dX4_need_8 : decode cX4_need 8 = .ok (.imul, 1) := by decide +kernel
theorem dX4_need_9 : decode cX4_need 9 = .ok (.ireturn, 1) := by decide +kernel
set_option maxRecDepth 20000 in
theorem ggX5_init_Jx4a65c_init_da8c8 : GoodIn wsX5_init wsJx4a65c_init_da8c8 := goodIn_r _ [25, 26, 27, 28, 29, 30, 31, 32, 33, 34, 35, 36, 37, 2, 3, 112, 113, 114] (by decide +kernel) (by decide +kernel)
set_option maxRecDepth 20000 in
theorem gX5_init_Jx4a65c_init_da8c8 : GoodIn wsX5_init (wsJx4a65c_init_da8c8) := ggX5_init_Jx4a65c_init_da8c8
set_option maxRecDepth 20000 in
theorem ggX5_init_X0_init : GoodIn wsX5_init wsX0_init := goodIn_r _ [39, 40, 2, 3, 41, 42, 122, 123] (by decide +kernel) (by decide +kernel)
set_option maxRecDepth 20000 in
theorem gX5_init_X0_init_n27 : GoodIn wsX5_init (wsX0_init) := ggX5_init_X0_init
set_option maxRecDepth 20000 in
theorem ggX5_init_X1_init : GoodIn wsX5_init wsX1_init := goodIn_r _ [45, 46, 2, 3, 47, 12, 13, 48, 49, 50, 38, 39, 40, 41, 42, 122, 123, 124, 125, 126] (by decide +kernel) (by decide +kernel)
set_option maxRecDepth 20000 in
theorem gX5_init_X1_init : GoodIn wsX5_init (wsX1_init) := ggX5_init_X1_init
set_option maxRecDepth 20000 in
theorem ggX5_init_Jx4a65c_add_9ea2d : GoodIn wsX5_init wsJx4a65c_add_9ea2d := goodIn_r _ [54, 55, 56, 27, 57, 58, 59, 60, 6, 61, 62, 63, 64, 65, 66, 67, 68, 69, 26, 70, 71, 72, 73, 74, 75, 76, 77, 78, 79, 80, 81, 82, 83, 84, 85, 86, 87, 88, 89, 90, 91, 92, 93, 94, 95, 96, 97, 98, 99, 100, 101, 102, 103, 112, 113, 114] (by decide +kernel) (by decide +kernel)
set_option maxRecDepth 20000 in
theorem gX5_init_Jx4a65c_add_9ea2d : GoodIn wsX5_init (wsV RX5 44 RJx4a65c yJx4a65c_add_9ea2d wsJx4a65c_add_9ea2d) := goodIn_app (goodIn_of _ (by decide +kernel)) ggX5_init_Jx4a65c_add_9ea2d
set_option maxRecDepth 20000 in
theorem ggX5_init_X4_init : GoodIn wsX5_init wsX4_init := goodIn_r _ [106, 107, 2, 3, 108, 109, 110, 111, 127, 128, 129, 130] (by decide +kernel) (by decide +kernel)
set_option maxRecDepth 20000 in
theorem gX5_init_X4_init : GoodIn wsX5_init (wsX4_init) := ggX5_init_X4_init
theorem dX5_init_0 : decode cX5_init 0 = .ok (.aload_n 0, 1) := by decide +kernel
theorem dX5_init_1 : decode cX5_init 1 = .ok (.invokespecial 1, 3) := by decide +kernel
theorem dX5_init_4 : decode cX5_init 4 = .ok (.aload_n 0, 1) := by decide +kernel
theorem dX5_init_5 : decode cX5_init 5 = .ok (.new 7, 3) := by decide +kernel
theorem dX5_init_8 : decode cX5_init 8 = .ok (.dup, 1) := by decide +kernel
theorem dX5_init_9 : decode cX5_init 9 = .ok (.invokespecial 9, 3) := by decide +kernel
theorem dX5_init_12 : decode cX5_init 12 = .ok (.putfield 10, 3) := by decide +kernel
theorem dX5_init_15 : decode cX5_init 15 = .ok (.aload_n 0, 1) := by decide +kernel
theorem dX5_init_16 : decode cX5_init 16 = .ok (.new 7, 3) := by decide +kernel
theorem dX5_init_19 : decode cX5_init 19 = .ok (.dup, 1) := by decide +kernel
theorem dX5_init_20 : decode cX5_init 20 = .ok (.invokespecial 9, 3) := by decide +kernel
theorem dX5_init_23 : decode cX5_init 23 = .ok (.putfield 16, 3) := by decide +kernel
theorem dX5_init_26 : decode cX5_init 26 = .ok (.aload_n 0, 1) := by decide +kernel
theorem dX5_init_27 : decode cX5_init 27 = .ok (.new 7, 3) := by decide +kernel
theorem dX5_init_30 : decode cX5_init 30 = .ok (.dup, 1) := by decide +kernel
theorem dX5_init_31 : decode cX5_init 31 = .ok (.invokespecial 9, 3) := by decide +kernel
theorem dX5_init_34 : decode cX5_init 34 = .ok (.putfield 19, 3) := by decide +kernel
theorem dX5_init_37 : decode cX5_init 37 = .ok (.aload_n 0, 1) := by decide +kernel
theorem dX5_init_38 : decode cX5_init 38 = .ok (.new 7, 3) := by decide +kernel
theorem dX5_init_41 : decode cX5_init 41 = .ok (.dup, 1) := by decide +kernel
theorem dX5_init_42 : decode cX5_init 42 = .ok (.invokespecial 9, 3) := by decide +kernel
theorem dX5_init_45 : decode cX5_init 45 = .ok (.putfield 22, 3) := by decide +kernel
theorem dX5_init_48 : decode cX5_init 48 = .ok (.aload_n 0, 1) := by decide +kernel
theorem dX5_init_49 : decode cX5_init 49 = .ok (.new 25, 3) := by decide +kernel
theorem dX5_init_52 : decode cX5_init 52 = .ok (.dup, 1) := by decide +kernel
theorem dX5_init_53 : decode cX5_init 53 = .ok (.invokespecial 27, 3) := by decide +kernel
theorem dX5_init_56 : decode cX5_init 56 = .ok (.putfield 28, 3) := by decide +kernel
theorem dX5_init_59 : decode cX5_init 59 = .ok (.aload_n 0, 1) := by decide +kernel
theorem dX5_init_60 : decode cX5_init 60 = .ok (.iconst 0, 1) := by decide +kernel
theorem dX5_init_61 : decode cX5_init 61 = .ok (.putfield 32, 3) := by decide +kernel
theorem dX5_init_64 : decode cX5_init 64 = .ok (.aload_n 0, 1) := by decide +kernel
theorem dX5_init_65 : decode cX5_init 65 = .ok (.iconst 0, 1) := by decide +kernel
theorem dX5_init_66 : decode cX5_init 66 = .ok (.putfield 36, 3) := by decide +kernel
theorem dX5_init_69 : decode cX5_init 69 = .ok (.iconst 0, 1) := by decide +kernel
theorem dX5_init_70 : decode cX5_init 70 = .ok (.istore_n 1, 1) := by decide +kernel
theorem dX5_init_71 : decode cX5_init 71 = .ok (.iload_n 1, 1) := by decide +kernel
theorem dX5_init_72 : decode cX5_init 72 = .ok (.iconst 4, 1) := by decide +kernel
theorem dX5_init_73 : decode cX5_init 73 = .ok (.if_icmp .ge 34, 3) := by decide +kernel
theorem dX5_init_76 : decode cX5_init 76 = .ok (.aload_n 0, 1) := by decide +kernel
theorem dX5_init_77 : decode cX5_init 77 = .ok (.getfield 10, 3) := by decide +kernel
theorem dX5_init_80 : decode cX5_init 80 = .ok (.new 39, 3) := by decide +kernel
theorem dX5_init_83 : decode cX5_init 83 = .ok (.dup, 1) := by decide +kernel
theorem dX5_init_84 : decode cX5_init 84 = .ok (.iload_n 1, 1) := by decide +kernel
theorem dX5_init_85 : decode cX5_init 85 = .ok (.iload_n 1, 1) := by decide +kernel
theorem dX5_init_86 : decode cX5_init 86 = .ok (.ifCond .ne 7, 3) := by decide +kernel
theorem dX5_init_89 : decode cX5_init 89 = .ok (.iconst 1, 1) := by decide +kernel
theorem dX5_init_90 : decode cX5_init 90 = .ok (.goto 4, 3) := by decide +kernel
theorem dX5_init_93 : decode cX5_init 93 = .ok (.iconst 0, 1) := by decide +kernel
theorem dX5_init_94 : decode cX5_init 94 = .ok (.invokespecial 41, 3) := by decide +kernel
theorem dX5_init_97 : decode cX5_init 97 = .ok (.invokevirtual 44, 3) := by decide +kernel
theorem dX5_init_100 : decode cX5_init 100 = .ok (.pop, 1) := by decide +kernel
theorem dX5_init_101 : decode cX5_init 101 = .ok (.iinc 1 1, 3) := by decide +kernel
theorem dX5_init_104 : decode cX5_init 104 = .ok (.goto (-33), 3) := by decide +kernel
theorem dX5_init_107 : decode cX5_init 107 = .ok (.iconst 0, 1) := by decide +kernel
theorem dX5_init_108 : decode cX5_init 108 = .ok (.istore_n 1, 1) := by decide +kernel
theorem dX5_init_109 : decode cX5_init 109 = .ok (.iload_n 1, 1) := by decide +kernel
theorem dX5_init_110 : decode cX5_init 110 = .ok (.iconst 3, 1) := by decide +kernel
theorem dX5_init_111 : decode cX5_init 111 = .ok (.if_icmp .ge 27, 3) := by decide +kernel
theorem dX5_init_114 : decode cX5_init 114 = .ok (.aload_n 0, 1) := by decide +kernel
theorem dX5_init_115 : decode cX5_init 115 = .ok (.getfield 19, 3) := by decide +kernel
theorem dX5_init_118 : decode cX5_init 118 = .ok (.new 48, 3) := by decide +kernel
theorem dX5_init_121 : decode cX5_init 121 = .ok (.dup, 1) := by decide +kernel
theorem dX5_init_122 : decode cX5_init 122 = .ok (.iconst 2, 1) := by decide +kernel
theorem dX5_init_123 : decode cX5_init 123 = .ok (.iload_n 1, 1) := by decide +kernel
theorem dX5_init_124 : decode cX5_init 124 = .ok (.iadd, 1) := by decide +kernel
theorem dX5_init_125 : decode cX5_init 125 = .ok (.invokespecial 50, 3) := by decide +kernel
theorem dX5_init_128 : decode cX5_init 128 = .ok (.invokevirtual 44, 3) := by decide +kernel
theorem dX5_init_131 : decode cX5_init 131 = .ok (.pop, 1) := by decide +kernel
theorem dX5_init_132 : decode cX5_init 132 = .ok (.iinc 1 1, 3) := by decide +kernel
theorem dX5_init_135 : decode cX5_init 135 = .ok (.goto (-26), 3) := by decide +kernel
theorem dX5_init_138 : decode cX5_init 138 = .ok (.return_, 1) := by decide +kernel
set_option maxRecDepth 20000 in
theorem ggX5_setCut_X5_requireDepot : GoodIn wsX5_setCut wsX5_requireDepot := goodIn_ca (goodIn_r _ [9, 1, 10, 11, 12, 13, 14, 15, 16, 17, 8, 18, 19, 20, 57, 58, 59, 60, 61, 62, 63, 67, 68, 69] (by decide +kernel) (by decide +kernel)) (goodIn_sub (fun _ h => List.mem_cons_of_mem _ (List.mem_append_left _ (List.mem_append_right _ h))) (by decide +kernel))
set_option maxRecDepth 20000 in
theorem gX5_setCut_X5_requireDepot : GoodIn wsX5_setCut (wsV RX5 53 RX5 yX5_requireDepot wsX5_requireDepot) := goodIn_app (goodIn_of _ (by decide +kernel)) ggX5_setCut_X5_requireDepot
set_option maxRecDepth 20000 in
theorem ggX5_setCut_X5_requireDays : GoodIn wsX5_setCut wsX5_requireDays := goodIn_ca (goodIn_r _ [23, 24, 25, 8, 26, 27, 28] (by decide +kernel) (by decide +kernel)) (goodIn_sub (fun _ h => List.mem_cons_of_mem _ (List.mem_append_right _ h)) (by decide +kernel))
set_option maxRecDepth 20000 in
theorem gX5_setCut_X5_requireDays : GoodIn wsX5_setCut (va_wsS RX5 56 yX5_requireDays wsX5_requireDays) := goodIn_app (goodIn_of _ (by decide +kernel)) ggX5_setCut_X5_requireDays
set_option maxRecDepth 20000 in
theorem ggX5_setCut_Jx4a65c_get_915e3 : GoodIn wsX5_setCut wsJx4a65c_get_915e3 := goodIn_r _ [32, 15, 33, 34, 35, 36, 37, 38, 39, 40, 41, 42, 43, 13, 44, 45, 67, 68, 69] (by decide +kernel) (by decide +kernel)
set_option maxRecDepth 20000 in
theorem gX5_setCut_Jx4a65c_get_915e3 : GoodIn wsX5_setCut (wsV RX5 60 RJx4a65c yJx4a65c_get_915e3 wsJx4a65c_get_915e3) := goodIn_app (goodIn_of _ (by decide +kernel)) ggX5_setCut_Jx4a65c_get_915e3
set_option maxRecDepth 20000 in
theorem ggX5_setCut_X0_become : GoodIn wsX5_setCut wsX0_become := goodIn_r _ [50, 51, 52, 70, 71] (by decide +kernel) (by decide +kernel)
set_option maxRecDepth 20000 in
theorem gX5_setCut_X0_become : GoodIn wsX5_setCut (wsV RX5 67 RX0 yX0_become wsX0_become) := goodIn_app (goodIn_of _ (by decide +kernel)) ggX5_setCut_X0_become
set_option maxRecDepth 20000 in
theorem ggX5_setCut_X0_include : GoodIn wsX5_setCut wsX0_include := goodIn_r _ [56, 51, 52, 70, 71] (by decide +kernel) (by decide +kernel)
set_option maxRecDepth 20000 in
theorem gX5_setCut_X0_include : GoodIn wsX5_setCut (wsV RX5 70 RX0 yX0_include wsX0_include) := goodIn_app (goodIn_of _ (by decide +kernel)) ggX5_setCut_X0_include
theorem dX5_setCut_0 : decode cX5_setCut 0 = .ok (.aload_n 0, 1) := by decide +kernel
theorem dX5_setCut_1 : decode cX5_setCut 1 = .ok (.iload_n 1, 1) := by decide +kernel
theorem dX5_setCut_2 : decode cX5_setCut 2 = .ok (.invokevirtual 53, 3) := by decide +kernel
theorem dX5_setCut_5 : decode cX5_setCut 5 = .ok (.iload_n 2, 1) := by decide +kernel
theorem dX5_setCut_6 : decode cX5_setCut 6 = .ok (.iload_n 3, 1) := by decide +kernel
theorem dX5_setCut_7 : decode cX5_setCut 7 = .ok (.invokestatic 56, 3) := by decide +kernel
theorem dX5_setCut_10 : decode cX5_setCut 10 = .ok (.aload_n 0, 1) := by decide +kernel
theorem dX5_setCut_11 : decode cX5_setCut 11 = .ok (.getfield 10, 3) := by decide +kernel
theorem dX5_setCut_14 : decode cX5_setCut 14 = .ok (.iload_n 1, 1) := by decide +kernel
theorem dX5_setCut_15 : decode cX5_setCut 15 = .ok (.invokevirtual 60, 3) := by decide +kernel
theorem dX5_setCut_18 : decode cX5_setCut 18 = .ok (.checkcast 39, 3) := by decide +kernel
theorem dX5_setCut_21 : decode cX5_setCut 21 = .ok (.getfield 64, 3) := by decide +kernel
theorem dX5_setCut_24 : decode cX5_setCut 24 = .ok (.astore 4, 2) := by decide +kernel
theorem dX5_setCut_26 : decode cX5_setCut 26 = .ok (.aload 4, 2) := by decide +kernel
theorem dX5_setCut_28 : decode cX5_setCut 28 = .ok (.iload_n 2, 1) := by decide +kernel
theorem dX5_setCut_29 : decode cX5_setCut 29 = .ok (.iload_n 3, 1) := by decide +kernel
theorem dX5_setCut_30 : decode cX5_setCut 30 = .ok (.invokevirtual 67, 3) := by decide +kernel
theorem dX5_setCut_33 : decode cX5_setCut 33 = .ok (.aload 4, 2) := by decide +kernel
theorem dX5_setCut_35 : decode cX5_setCut 35 = .ok (.aload_n 0, 1) := by decide +kernel
theorem dX5_setCut_36 : decode cX5_setCut 36 = .ok (.getfield 32, 3) := by decide +kernel
theorem dX5_setCut_39 : decode cX5_setCut 39 = .ok (.invokevirtual 70, 3) := by decide +kernel
theorem dX5_setCut_42 : decode cX5_setCut 42 = .ok (.ireturn, 1) := by decide +kernel
set_option maxRecDepth 20000 in
theorem ggX5_setWarm_X5_requireDepot : GoodIn wsX5_setWarm wsX5_requireDepot := goodIn_ca (goodIn_r _ [8, 1, 9, 10, 11, 12, 13, 14, 15, 16, 7, 17, 18, 19, 37, 38, 39, 40, 41, 42, 43, 47, 48, 49] (by decide +kernel) (by decide +kernel)) (goodIn_sub (fun _ h => List.mem_cons_of_mem _ (List.mem_append_right _ h)) (by decide +kernel))
set_option maxRecDepth 20000 in
theorem gX5_setWarm_X5_requireDepot : GoodIn wsX5_setWarm (wsV RX5 53 RX5 yX5_requireDepot wsX5_requireDepot) := goodIn_app (goodIn_of _ (by decide +kernel)) ggX5_setWarm_X5_requireDepot
set_option maxRecDepth 20000 in
theorem ggX5_setWarm_Jx4a65c_get_915e3 : GoodIn wsX5_setWarm wsJx4a65c_get_915e3 := goodIn_r _ [23, 14, 24, 25, 26, 27, 28, 29, 30, 31, 32, 33, 34, 12, 35, 36, 47, 48, 49] (by decide +kernel) (by decide +kernel)
set_option maxRecDepth 20000 in
theorem gX5_setWarm_Jx4a65c_get_915e3 : GoodIn wsX5_setWarm (wsV RX5 60 RJx4a65c yJx4a65c_get_915e3 wsJx4a65c_get_915e3) := goodIn_app (goodIn_of _ (by decide +kernel)) ggX5_setWarm_Jx4a65c_get_915e3
theorem dX5_setWarm_0 : decode cX5_setWarm 0 = .ok (.aload_n 0, 1) := by decide +kernel
theorem dX5_setWarm_1 : decode cX5_setWarm 1 = .ok (.iload_n 1, 1) := by decide +kernel
theorem dX5_setWarm_2 : decode cX5_setWarm 2 = .ok (.invokevirtual 53, 3) := by decide +kernel
theorem dX5_setWarm_5 : decode cX5_setWarm 5 = .ok (.aload_n 0, 1) := by decide +kernel
theorem dX5_setWarm_6 : decode cX5_setWarm 6 = .ok (.getfield 10, 3) := by decide +kernel
theorem dX5_setWarm_9 : decode cX5_setWarm 9 = .ok (.iload_n 1, 1) := by decide +kernel
theorem dX5_setWarm_10 : decode cX5_setWarm 10 = .ok (.invokevirtual 60, 3) := by decide +kernel
theorem dX5_setWarm_13 : decode cX5_setWarm 13 = .ok (.checkcast 39, 3) := by decide +kernel
theorem dX5_setWarm_16 : decode cX5_setWarm 16 = .ok (.astore_n 3, 1) := by decide +kernel
theorem dX5_setWarm_17 : decode cX5_setWarm 17 = .ok (.aload_n 3, 1) := by decide +kernel
theorem dX5_setWarm_18 : decode cX5_setWarm 18 = .ok (.getfield 74, 3) := by decide +kernel
theorem dX5_setWarm_21 : decode cX5_setWarm 21 = .ok (.istore 4, 2) := by decide +kernel
theorem dX5_setWarm_23 : decode cX5_setWarm 23 = .ok (.aload_n 3, 1) := by decide +kernel
theorem dX5_setWarm_24 : decode cX5_setWarm 24 = .ok (.iload_n 2, 1) := by decide +kernel
theorem dX5_setWarm_25 : decode cX5_setWarm 25 = .ok (.putfield 74, 3) := by decide +kernel
theorem dX5_setWarm_28 : decode cX5_setWarm 28 = .ok (.iload 4, 2) := by decide +kernel
theorem dX5_setWarm_30 : decode cX5_setWarm 30 = .ok (.ireturn, 1) := by decide +kernel
set_option maxRecDepth 20000 in
theorem ggX5_setFrost_X5_requireDays : GoodIn wsX5_setFrost wsX5_requireDays := goodIn_ca (goodIn_r _ [6, 7, 8, 5, 9, 10, 11] (by decide +kernel) (by decide +kernel)) (goodIn_sub (fun _ h => List.mem_cons_of_mem _ (List.mem_append_right _ h)) (by decide +kernel))
set_option maxRecDepth 20000 in
theorem gX5_setFrost_X5_requireDays : GoodIn wsX5_setFrost (va_wsS RX5 56 yX5_requireDays wsX5_requireDays) := goodIn_app (goodIn_of _ (by decide +kernel)) ggX5_setFrost_X5_requireDays
set_option maxRecDepth 20000 in
theorem ggX5_setFrost_X0_become : GoodIn wsX5_setFrost wsX0_become := goodIn_r _ [16, 17, 18, 30, 31] (by decide +kernel) (by decide +kernel)
set_option maxRecDepth 20000 in
theorem gX5_setFrost_X0_become : GoodIn wsX5_setFrost (wsV RX5 67 RX0 yX0_become wsX0_become) := goodIn_app (goodIn_of _ (by decide +kernel)) ggX5_setFrost_X0_become
set_option maxRecDepth 20000 in
theorem ggX5_setFrost_X0_include : GoodIn wsX5_setFrost wsX0_include := goodIn_r _ [22, 17, 18, 30, 31] (by decide +kernel) (by decide +kernel)
set_option maxRecDepth 20000 in
theorem gX5_setFrost_X0_include : GoodIn wsX5_setFrost (wsV RX5 70 RX0 yX0_include wsX0_include) := goodIn_app (goodIn_of _ (by decide +kernel)) ggX5_setFrost_X0_include
theorem dX5_setFrost_0 : decode cX5_setFrost 0 = .ok (.iload_n 1, 1) := by decide +kernel
theorem dX5_setFrost_1 : decode cX5_setFrost 1 = .ok (.iload_n 2, 1) := by decide +kernel
theorem dX5_setFrost_2 : decode cX5_setFrost 2 = .ok (.invokestatic 56, 3) := by decide +kernel
theorem dX5_setFrost_5 : decode cX5_setFrost 5 = .ok (.aload_n 0, 1) := by decide +kernel
theorem dX5_setFrost_6 : decode cX5_setFrost 6 = .ok (.getfield 28, 3) := by decide +kernel
theorem dX5_setFrost_9 : decode cX5_setFrost 9 = .ok (.iload_n 1, 1) := by decide +kernel
theorem dX5_setFrost_10 : decode cX5_setFrost 10 = .ok (.iload_n 2, 1) := by decide +kernel
theorem dX5_setFrost_11 : decode cX5_setFrost 11 = .ok (.invokevirtual 67, 3) := by decide +kernel
theorem dX5_setFrost_14 : decode cX5_setFrost 14 = .ok (.aload_n 0, 1) := by decide +kernel
theorem dX5_setFrost_15 : decode cX5_setFrost 15 = .ok (.getfield 28, 3) := by decide +kernel
theorem dX5_setFrost_18 : decode cX5_setFrost 18 = .ok (.aload_n 0, 1) := by decide +kernel
theorem dX5_setFrost_19 : decode cX5_setFrost 19 = .ok (.getfield 32, 3) := by decide +kernel
theorem dX5_setFrost_22 : decode cX5_setFrost 22 = .ok (.invokevirtual 70, 3) := by decide +kernel
theorem dX5_setFrost_25 : decode cX5_setFrost 25 = .ok (.ireturn, 1) := by decide +kernel
set_option maxRecDepth 20000 in
theorem ggX5_fill_X5_requireDepot : GoodIn wsX5_fill wsX5_requireDepot := goodIn_ca (goodIn_r _ [11, 5, 12, 13, 14, 15, 16, 17, 18, 19, 10, 20, 21, 22, 148, 149, 150, 151, 152, 153, 154, 155, 156, 157] (by decide +kernel) (by decide +kernel)) (goodIn_sub (fun _ h => List.mem_cons_of_mem _ (List.mem_append_left _ (List.mem_append_left _ (List.mem_append_right _ h)))) (by decide +kernel))
set_option maxRecDepth 20000 in
theorem gX5_fill_X5_requireDepot : GoodIn wsX5_fill (wsV RX5 53 RX5 yX5_requireDepot wsX5_requireDepot) := goodIn_app (goodIn_of _ (by decide +kernel)) ggX5_fill_X5_requireDepot
set_option maxRecDepth 20000 in
theorem ggX5_fill_X5_requireGood : GoodIn wsX5_fill wsX5_requireGood := goodIn_ca (goodIn_r _ [26, 18, 19, 10, 20, 21, 22] (by decide +kernel) (by decide +kernel)) (goodIn_sub (fun _ h => List.mem_cons_of_mem _ (List.mem_append_left _ (List.mem_append_left _ (List.mem_append_right _ h)))) (by decide +kernel))
set_option maxRecDepth 20000 in
theorem gX5_fill_X5_requireGood : GoodIn wsX5_fill (wsV RX5 78 RX5 yX5_requireGood wsX5_requireGood) := goodIn_app (goodIn_of _ (by decide +kernel)) ggX5_fill_X5_requireGood
set_option maxRecDepth 20000 in
theorem ggX5_fill_X5_requireRange : GoodIn wsX5_fill wsX5_requireRange := goodIn_ca (goodIn_r _ [29, 30, 31] (by decide +kernel) (by decide +kernel)) (goodIn_sub (fun _ h => List.mem_cons_of_mem _ (List.mem_append_left _ (List.mem_append_right _ h))) (by decide +kernel))
set_option maxRecDepth 20000 in
theorem gX5_fill_X5_requireRange : GoodIn wsX5_fill (va_wsS RX5 81 yX5_requireRange wsX5_requireRange) := goodIn_app (goodIn_of _ (by decide +kernel)) ggX5_fill_X5_requireRange
set_option maxRecDepth 20000 in
theorem ggX5_fill_X5_requireRoomForLot : GoodIn wsX5_fill wsX5_requireRoomForLot := goodIn_ca (goodIn_r _ [35, 36, 37, 4, 12, 13, 14, 15, 16, 17, 148, 149, 150, 151, 152, 153, 154, 155, 156, 157] (by decide +kernel) (by decide +kernel)) (goodIn_sub (fun _ h => List.mem_cons_of_mem _ (List.mem_append_right _ h)) (by decide +kernel))
set_option maxRecDepth 20000 in
theorem gX5_fill_X5_requireRoomForLot : GoodIn wsX5_fill (wsV RX5 85 RX5 yX5_requireRoomForLot wsX5_requireRoomForLot) := goodIn_app (goodIn_of _ (by decide +kernel)) ggX5_fill_X5_requireRoomForLot
set_option maxRecDepth 20000 in
theorem ggX5_fill_Jx4a65c_size_8abf5 : GoodIn wsX5_fill wsJx4a65c_size_8abf5 := goodIn_r _ [16, 17, 155, 156, 157] (by decide +kernel) (by decide +kernel)
set_option maxRecDepth 20000 in
theorem gX5_fill_Jx4a65c_size_8abf5 : GoodIn wsX5_fill (wsV RX5 90 RJx4a65c yJx4a65c_size_8abf5 wsJx4a65c_size_8abf5) := goodIn_app (goodIn_of _ (by decide +kernel)) ggX5_fill_Jx4a65c_size_8abf5
set_option maxRecDepth 20000 in
theorem ggX5_fill_Jx4a65c_get_915e3 : GoodIn wsX5_fill wsJx4a65c_get_915e3 := goodIn_r _ [41, 17, 42, 43, 44, 45, 46, 47, 48, 49, 50, 51, 52, 15, 53, 54, 155, 156, 157] (by decide +kernel) (by decide +kernel)
set_option maxRecDepth 20000 in
theorem gX5_fill_Jx4a65c_get_915e3 : GoodIn wsX5_fill (wsV RX5 60 RJx4a65c yJx4a65c_get_915e3 wsJx4a65c_get_915e3) := goodIn_app (goodIn_of _ (by decide +kernel)) ggX5_fill_Jx4a65c_get_915e3
set_option maxRecDepth 20000 in
theorem ggX5_fill_X3_init : GoodIn wsX5_fill wsX3_init := goodIn_r _ [57, 58, 59, 60, 61, 62, 63, 64, 65, 143, 144, 145, 146, 147] (by decide +kernel) (by decide +kernel)
set_option maxRecDepth 20000 in
theorem gX5_fill_X3_init : GoodIn wsX5_fill (wsX3_init) := ggX5_fill_X3_init
set_option maxRecDepth 20000 in
theorem ggX5_fill_X5_addLot : GoodIn wsX5_fill wsX5_addLot := goodIn_r _ [69, 4, 70, 71, 72, 73, 15, 74, 75, 76, 54, 17, 77, 78, 79, 80, 81, 82, 83, 84, 85, 86, 87, 88, 89, 90, 91, 92, 93, 94, 95, 96, 97, 98, 99, 100, 101, 102, 103, 104, 105, 106, 107, 108, 109, 110, 111, 112, 113, 114, 115, 116, 117, 118, 119, 120, 121, 122, 123, 124, 125, 126, 10, 127, 128, 129, 130, 131, 132, 133, 134, 12, 13, 14, 16, 135, 136, 137, 138, 59, 60, 139, 140, 141, 142, 148, 149, 150, 151, 152, 153, 154, 143, 144, 145, 146, 147, 155, 156, 157, 158, 159, 160, 161] (by decide +kernel) (by decide +kernel)
set_option maxRecDepth 20000 in
theorem gX5_fill_X5_addLot : GoodIn wsX5_fill (wsV RX5 97 RX5 yX5_addLot wsX5_addLot) := goodIn_app (goodIn_of _ (by decide +kernel)) ggX5_fill_X5_addLot
theorem dX5_fill_0 : decode cX5_fill 0 = .ok (.aload_n 0, 1) := by decide +kernel
theorem dX5_fill_1 : decode cX5_fill 1 = .ok (.iload_n 1, 1) := by decide +kernel
theorem dX5_fill_2 : decode cX5_fill 2 = .ok (.invokevirtual 53, 3) := by decide +kernel
theorem dX5_fill_5 : decode cX5_fill 5 = .ok (.aload_n 0, 1) := by decide +kernel
theorem dX5_fill_6 : decode cX5_fill 6 = .ok (.iload_n 2, 1) := by decide +kernel
theorem dX5_fill_7 : decode cX5_fill 7 = .ok (.invokevirtual 78, 3) := by decide +kernel
theorem dX5_fill_10 : decode cX5_fill 10 = .ok (.iload_n 3, 1) := by decide +kernel
theorem dX5_fill_11 : decode cX5_fill 11 = .ok (.iconst 1, 1) := by decide +kernel
theorem dX5_fill_12 : decode cX5_fill 12 = .ok (.sipush 1000, 3) := by decide +kernel
theorem dX5_fill_15 : decode cX5_fill 15 = .ok (.invokestatic 81, 3) := by decide +kernel
theorem dX5_fill_18 : decode cX5_fill 18 = .ok (.iload 4, 2) := by decide +kernel
theorem dX5_fill_20 : decode cX5_fill 20 = .ok (.iconst 0, 1) := by decide +kernel
theorem dX5_fill_21 : decode cX5_fill 21 = .ok (.sipush 1000, 3) := by decide +kernel
theorem dX5_fill_24 : decode cX5_fill 24 = .ok (.invokestatic 81, 3) := by decide +kernel
theorem dX5_fill_27 : decode cX5_fill 27 = .ok (.aload_n 0, 1) := by decide +kernel
theorem dX5_fill_28 : decode cX5_fill 28 = .ok (.invokevirtual 85, 3) := by decide +kernel
theorem dX5_fill_31 : decode cX5_fill 31 = .ok (.aload_n 0, 1) := by decide +kernel
theorem dX5_fill_32 : decode cX5_fill 32 = .ok (.new 88, 3) := by decide +kernel
theorem dX5_fill_35 : decode cX5_fill 35 = .ok (.dup, 1) := by decide +kernel
theorem dX5_fill_36 : decode cX5_fill 36 = .ok (.aload_n 0, 1) := by decide +kernel
theorem dX5_fill_37 : decode cX5_fill 37 = .ok (.getfield 16, 3) := by decide +kernel
theorem dX5_fill_40 : decode cX5_fill 40 = .ok (.invokevirtual 90, 3) := by decide +kernel
theorem dX5_fill_43 : decode cX5_fill 43 = .ok (.aload_n 0, 1) := by decide +kernel
theorem dX5_fill_44 : decode cX5_fill 44 = .ok (.getfield 10, 3) := by decide +kernel
theorem dX5_fill_47 : decode cX5_fill 47 = .ok (.iload_n 1, 1) := by decide +kernel
theorem dX5_fill_48 : decode cX5_fill 48 = .ok (.invokevirtual 60, 3) := by decide +kernel
theorem dX5_fill_51 : decode cX5_fill 51 = .ok (.checkcast 39, 3) := by decide +kernel
theorem dX5_fill_54 : decode cX5_fill 54 = .ok (.iload_n 2, 1) := by decide +kernel
theorem dX5_fill_55 : decode cX5_fill 55 = .ok (.iload 4, 2) := by decide +kernel
theorem dX5_fill_57 : decode cX5_fill 57 = .ok (.invokespecial 94, 3) := by decide +kernel
theorem dX5_fill_60 : decode cX5_fill 60 = .ok (.iload_n 3, 1) := by decide +kernel
theorem dX5_fill_61 : decode cX5_fill 61 = .ok (.iconst 0, 1) := by decide +kernel
theorem dX5_fill_62 : decode cX5_fill 62 = .ok (.invokevirtual 97, 3) := by decide +kernel
theorem dX5_fill_65 : decode cX5_fill 65 = .ok (.ireturn, 1) := by decide +kernel
set_option maxRecDepth 20000 in
theorem ggX5_move_X5_requireLot : GoodIn wsX5_move wsX5_requireLot := goodIn_ca (goodIn_r _ [20, 5, 21, 22, 23, 24, 25, 26, 27, 28, 19, 29, 30, 31, 160, 161, 162, 163, 164, 165, 166, 172, 173, 174] (by decide +kernel) (by decide +kernel)) (goodIn_sub (fun _ h => List.mem_cons_of_mem _ (List.mem_append_right _ h)) (by decide +kernel))
set_option maxRecDepth 20000 in
theorem gX5_move_X5_requireLot : GoodIn wsX5_move (wsV RX5 101 RX5 yX5_requireLot wsX5_requireLot) := goodIn_app (goodIn_of _ (by decide +kernel)) ggX5_move_X5_requireLot
set_option maxRecDepth 20000 in
theorem ggX5_move_X5_requireDepot : GoodIn wsX5_move wsX5_requireDepot := goodIn_ca (goodIn_r _ [35, 7, 21, 22, 23, 24, 25, 26, 27, 28, 19, 29, 30, 31, 160, 161, 162, 163, 164, 165, 166, 172, 173, 174] (by decide +kernel) (by decide +kernel)) (goodIn_sub (fun _ h => List.mem_cons_of_mem _ (List.mem_append_right _ h)) (by decide +kernel))
set_option maxRecDepth 20000 in
theorem gX5_move_X5_requireDepot : GoodIn wsX5_move (wsV RX5 53 RX5 yX5_requireDepot wsX5_requireDepot) := goodIn_app (goodIn_of _ (by decide +kernel)) ggX5_move_X5_requireDepot
set_option maxRecDepth 20000 in
theorem ggX5_move_Jx4a65c_get_915e3 : GoodIn wsX5_move wsJx4a65c_get_915e3 := goodIn_r _ [39, 26, 40, 41, 42, 43, 44, 45, 46, 47, 48, 49, 50, 24, 51, 52, 172, 173, 174] (by decide +kernel) (by decide +kernel)
set_option maxRecDepth 20000 in
theorem gX5_move_Jx4a65c_get_915e3 : GoodIn wsX5_move (wsV RX5 60 RJx4a65c yJx4a65c_get_915e3 wsJx4a65c_get_915e3) := goodIn_app (goodIn_of _ (by decide +kernel)) ggX5_move_Jx4a65c_get_915e3
set_option maxRecDepth 20000 in
theorem ggX5_move_X5_requireRange : GoodIn wsX5_move wsX5_requireRange := goodIn_ca (goodIn_r _ [55, 1, 2] (by decide +kernel) (by decide +kernel)) (goodIn_sub (fun _ h => List.mem_cons_of_mem _ (List.mem_append_left _ (List.mem_append_left _ (List.mem_append_right _ h)))) (by decide +kernel))
set_option maxRecDepth 20000 in
theorem gX5_move_X5_requireRange : GoodIn wsX5_move (va_wsS RX5 81 yX5_requireRange wsX5_requireRange) := goodIn_app (goodIn_of _ (by decide +kernel)) ggX5_move_X5_requireRange
set_option maxRecDepth 20000 in
theorem ggX5_move_X5_requireReached : GoodIn wsX5_move wsX5_requireReached := goodIn_ca (goodIn_r _ [59, 3, 4, 60, 61, 62, 63, 64, 65, 66, 67, 68, 175, 176, 177, 160, 161, 162, 163, 164, 165, 166, 178, 179] (by decide +kernel) (by decide +kernel)) (goodIn_sub (fun _ h => List.mem_cons_of_mem _ (List.mem_append_left _ (List.mem_append_right _ h))) (by decide +kernel))
set_option maxRecDepth 20000 in
theorem gX5_move_X5_requireReached : GoodIn wsX5_move (wsV RX5 115 RX5 yX5_requireReached wsX5_requireReached) := goodIn_app (goodIn_of _ (by decide +kernel)) ggX5_move_X5_requireReached
set_option maxRecDepth 20000 in
theorem ggX5_move_X5_requireRoomForLot : GoodIn wsX5_move wsX5_requireRoomForLot := goodIn_ca (goodIn_r _ [72, 3, 4, 5, 21, 22, 23, 24, 25, 26, 160, 161, 162, 163, 164, 165, 166, 172, 173, 174] (by decide +kernel) (by decide +kernel)) (goodIn_sub (fun _ h => List.mem_cons_of_mem _ (List.mem_append_left _ (List.mem_append_right _ h))) (by decide +kernel))
set_option maxRecDepth 20000 in
theorem gX5_move_X5_requireRoomForLot : GoodIn wsX5_move (wsV RX5 85 RX5 yX5_requireRoomForLot wsX5_requireRoomForLot) := goodIn_app (goodIn_of _ (by decide +kernel)) ggX5_move_X5_requireRoomForLot
set_option maxRecDepth 20000 in
theorem ggX5_move_X5_changeAmount : GoodIn wsX5_move wsX5_changeAmount := goodIn_r _ [76, 10, 77, 78, 79, 80, 81, 82, 21, 22, 23, 24, 25, 26, 83, 84, 85, 86, 87, 88, 89, 90, 91, 92, 93, 94, 95, 96, 97, 98, 52, 99, 100, 101, 102, 103, 104, 105, 106, 107, 108, 109, 110, 111, 112, 113, 114, 115, 116, 117, 118, 119, 120, 121, 122, 123, 124, 125, 126, 127, 128, 129, 130, 131, 132, 133, 134, 135, 136, 137, 138, 139, 140, 141, 142, 143, 144, 145, 167, 168, 169, 170, 171, 160, 161, 162, 163, 164, 165, 166, 180, 181, 182, 183, 172, 173, 174] (by decide +kernel) (by decide +kernel)
set_option maxRecDepth 20000 in
theorem gX5_move_X5_changeAmount : GoodIn wsX5_move (wsV RX5 127 RX5 yX5_changeAmount wsX5_changeAmount) := goodIn_app (goodIn_of _ (by decide +kernel)) ggX5_move_X5_changeAmount
set_option maxRecDepth 20000 in
theorem ggX5_move_Jx4a65c_size_8abf5 : GoodIn wsX5_move wsJx4a65c_size_8abf5 := goodIn_r _ [25, 26, 172, 173, 174] (by decide +kernel) (by decide +kernel)
set_option maxRecDepth 20000 in
theorem gX5_move_Jx4a65c_size_8abf5 : GoodIn wsX5_move (wsV RX5 90 RJx4a65c yJx4a65c_size_8abf5 wsJx4a65c_size_8abf5) := goodIn_app (goodIn_of _ (by decide +kernel)) ggX5_move_Jx4a65c_size_8abf5
set_option maxRecDepth 20000 in
theorem ggX5_move_X3_init : GoodIn wsX5_move wsX3_init := goodIn_r _ [148, 149, 87, 88, 150, 151, 152, 153, 154, 167, 168, 169, 170, 171] (by decide +kernel) (by decide +kernel)
set_option maxRecDepth 20000 in
theorem gX5_move_X3_init : GoodIn wsX5_move (wsX3_init) := ggX5_move_X3_init
set_option maxRecDepth 20000 in
theorem ggX5_move_X5_addLot : GoodIn wsX5_move wsX5_addLot := goodIn_r _ [158, 5, 159, 93, 94, 95, 24, 96, 97, 98, 52, 26, 99, 100, 101, 102, 103, 104, 105, 106, 107, 108, 109, 110, 111, 112, 113, 114, 115, 116, 117, 118, 119, 120, 121, 122, 123, 124, 125, 126, 127, 128, 129, 130, 131, 132, 133, 134, 135, 136, 137, 138, 139, 140, 141, 142, 143, 144, 145, 73, 74, 75, 19, 76, 10, 77, 78, 79, 80, 81, 82, 21, 22, 23, 25, 83, 84, 85, 86, 87, 88, 89, 90, 91, 92, 160, 161, 162, 163, 164, 165, 166, 167, 168, 169, 170, 171, 172, 173, 174, 180, 181, 182, 183] (by decide +kernel) (by decide +kernel)
set_option maxRecDepth 20000 in
theorem gX5_move_X5_addLot : GoodIn wsX5_move (wsV RX5 97 RX5 yX5_addLot wsX5_addLot) := goodIn_app (goodIn_of _ (by decide +kernel)) ggX5_move_X5_addLot
theorem dX5_move_0 : decode cX5_move 0 = .ok (.aload_n 0, 1) := by decide +kernel
theorem dX5_move_1 : decode cX5_move 1 = .ok (.iload_n 1, 1) := by decide +kernel
theorem dX5_move_2 : decode cX5_move 2 = .ok (.invokevirtual 101, 3) := by decide +kernel
theorem dX5_move_5 : decode cX5_move 5 = .ok (.aload_n 0, 1) := by decide +kernel
theorem dX5_move_6 : decode cX5_move 6 = .ok (.iload_n 2, 1) := by decide +kernel
theorem dX5_move_7 : decode cX5_move 7 = .ok (.invokevirtual 53, 3) := by decide +kernel
theorem dX5_move_10 : decode cX5_move 10 = .ok (.aload_n 0, 1) := by decide +kernel
theorem dX5_move_11 : decode cX5_move 11 = .ok (.getfield 16, 3) := by decide +kernel
theorem dX5_move_14 : decode cX5_move 14 = .ok (.iload_n 1, 1) := by decide +kernel
theorem dX5_move_15 : decode cX5_move 15 = .ok (.invokevirtual 60, 3) := by decide +kernel
theorem dX5_move_18 : decode cX5_move 18 = .ok (.checkcast 88, 3) := by decide +kernel
theorem dX5_move_21 : decode cX5_move 21 = .ok (.astore 4, 2) := by decide +kernel
theorem dX5_move_23 : decode cX5_move 23 = .ok (.aload_n 0, 1) := by decide +kernel
theorem dX5_move_24 : decode cX5_move 24 = .ok (.getfield 10, 3) := by decide +kernel
theorem dX5_move_27 : decode cX5_move 27 = .ok (.iload_n 2, 1) := by decide +kernel
theorem dX5_move_28 : decode cX5_move 28 = .ok (.invokevirtual 60, 3) := by decide +kernel
theorem dX5_move_31 : decode cX5_move 31 = .ok (.checkcast 39, 3) := by decide +kernel
theorem dX5_move_34 : decode cX5_move 34 = .ok (.astore 5, 2) := by decide +kernel
theorem dX5_move_36 : decode cX5_move 36 = .ok (.aload 4, 2) := by decide +kernel
theorem dX5_move_38 : decode cX5_move 38 = .ok (.getfield 104, 3) := by decide +kernel
theorem dX5_move_41 : decode cX5_move 41 = .ok (.aload 5, 2) := by decide +kernel
theorem dX5_move_43 : decode cX5_move 43 = .ok (.if_acmp .ne 13, 3) := by decide +kernel
theorem dX5_move_46 : decode cX5_move 46 = .ok (.new 108, 3) := by decide +kernel
theorem dX5_move_49 : decode cX5_move 49 = .ok (.dup, 1) := by decide +kernel
theorem dX5_move_50 : decode cX5_move 50 = .ok (.ldc 110, 2) := by decide +kernel
theorem dX5_move_52 : decode cX5_move 52 = .ok (.invokespecial 112, 3) := by decide +kernel
theorem dX5_move_55 : decode cX5_move 55 = .ok (.athrow, 1) := by decide +kernel
theorem dX5_move_56 : decode cX5_move 56 = .ok (.iload_n 3, 1) := by decide +kernel
theorem dX5_move_57 : decode cX5_move 57 = .ok (.iconst 1, 1) := by decide +kernel
theorem dX5_move_58 : decode cX5_move 58 = .ok (.sipush 1000, 3) := by decide +kernel
theorem dX5_move_61 : decode cX5_move 61 = .ok (.invokestatic 81, 3) := by decide +kernel
theorem dX5_move_64 : decode cX5_move 64 = .ok (.aload_n 0, 1) := by decide +kernel
theorem dX5_move_65 : decode cX5_move 65 = .ok (.aload 4, 2) := by decide +kernel
theorem dX5_move_67 : decode cX5_move 67 = .ok (.getfield 104, 3) := by decide +kernel
theorem dX5_move_70 : decode cX5_move 70 = .ok (.invokevirtual 115, 3) := by decide +kernel
theorem dX5_move_73 : decode cX5_move 73 = .ok (.aload_n 0, 1) := by decide +kernel
theorem dX5_move_74 : decode cX5_move 74 = .ok (.aload 5, 2) := by decide +kernel
theorem dX5_move_76 : decode cX5_move 76 = .ok (.invokevirtual 115, 3) := by decide +kernel
theorem dX5_move_79 : decode cX5_move 79 = .ok (.aload 4, 2) := by decide +kernel
theorem dX5_move_81 : decode cX5_move 81 = .ok (.getfield 119, 3) := by decide +kernel
theorem dX5_move_84 : decode cX5_move 84 = .ok (.iload_n 3, 1) := by decide +kernel
theorem dX5_move_85 : decode cX5_move 85 = .ok (.if_icmp .ge 13, 3) := by decide +kernel
theorem dX5_move_88 : decode cX5_move 88 = .ok (.new 122, 3) := by decide +kernel
theorem dX5_move_91 : decode cX5_move 91 = .ok (.dup, 1) := by decide +kernel
theorem dX5_move_92 : decode cX5_move 92 = .ok (.ldc 124, 2) := by decide +kernel
theorem dX5_move_94 : decode cX5_move 94 = .ok (.invokespecial 126, 3) := by decide +kernel
theorem dX5_move_97 : decode cX5_move 97 = .ok (.athrow, 1) := by decide +kernel
theorem dX5_move_98 : decode cX5_move 98 = .ok (.aload_n 0, 1) := by decide +kernel
theorem dX5_move_99 : decode cX5_move 99 = .ok (.invokevirtual 85, 3) := by decide +kernel
theorem dX5_move_102 : decode cX5_move 102 = .ok (.aload_n 0, 1) := by decide +kernel
theorem dX5_move_103 : decode cX5_move 103 = .ok (.aload 4, 2) := by decide +kernel
theorem dX5_move_105 : decode cX5_move 105 = .ok (.iload_n 3, 1) := by decide +kernel
theorem dX5_move_106 : decode cX5_move 106 = .ok (.ineg, 1) := by decide +kernel
theorem dX5_move_107 : decode cX5_move 107 = .ok (.iconst 1, 1) := by decide +kernel
theorem dX5_move_108 : decode cX5_move 108 = .ok (.invokevirtual 127, 3) := by decide +kernel
theorem dX5_move_111 : decode cX5_move 111 = .ok (.aload_n 0, 1) := by decide +kernel
theorem dX5_move_112 : decode cX5_move 112 = .ok (.new 88, 3) := by decide +kernel
theorem dX5_move_115 : decode cX5_move 115 = .ok (.dup, 1) := by decide +kernel
theorem dX5_move_116 : decode cX5_move 116 = .ok (.aload_n 0, 1) := by decide +kernel
theorem dX5_move_117 : decode cX5_move 117 = .ok (.getfield 16, 3) := by decide +kernel
theorem dX5_move_120 : decode cX5_move 120 = .ok (.invokevirtual 90, 3) := by decide +kernel
theorem dX5_move_123 : decode cX5_move 123 = .ok (.aload 5, 2) := by decide +kernel
theorem dX5_move_125 : decode cX5_move 125 = .ok (.aload 4, 2) := by decide +kernel
theorem dX5_move_127 : decode cX5_move 127 = .ok (.getfield 131, 3) := by decide +kernel
theorem dX5_move_130 : decode cX5_move 130 = .ok (.aload 4, 2) := by decide +kernel
theorem dX5_move_132 : decode cX5_move 132 = .ok (.getfield 134, 3) := by decide +kernel
theorem dX5_move_135 : decode cX5_move 135 = .ok (.invokespecial 94, 3) := by decide +kernel
theorem dX5_move_138 : decode cX5_move 138 = .ok (.iload_n 3, 1) := by decide +kernel
theorem dX5_move_139 : decode cX5_move 139 = .ok (.iconst 1, 1) := by decide +kernel
theorem dX5_move_140 : decode cX5_move 140 = .ok (.invokevirtual 97, 3) := by decide +kernel
theorem dX5_move_143 : decode cX5_move 143 = .ok (.ireturn, 1) := by decide +kernel
set_option maxRecDepth 20000 in
theorem ggX5_count_X5_requireLot : GoodIn wsX5_count wsX5_requireLot := goodIn_ca (goodIn_r _ [9, 1, 10, 11, 12, 13, 14, 15, 16, 17, 8, 18, 19, 20, 131, 132, 133, 134, 135, 136, 137, 143, 144, 145] (by decide +kernel) (by decide +kernel)) (goodIn_sub (fun _ h => List.mem_cons_of_mem _ (List.mem_append_left _ (List.mem_append_left _ (List.mem_append_right _ h)))) (by decide +kernel))
set_option maxRecDepth 20000 in
theorem gX5_count_X5_requireLot : GoodIn wsX5_count (wsV RX5 101 RX5 yX5_requireLot wsX5_requireLot) := goodIn_app (goodIn_of _ (by decide +kernel)) ggX5_count_X5_requireLot
set_option maxRecDepth 20000 in
theorem ggX5_count_X5_requireRange : GoodIn wsX5_count wsX5_requireRange := goodIn_ca (goodIn_r _ [23, 24, 25] (by decide +kernel) (by decide +kernel)) (goodIn_sub (fun _ h => List.mem_cons_of_mem _ (List.mem_append_left _ (List.mem_append_right _ h))) (by decide +kernel))
set_option maxRecDepth 20000 in
theorem gX5_count_X5_requireRange : GoodIn wsX5_count (va_wsS RX5 81 yX5_requireRange wsX5_requireRange) := goodIn_app (goodIn_of _ (by decide +kernel)) ggX5_count_X5_requireRange
set_option maxRecDepth 20000 in
theorem ggX5_count_Jx4a65c_get_915e3 : GoodIn wsX5_count wsJx4a65c_get_915e3 := goodIn_r _ [29, 15, 30, 31, 32, 33, 34, 35, 36, 37, 38, 39, 40, 13, 41, 42, 143, 144, 145] (by decide +kernel) (by decide +kernel)
set_option maxRecDepth 20000 in
theorem gX5_count_Jx4a65c_get_915e3 : GoodIn wsX5_count (wsV RX5 60 RJx4a65c yJx4a65c_get_915e3 wsJx4a65c_get_915e3) := goodIn_app (goodIn_of _ (by decide +kernel)) ggX5_count_Jx4a65c_get_915e3
set_option maxRecDepth 20000 in
theorem ggX5_count_X5_requireReached : GoodIn wsX5_count wsX5_requireReached := goodIn_ca (goodIn_r _ [46, 47, 48, 49, 50, 51, 52, 53, 54, 55, 56, 57, 146, 147, 148, 131, 132, 133, 134, 135, 136, 137, 149, 150] (by decide +kernel) (by decide +kernel)) (goodIn_sub (fun _ h => List.mem_cons_of_mem _ (List.mem_append_right _ h)) (by decide +kernel))
set_option maxRecDepth 20000 in
theorem gX5_count_X5_requireReached : GoodIn wsX5_count (wsV RX5 115 RX5 yX5_requireReached wsX5_requireReached) := goodIn_app (goodIn_of _ (by decide +kernel)) ggX5_count_X5_requireReached
set_option maxRecDepth 20000 in
theorem ggX5_count_X5_changeAmount : GoodIn wsX5_count wsX5_changeAmount := goodIn_r _ [61, 4, 62, 63, 64, 65, 66, 67, 10, 11, 12, 13, 14, 15, 68, 69, 70, 71, 72, 73, 74, 75, 76, 77, 78, 79, 80, 81, 82, 83, 42, 84, 85, 86, 87, 88, 89, 90, 91, 92, 93, 94, 95, 96, 97, 98, 99, 100, 101, 102, 103, 104, 105, 106, 107, 108, 109, 110, 111, 112, 113, 114, 115, 116, 117, 118, 119, 120, 121, 122, 123, 124, 125, 126, 127, 128, 129, 130, 138, 139, 140, 141, 142, 131, 132, 133, 134, 135, 136, 137, 151, 152, 153, 154, 143, 144, 145] (by decide +kernel) (by decide +kernel)
set_option maxRecDepth 20000 in
theorem gX5_count_X5_changeAmount : GoodIn wsX5_count (wsV RX5 127 RX5 yX5_changeAmount wsX5_changeAmount) := goodIn_app (goodIn_of _ (by decide +kernel)) ggX5_count_X5_changeAmount
theorem dX5_count_0 : decode cX5_count 0 = .ok (.aload_n 0, 1) := by decide +kernel
theorem dX5_count_1 : decode cX5_count 1 = .ok (.iload_n 1, 1) := by decide +kernel
theorem dX5_count_2 : decode cX5_count 2 = .ok (.invokevirtual 101, 3) := by decide +kernel
theorem dX5_count_5 : decode cX5_count 5 = .ok (.iload_n 2, 1) := by decide +kernel
theorem dX5_count_6 : decode cX5_count 6 = .ok (.iconst 0, 1) := by decide +kernel
theorem dX5_count_7 : decode cX5_count 7 = .ok (.sipush 1000, 3) := by decide +kernel
theorem dX5_count_10 : decode cX5_count 10 = .ok (.invokestatic 81, 3) := by decide +kernel
theorem dX5_count_13 : decode cX5_count 13 = .ok (.aload_n 0, 1) := by decide +kernel
theorem dX5_count_14 : decode cX5_count 14 = .ok (.getfield 16, 3) := by decide +kernel
theorem dX5_count_17 : decode cX5_count 17 = .ok (.iload_n 1, 1) := by decide +kernel
theorem dX5_count_18 : decode cX5_count 18 = .ok (.invokevirtual 60, 3) := by decide +kernel
theorem dX5_count_21 : decode cX5_count 21 = .ok (.checkcast 88, 3) := by decide +kernel
theorem dX5_count_24 : decode cX5_count 24 = .ok (.astore_n 3, 1) := by decide +kernel
theorem dX5_count_25 : decode cX5_count 25 = .ok (.aload_n 0, 1) := by decide +kernel
theorem dX5_count_26 : decode cX5_count 26 = .ok (.aload_n 3, 1) := by decide +kernel
theorem dX5_count_27 : decode cX5_count 27 = .ok (.getfield 104, 3) := by decide +kernel
theorem dX5_count_30 : decode cX5_count 30 = .ok (.invokevirtual 115, 3) := by decide +kernel
theorem dX5_count_33 : decode cX5_count 33 = .ok (.iload_n 2, 1) := by decide +kernel
theorem dX5_count_34 : decode cX5_count 34 = .ok (.aload_n 3, 1) := by decide +kernel
theorem dX5_count_35 : decode cX5_count 35 = .ok (.getfield 119, 3) := by decide +kernel
theorem dX5_count_38 : decode cX5_count 38 = .ok (.isub, 1) := by decide +kernel
theorem dX5_count_39 : decode cX5_count 39 = .ok (.istore 4, 2) := by decide +kernel
theorem dX5_count_41 : decode cX5_count 41 = .ok (.aload_n 0, 1) := by decide +kernel
theorem dX5_count_42 : decode cX5_count 42 = .ok (.aload_n 3, 1) := by decide +kernel
theorem dX5_count_43 : decode cX5_count 43 = .ok (.iload 4, 2) := by decide +kernel
theorem dX5_count_45 : decode cX5_count 45 = .ok (.iconst 5, 1) := by decide +kernel
theorem dX5_count_46 : decode cX5_count 46 = .ok (.invokevirtual 127, 3) := by decide +kernel
theorem dX5_count_49 : decode cX5_count 49 = .ok (.iload 4, 2) := by decide +kernel
theorem dX5_count_51 : decode cX5_count 51 = .ok (.ireturn, 1) := by decide +kernel
set_option maxRecDepth 20000 in
theorem ggX5_setPeople_X5_requireWork : GoodIn wsX5_setPeople wsX5_requireWork := goodIn_ca (goodIn_r _ [8, 1, 9, 10, 11, 12, 13, 14, 15, 16, 7, 17, 18, 19, 42, 43, 44, 45, 46, 47, 48, 53, 54, 55] (by decide +kernel) (by decide +kernel)) (goodIn_sub (fun _ h => List.mem_cons_of_mem _ (List.mem_append_left _ (List.mem_append_right _ h))) (by decide +kernel))
set_option maxRecDepth 20000 in
theorem gX5_setPeople_X5_requireWork : GoodIn wsX5_setPeople (wsV RX5 137 RX5 yX5_requireWork wsX5_requireWork) := goodIn_app (goodIn_of _ (by decide +kernel)) ggX5_setPeople_X5_requireWork
set_option maxRecDepth 20000 in
theorem ggX5_setPeople_X5_requireRange : GoodIn wsX5_setPeople wsX5_requireRange := goodIn_ca (goodIn_r _ [22, 23, 24] (by decide +kernel) (by decide +kernel)) (goodIn_sub (fun _ h => List.mem_cons_of_mem _ (List.mem_append_right _ h)) (by decide +kernel))
set_option maxRecDepth 20000 in
theorem gX5_setPeople_X5_requireRange : GoodIn wsX5_setPeople (va_wsS RX5 81 yX5_requireRange wsX5_requireRange) := goodIn_app (goodIn_of _ (by decide +kernel)) ggX5_setPeople_X5_requireRange
set_option maxRecDepth 20000 in
theorem ggX5_setPeople_Jx4a65c_get_915e3 : GoodIn wsX5_setPeople wsJx4a65c_get_915e3 := goodIn_r _ [28, 14, 29, 30, 31, 32, 33, 34, 35, 36, 37, 38, 39, 12, 40, 41, 53, 54, 55] (by decide +kernel) (by decide +kernel)
set_option maxRecDepth 20000 in
theorem gX5_setPeople_Jx4a65c_get_915e3 : GoodIn wsX5_setPeople (wsV RX5 60 RJx4a65c yJx4a65c_get_915e3 wsJx4a65c_get_915e3) := goodIn_app (goodIn_of _ (by decide +kernel)) ggX5_setPeople_Jx4a65c_get_915e3
theorem dX5_setPeople_0 : decode cX5_setPeople 0 = .ok (.aload_n 0, 1) := by decide +kernel
theorem dX5_setPeople_1 : decode cX5_setPeople 1 = .ok (.iload_n 1, 1) := by decide +kernel
theorem dX5_setPeople_2 : decode cX5_setPeople 2 = .ok (.invokevirtual 137, 3) := by decide +kernel
theorem dX5_setPeople_5 : decode cX5_setPeople 5 = .ok (.iload_n 2, 1) := by decide +kernel
theorem dX5_setPeople_6 : decode cX5_setPeople 6 = .ok (.iconst 0, 1) := by decide +kernel
theorem dX5_setPeople_7 : decode cX5_setPeople 7 = .ok (.bipush 20, 2) := by decide +kernel
theorem dX5_setPeople_9 : decode cX5_setPeople 9 = .ok (.invokestatic 81, 3) := by decide +kernel
theorem dX5_setPeople_12 : decode cX5_setPeople 12 = .ok (.aload_n 0, 1) := by decide +kernel
theorem dX5_setPeople_13 : decode cX5_setPeople 13 = .ok (.getfield 19, 3) := by decide +kernel
theorem dX5_setPeople_16 : decode cX5_setPeople 16 = .ok (.iload_n 1, 1) := by decide +kernel
theorem dX5_setPeople_17 : decode cX5_setPeople 17 = .ok (.invokevirtual 60, 3) := by decide +kernel
theorem dX5_setPeople_20 : decode cX5_setPeople 20 = .ok (.checkcast 48, 3) := by decide +kernel
theorem dX5_setPeople_23 : decode cX5_setPeople 23 = .ok (.astore_n 3, 1) := by decide +kernel
theorem dX5_setPeople_24 : decode cX5_setPeople 24 = .ok (.aload_n 3, 1) := by decide +kernel
theorem dX5_setPeople_25 : decode cX5_setPeople 25 = .ok (.getfield 140, 3) := by decide +kernel
theorem dX5_setPeople_28 : decode cX5_setPeople 28 = .ok (.istore 4, 2) := by decide +kernel
theorem dX5_setPeople_30 : decode cX5_setPeople 30 = .ok (.aload_n 3, 1) := by decide +kernel
theorem dX5_setPeople_31 : decode cX5_setPeople 31 = .ok (.iload_n 2, 1) := by decide +kernel
theorem dX5_setPeople_32 : decode cX5_setPeople 32 = .ok (.putfield 140, 3) := by decide +kernel
theorem dX5_setPeople_35 : decode cX5_setPeople 35 = .ok (.iload 4, 2) := by decide +kernel
theorem dX5_setPeople_37 : decode cX5_setPeople 37 = .ok (.ireturn, 1) := by decide +kernel
set_option maxRecDepth 20000 in
theorem ggX5_pass_X5_requireRange : GoodIn wsX5_pass wsX5_requireRange := goodIn_ca (goodIn_r _ [7, 8, 9] (by decide +kernel) (by decide +kernel)) (goodIn_sub (fun _ h => List.mem_cons_of_mem _ (List.mem_append_right _ h)) (by decide +kernel))
set_option maxRecDepth 20000 in
theorem gX5_pass_X5_requireRange : GoodIn wsX5_pass (va_wsS RX5 81 yX5_requireRange wsX5_requireRange) := goodIn_app (goodIn_of _ (by decide +kernel)) ggX5_pass_X5_requireRange
set_option maxRecDepth 20000 in
theorem ggX5_pass_X5_throwAwayOld : GoodIn wsX5_pass wsX5_throwAwayOld := goodIn_r _ [13, 14, 15, 16, 3, 17, 18, 19, 20, 21, 22, 23, 24, 25, 26, 27, 28, 29, 30, 31, 32, 33, 34, 35, 36, 37, 38, 39, 40, 41, 42, 43, 6, 44, 45, 46, 47, 48, 49, 50, 51, 52, 53, 54, 55, 56, 57, 58, 59, 60, 61, 62, 63, 64, 65, 66, 67, 68, 69, 70, 71, 72, 73, 74, 75, 76, 77, 78, 79, 80, 81, 82, 83, 84, 85, 86, 87, 88, 89, 90, 91, 92, 93, 94, 95, 96, 97, 98, 99, 100, 101, 102, 103, 104, 105, 106, 107, 108, 109, 110, 111, 112, 113, 173, 174, 175, 176, 177, 178, 179, 180, 181, 182, 183, 184, 185, 186, 187, 188, 189, 190, 191] (by decide +kernel) (by decide +kernel)
set_option maxRecDepth 20000 in
theorem gX5_pass_X5_throwAwayOld : GoodIn wsX5_pass (wsV RX5 145 RX5 yX5_throwAwayOld wsX5_throwAwayOld) := goodIn_app (goodIn_of _ (by decide +kernel)) ggX5_pass_X5_throwAwayOld
set_option maxRecDepth 20000 in
theorem ggX5_pass_X5_freeze : GoodIn wsX5_pass wsX5_freeze := goodIn_r _ [117, 118, 3, 14, 15, 119, 120, 121, 17, 122, 123, 124, 125, 126, 127, 128, 18, 19, 20, 21, 22, 23, 24, 25, 26, 27, 28, 29, 30, 31, 32, 33, 34, 35, 36, 37, 38, 39, 40, 41, 42, 43, 6, 44, 45, 46, 47, 48, 49, 50, 51, 52, 53, 54, 55, 56, 57, 58, 59, 60, 61, 62, 63, 64, 65, 66, 67, 68, 69, 70, 71, 72, 73, 74, 75, 76, 77, 78, 79, 80, 81, 82, 83, 84, 85, 86, 87, 88, 89, 90, 91, 92, 93, 94, 95, 96, 97, 98, 99, 100, 101, 102, 103, 104, 105, 106, 107, 108, 109, 110, 111, 112, 113, 173, 174, 175, 176, 177, 178, 179, 180, 181, 182, 183, 184, 192, 193, 194, 195, 196, 185, 186, 187, 188, 189, 190, 191] (by decide +kernel) (by decide +kernel)
set_option maxRecDepth 20000 in
theorem gX5_pass_X5_freeze : GoodIn wsX5_pass (wsV RX5 148 RX5 yX5_freeze wsX5_freeze) := goodIn_app (goodIn_of _ (by decide +kernel)) ggX5_pass_X5_freeze
set_option maxRecDepth 20000 in
theorem ggX5_pass_X5_feedPeople : GoodIn wsX5_pass wsX5_feedPeople := goodIn_r _ [132, 133, 108, 82, 109, 134, 135, 136, 6, 137, 14, 15, 17, 18, 19, 20, 21, 22, 23, 24, 25, 26, 27, 28, 29, 30, 31, 32, 33, 34, 35, 36, 37, 38, 39, 40, 138, 139, 140, 141, 142, 143, 144, 145, 146, 147, 148, 149, 150, 151, 152, 153, 154, 155, 156, 157, 158, 159, 160, 161, 162, 163, 164, 165, 166, 167, 168, 169, 170, 171, 172, 16, 41, 42, 43, 44, 45, 46, 47, 48, 49, 50, 51, 52, 53, 54, 55, 56, 57, 58, 59, 60, 61, 62, 63, 64, 65, 66, 67, 68, 69, 70, 71, 72, 73, 74, 75, 76, 77, 78, 79, 80, 81, 83, 84, 85, 86, 87, 88, 89, 90, 91, 92, 93, 94, 95, 96, 97, 98, 99, 100, 101, 102, 103, 104, 105, 106, 107, 110, 111, 112, 113, 173, 174, 175, 176, 177, 178, 179, 180, 181, 182, 183, 184, 185, 186, 187, 192, 193, 194, 197, 198, 199, 200, 188, 189, 190, 191] (by decide +kernel) (by decide +kernel)
set_option maxRecDepth 20000 in
theorem gX5_pass_X5_feedPeople : GoodIn wsX5_pass (wsV RX5 151 RX5 yX5_feedPeople wsX5_feedPeople) := goodIn_app (goodIn_of _ (by decide +kernel)) ggX5_pass_X5_feedPeople
theorem dX5_pass_0 : decode cX5_pass 0 = .ok (.iload_n 1, 1) := by decide +kernel
theorem dX5_pass_1 : decode cX5_pass 1 = .ok (.iconst 1, 1) := by decide +kernel
theorem dX5_pass_2 : decode cX5_pass 2 = .ok (.bipush 60, 2) := by decide +kernel
theorem dX5_pass_4 : decode cX5_pass 4 = .ok (.invokestatic 81, 3) := by decide +kernel
theorem dX5_pass_7 : decode cX5_pass 7 = .ok (.aload_n 0, 1) := by decide +kernel
theorem dX5_pass_8 : decode cX5_pass 8 = .ok (.getfield 32, 3) := by decide +kernel
theorem dX5_pass_11 : decode cX5_pass 11 = .ok (.sipush 1500, 3) := by decide +kernel
theorem dX5_pass_14 : decode cX5_pass 14 = .ok (.iload_n 1, 1) := by decide +kernel
theorem dX5_pass_15 : decode cX5_pass 15 = .ok (.isub, 1) := by decide +kernel
theorem dX5_pass_16 : decode cX5_pass 16 = .ok (.if_icmp .le 13, 3) := by decide +kernel
theorem dX5_pass_19 : decode cX5_pass 19 = .ok (.new 122, 3) := by decide +kernel
theorem dX5_pass_22 : decode cX5_pass 22 = .ok (.dup, 1) := by decide +kernel
theorem dX5_pass_23 : decode cX5_pass 23 = .ok (.ldc 143, 2) := by decide +kernel
theorem dX5_pass_25 : decode cX5_pass 25 = .ok (.invokespecial 126, 3) := by decide +kernel
theorem dX5_pass_28 : decode cX5_pass 28 = .ok (.athrow, 1) := by decide +kernel
theorem dX5_pass_29 : decode cX5_pass 29 = .ok (.iconst 0, 1) := by decide +kernel
theorem dX5_pass_30 : decode cX5_pass 30 = .ok (.istore_n 2, 1) := by decide +kernel
theorem dX5_pass_31 : decode cX5_pass 31 = .ok (.iconst 0, 1) := by decide +kernel
theorem dX5_pass_32 : decode cX5_pass 32 = .ok (.istore_n 3, 1) := by decide +kernel
theorem dX5_pass_33 : decode cX5_pass 33 = .ok (.iload_n 3, 1) := by decide +kernel
theorem dX5_pass_34 : decode cX5_pass 34 = .ok (.iload_n 1, 1) := by decide +kernel
theorem dX5_pass_35 : decode cX5_pass 35 = .ok (.if_icmp .ge 34, 3) := by decide +kernel
theorem dX5_pass_38 : decode cX5_pass 38 = .ok (.aload_n 0, 1) := by decide +kernel
theorem dX5_pass_39 : decode cX5_pass 39 = .ok (.invokevirtual 145, 3) := by decide +kernel
theorem dX5_pass_42 : decode cX5_pass 42 = .ok (.aload_n 0, 1) := by decide +kernel
theorem dX5_pass_43 : decode cX5_pass 43 = .ok (.invokevirtual 148, 3) := by decide +kernel
theorem dX5_pass_46 : decode cX5_pass 46 = .ok (.iload_n 2, 1) := by decide +kernel
theorem dX5_pass_47 : decode cX5_pass 47 = .ok (.aload_n 0, 1) := by decide +kernel
theorem dX5_pass_48 : decode cX5_pass 48 = .ok (.invokevirtual 151, 3) := by decide +kernel
theorem dX5_pass_51 : decode cX5_pass 51 = .ok (.iadd, 1) := by decide +kernel
theorem dX5_pass_52 : decode cX5_pass 52 = .ok (.istore_n 2, 1) := by decide +kernel
theorem dX5_pass_53 : decode cX5_pass 53 = .ok (.aload_n 0, 1) := by decide +kernel
theorem dX5_pass_54 : decode cX5_pass 54 = .ok (.dup, 1) := by decide +kernel
theorem dX5_pass_55 : decode cX5_pass 55 = .ok (.getfield 32, 3) := by decide +kernel
theorem dX5_pass_58 : decode cX5_pass 58 = .ok (.iconst 1, 1) := by decide +kernel
theorem dX5_pass_59 : decode cX5_pass 59 = .ok (.iadd, 1) := by decide +kernel
theorem dX5_pass_60 : decode cX5_pass 60 = .ok (.putfield 32, 3) := by decide +kernel
theorem dX5_pass_63 : decode cX5_pass 63 = .ok (.iinc 3 1, 3) := by decide +kernel
theorem dX5_pass_66 : decode cX5_pass 66 = .ok (.goto (-33), 3) := by decide +kernel
theorem dX5_pass_69 : decode cX5_pass 69 = .ok (.iload_n 2, 1) := by decide +kernel
theorem dX5_pass_70 : decode cX5_pass 70 = .ok (.ireturn, 1) := by decide +kernel
theorem dX5_nextCrew_0 : decode cX5_nextCrew 0 = .ok (.aload_n 0, 1) := by decide +kernel
theorem dX5_nextCrew_1 : decode cX5_nextCrew 1 = .ok (.getfield 36, 3) := by decide +kernel
theorem dX5_nextCrew_4 : decode cX5_nextCrew 4 = .ok (.bipush 19, 2) := by decide +kernel
theorem dX5_nextCrew_6 : decode cX5_nextCrew 6 = .ok (.if_icmp .lt 13, 3) := by decide +kernel
theorem dX5_nextCrew_9 : decode cX5_nextCrew 9 = .ok (.new 122, 3) := by decide +kernel
theorem dX5_nextCrew_12 : decode cX5_nextCrew 12 = .ok (.dup, 1) := by decide +kernel
theorem dX5_nextCrew_13 : decode cX5_nextCrew 13 = .ok (.ldc 154, 2) := by decide +kernel
theorem dX5_nextCrew_15 : decode cX5_nextCrew 15 = .ok (.invokespecial 126, 3) := by decide +kernel
theorem dX5_nextCrew_18 : decode cX5_nextCrew 18 = .ok (.athrow, 1) := by decide +kernel
theorem dX5_nextCrew_19 : decode cX5_nextCrew 19 = .ok (.aload_n 0, 1) := by decide +kernel
theorem dX5_nextCrew_20 : decode cX5_nextCrew 20 = .ok (.dup, 1) := by decide +kernel
theorem dX5_nextCrew_21 : decode cX5_nextCrew 21 = .ok (.getfield 36, 3) := by decide +kernel
theorem dX5_nextCrew_24 : decode cX5_nextCrew 24 = .ok (.iconst 1, 1) := by decide +kernel
theorem dX5_nextCrew_25 : decode cX5_nextCrew 25 = .ok (.iadd, 1) := by decide +kernel
theorem dX5_nextCrew_26 : decode cX5_nextCrew 26 = .ok (.putfield 36, 3) := by decide +kernel
theorem dX5_nextCrew_29 : decode cX5_nextCrew 29 = .ok (.aload_n 0, 1) := by decide +kernel
theorem dX5_nextCrew_30 : decode cX5_nextCrew 30 = .ok (.getfield 36, 3) := by decide +kernel
theorem dX5_nextCrew_33 : decode cX5_nextCrew 33 = .ok (.ireturn, 1) := by decide +kernel
theorem dX5_today_0 : decode cX5_today 0 = .ok (.aload_n 0, 1) := by decide +kernel
theorem dX5_today_1 : decode cX5_today 1 = .ok (.getfield 32, 3) := by decide +kernel
theorem dX5_today_4 : decode cX5_today 4 = .ok (.ireturn, 1) := by decide +kernel
set_option maxRecDepth 20000 in
theorem ggX5_hunger_X5_requireWork : GoodIn wsX5_hunger wsX5_requireWork := goodIn_ca (goodIn_r _ [8, 1, 9, 10, 11, 12, 13, 14, 15, 16, 7, 17, 18, 19, 37, 38, 39, 40, 41, 42, 43, 48, 49, 50] (by decide +kernel) (by decide +kernel)) (goodIn_sub (fun _ h => List.mem_cons_of_mem _ (List.mem_append_right _ h)) (by decide +kernel))
set_option maxRecDepth 20000 in
theorem gX5_hunger_X5_requireWork : GoodIn wsX5_hunger (wsV RX5 137 RX5 yX5_requireWork wsX5_requireWork) := goodIn_app (goodIn_of _ (by decide +kernel)) ggX5_hunger_X5_requireWork
set_option maxRecDepth 20000 in
theorem ggX5_hunger_Jx4a65c_get_915e3 : GoodIn wsX5_hunger wsJx4a65c_get_915e3 := goodIn_r _ [23, 14, 24, 25, 26, 27, 28, 29, 30, 31, 32, 33, 34, 12, 35, 36, 48, 49, 50] (by decide +kernel) (by decide +kernel)
set_option maxRecDepth 20000 in
theorem gX5_hunger_Jx4a65c_get_915e3 : GoodIn wsX5_hunger (wsV RX5 60 RJx4a65c yJx4a65c_get_915e3 wsJx4a65c_get_915e3) := goodIn_app (goodIn_of _ (by decide +kernel)) ggX5_hunger_Jx4a65c_get_915e3
theorem dX5_hunger_0 : decode cX5_hunger 0 = .ok (.aload_n 0, 1) := by decide +kernel
theorem dX5_hunger_1 : decode cX5_hunger 1 = .ok (.iload_n 1, 1) := by decide +kernel
theorem dX5_hunger_2 : decode cX5_hunger 2 = .ok (.invokevirtual 137, 3) := by decide +kernel
theorem dX5_hunger_5 : decode cX5_hunger 5 = .ok (.aload_n 0, 1) := by decide +kernel
theorem dX5_hunger_6 : decode cX5_hunger 6 = .ok (.getfield 19, 3) := by decide +kernel
theorem dX5_hunger_9 : decode cX5_hunger 9 = .ok (.iload_n 1, 1) := by decide +kernel
theorem dX5_hunger_10 : decode cX5_hunger 10 = .ok (.invokevirtual 60, 3) := by decide +kernel
theorem dX5_hunger_13 : decode cX5_hunger 13 = .ok (.checkcast 48, 3) := by decide +kernel
theorem dX5_hunger_16 : decode cX5_hunger 16 = .ok (.getfield 156, 3) := by decide +kernel
theorem dX5_hunger_19 : decode cX5_hunger 19 = .ok (.ireturn, 1) := by decide +kernel
set_option maxRecDepth 20000 in
theorem ggX5_lots_Jx4a65c_size_8abf5 : GoodIn wsX5_lots wsJx4a65c_size_8abf5 := goodIn_r _ [6, 7, 15, 16, 17] (by decide +kernel) (by decide +kernel)
set_option maxRecDepth 20000 in
theorem gX5_lots_Jx4a65c_size_8abf5 : GoodIn wsX5_lots (wsV RX5 90 RJx4a65c yJx4a65c_size_8abf5 wsJx4a65c_size_8abf5) := goodIn_app (goodIn_of _ (by decide +kernel)) ggX5_lots_Jx4a65c_size_8abf5
theorem dX5_lots_0 : decode cX5_lots 0 = .ok (.aload_n 0, 1) := by decide +kernel
theorem dX5_lots_1 : decode cX5_lots 1 = .ok (.getfield 16, 3) := by decide +kernel
theorem dX5_lots_4 : decode cX5_lots 4 = .ok (.invokevirtual 90, 3) := by decide +kernel
theorem dX5_lots_7 : decode cX5_lots 7 = .ok (.ireturn, 1) := by decide +kernel
set_option maxRecDepth 20000 in
theorem ggX5_amount_X5_requireLot : GoodIn wsX5_amount wsX5_requireLot := goodIn_ca (goodIn_r _ [8, 1, 9, 10, 11, 12, 13, 14, 15, 16, 7, 17, 18, 19, 37, 38, 39, 40, 41, 42, 43, 49, 50, 51] (by decide +kernel) (by decide +kernel)) (goodIn_sub (fun _ h => List.mem_cons_of_mem _ (List.mem_append_right _ h)) (by decide +kernel))
set_option maxRecDepth 20000 in
theorem gX5_amount_X5_requireLot : GoodIn wsX5_amount (wsV RX5 101 RX5 yX5_requireLot wsX5_requireLot) := goodIn_app (goodIn_of _ (by decide +kernel)) ggX5_amount_X5_requireLot
set_option maxRecDepth 20000 in
theorem ggX5_amount_Jx4a65c_get_915e3 : GoodIn wsX5_amount wsJx4a65c_get_915e3 := goodIn_r _ [23, 14, 24, 25, 26, 27, 28, 29, 30, 31, 32, 33, 34, 12, 35, 36, 49, 50, 51] (by decide +kernel) (by decide +kernel)
set_option maxRecDepth 20000 in
theorem gX5_amount_Jx4a65c_get_915e3 : GoodIn wsX5_amount (wsV RX5 60 RJx4a65c yJx4a65c_get_915e3 wsJx4a65c_get_915e3) := goodIn_app (goodIn_of _ (by decide +kernel)) ggX5_amount_Jx4a65c_get_915e3
theorem dX5_amount_0 : decode cX5_amount 0 = .ok (.aload_n 0, 1) := by decide +kernel
theorem dX5_amount_1 : decode cX5_amount 1 = .ok (.iload_n 1, 1) := by decide +kernel
theorem dX5_amount_2 : decode cX5_amount 2 = .ok (.invokevirtual 101, 3) := by decide +kernel
theorem dX5_amount_5 : decode cX5_amount 5 = .ok (.aload_n 0, 1) := by decide +kernel
theorem dX5_amount_6 : decode cX5_amount 6 = .ok (.getfield 16, 3) := by decide +kernel
theorem dX5_amount_9 : decode cX5_amount 9 = .ok (.iload_n 1, 1) := by decide +kernel
theorem dX5_amount_10 : decode cX5_amount 10 = .ok (.invokevirtual 60, 3) := by decide +kernel
theorem dX5_amount_13 : decode cX5_amount 13 = .ok (.checkcast 88, 3) := by decide +kernel
theorem dX5_amount_16 : decode cX5_amount 16 = .ok (.getfield 119, 3) := by decide +kernel
theorem dX5_amount_19 : decode cX5_amount 19 = .ok (.ireturn, 1) := by decide +kernel
set_option maxRecDepth 20000 in
theorem ggX5_about_X5_requireLot : GoodIn wsX5_about wsX5_requireLot := goodIn_ca (goodIn_r _ [10, 1, 11, 12, 13, 14, 15, 16, 17, 18, 9, 19, 20, 21, 39, 40, 41, 42, 43, 44, 45, 54, 55, 56] (by decide +kernel) (by decide +kernel)) (goodIn_sub (fun _ h => List.mem_cons_of_mem _ (List.mem_append_right _ h)) (by decide +kernel))
set_option maxRecDepth 20000 in
theorem gX5_about_X5_requireLot : GoodIn wsX5_about (wsV RX5 101 RX5 yX5_requireLot wsX5_requireLot) := goodIn_app (goodIn_of _ (by decide +kernel)) ggX5_about_X5_requireLot
set_option maxRecDepth 20000 in
theorem ggX5_about_Jx4a65c_get_915e3 : GoodIn wsX5_about wsJx4a65c_get_915e3 := goodIn_r _ [25, 16, 26, 27, 28, 29, 30, 31, 32, 33, 34, 35, 36, 14, 37, 38, 54, 55, 56] (by decide +kernel) (by decide +kernel)
set_option maxRecDepth 20000 in
theorem gX5_about_Jx4a65c_get_915e3 : GoodIn wsX5_about (wsV RX5 60 RJx4a65c yJx4a65c_get_915e3 wsJx4a65c_get_915e3) := goodIn_app (goodIn_of _ (by decide +kernel)) ggX5_about_Jx4a65c_get_915e3
theorem dX5_about_0 : decode cX5_about 0 = .ok (.aload_n 0, 1) := by decide +kernel
theorem dX5_about_1 : decode cX5_about 1 = .ok (.iload_n 1, 1) := by decide +kernel
theorem dX5_about_2 : decode cX5_about 2 = .ok (.invokevirtual 101, 3) := by decide +kernel
theorem dX5_about_5 : decode cX5_about 5 = .ok (.aload_n 0, 1) := by decide +kernel
theorem dX5_about_6 : decode cX5_about 6 = .ok (.getfield 16, 3) := by decide +kernel
theorem dX5_about_9 : decode cX5_about 9 = .ok (.iload_n 1, 1) := by decide +kernel
theorem dX5_about_10 : decode cX5_about 10 = .ok (.invokevirtual 60, 3) := by decide +kernel
theorem dX5_about_13 : decode cX5_about 13 = .ok (.checkcast 88, 3) := by decide +kernel
theorem dX5_about_16 : decode cX5_about 16 = .ok (.astore_n 2, 1) := by decide +kernel
theorem dX5_about_17 : decode cX5_about 17 = .ok (.bipush 10, 2) := by decide +kernel
theorem dX5_about_19 : decode cX5_about 19 = .ok (.aload_n 2, 1) := by decide +kernel
theorem dX5_about_20 : decode cX5_about 20 = .ok (.getfield 104, 3) := by decide +kernel
theorem dX5_about_23 : decode cX5_about 23 = .ok (.getfield 159, 3) := by decide +kernel
theorem dX5_about_26 : decode cX5_about 26 = .ok (.imul, 1) := by decide +kernel
theorem dX5_about_27 : decode cX5_about 27 = .ok (.aload_n 2, 1) := by decide +kernel
theorem dX5_about_28 : decode cX5_about 28 = .ok (.getfield 131, 3) := by decide +kernel
theorem dX5_about_31 : decode cX5_about 31 = .ok (.iadd, 1) := by decide +kernel
theorem dX5_about_32 : decode cX5_about 32 = .ok (.ireturn, 1) := by decide +kernel
set_option maxRecDepth 20000 in
theorem ggX5_stock_X5_requireDepot : GoodIn wsX5_stock wsX5_requireDepot := goodIn_ca (goodIn_r _ [8, 9, 10, 11, 12, 13, 14, 15, 16, 17, 7, 18, 19, 20, 50, 51, 52, 53, 54, 55, 56, 62, 63, 64] (by decide +kernel) (by decide +kernel)) (goodIn_sub (fun _ h => List.mem_cons_of_mem _ (List.mem_append_right _ h)) (by decide +kernel))
set_option maxRecDepth 20000 in
theorem gX5_stock_X5_requireDepot : GoodIn wsX5_stock (wsV RX5 53 RX5 yX5_requireDepot wsX5_requireDepot) := goodIn_app (goodIn_of _ (by decide +kernel)) ggX5_stock_X5_requireDepot
set_option maxRecDepth 20000 in
theorem ggX5_stock_X5_requireGood : GoodIn wsX5_stock wsX5_requireGood := goodIn_ca (goodIn_r _ [24, 16, 17, 7, 18, 19, 20] (by decide +kernel) (by decide +kernel)) (goodIn_sub (fun _ h => List.mem_cons_of_mem _ (List.mem_append_right _ h)) (by decide +kernel))
set_option maxRecDepth 20000 in
theorem gX5_stock_X5_requireGood : GoodIn wsX5_stock (wsV RX5 78 RX5 yX5_requireGood wsX5_requireGood) := goodIn_app (goodIn_of _ (by decide +kernel)) ggX5_stock_X5_requireGood
set_option maxRecDepth 20000 in
theorem ggX5_stock_Jx4a65c_size_8abf5 : GoodIn wsX5_stock wsJx4a65c_size_8abf5 := goodIn_r _ [14, 15, 62, 63, 64] (by decide +kernel) (by decide +kernel)
set_option maxRecDepth 20000 in
theorem gX5_stock_Jx4a65c_size_8abf5 : GoodIn wsX5_stock (wsV RX5 90 RJx4a65c yJx4a65c_size_8abf5 wsJx4a65c_size_8abf5) := goodIn_app (goodIn_of _ (by decide +kernel)) ggX5_stock_Jx4a65c_size_8abf5
set_option maxRecDepth 20000 in
theorem ggX5_stock_Jx4a65c_get_915e3 : GoodIn wsX5_stock wsJx4a65c_get_915e3 := goodIn_r _ [28, 15, 29, 30, 31, 32, 33, 34, 35, 36, 37, 38, 39, 13, 40, 41, 62, 63, 64] (by decide +kernel) (by decide +kernel)
set_option maxRecDepth 20000 in
theorem gX5_stock_Jx4a65c_get_915e3 : GoodIn wsX5_stock (wsV RX5 60 RJx4a65c yJx4a65c_get_915e3 wsJx4a65c_get_915e3) := goodIn_app (goodIn_of _ (by decide +kernel)) ggX5_stock_Jx4a65c_get_915e3
set_option maxRecDepth 20000 in
theorem ggX5_stock_X3_isOf : GoodIn wsX5_stock wsX3_isOf := goodIn_r _ [46, 47, 48, 49, 57, 58, 59, 60, 61, 65, 66, 67] (by decide +kernel) (by decide +kernel)
set_option maxRecDepth 20000 in
theorem gX5_stock_X3_isOf : GoodIn wsX5_stock (wsV RX5 162 RX3 yX3_isOf wsX3_isOf) := goodIn_app (goodIn_of _ (by decide +kernel)) ggX5_stock_X3_isOf
theorem dX5_stock_0 : decode cX5_stock 0 = .ok (.aload_n 0, 1) := by decide +kernel
theorem dX5_stock_1 : decode cX5_stock 1 = .ok (.iload_n 1, 1) := by decide +kernel
theorem dX5_stock_2 : decode cX5_stock 2 = .ok (.invokevirtual 53, 3) := by decide +kernel
theorem dX5_stock_5 : decode cX5_stock 5 = .ok (.aload_n 0, 1) := by decide +kernel
theorem dX5_stock_6 : decode cX5_stock 6 = .ok (.iload_n 2, 1) := by decide +kernel
theorem dX5_stock_7 : decode cX5_stock 7 = .ok (.invokevirtual 78, 3) := by decide +kernel
theorem dX5_stock_10 : decode cX5_stock 10 = .ok (.iconst 0, 1) := by decide +kernel
theorem dX5_stock_11 : decode cX5_stock 11 = .ok (.istore_n 3, 1) := by decide +kernel
theorem dX5_stock_12 : decode cX5_stock 12 = .ok (.iconst 0, 1) := by decide +kernel
theorem dX5_stock_13 : decode cX5_stock 13 = .ok (.istore 4, 2) := by decide +kernel
theorem dX5_stock_15 : decode cX5_stock 15 = .ok (.iload 4, 2) := by decide +kernel
theorem dX5_stock_17 : decode cX5_stock 17 = .ok (.aload_n 0, 1) := by decide +kernel
theorem dX5_stock_18 : decode cX5_stock 18 = .ok (.getfield 16, 3) := by decide +kernel
theorem dX5_stock_21 : decode cX5_stock 21 = .ok (.invokevirtual 90, 3) := by decide +kernel
theorem dX5_stock_24 : decode cX5_stock 24 = .ok (.if_icmp .ge 41, 3) := by decide +kernel
theorem dX5_stock_27 : decode cX5_stock 27 = .ok (.aload_n 0, 1) := by decide +kernel
theorem dX5_stock_28 : decode cX5_stock 28 = .ok (.getfield 16, 3) := by decide +kernel
theorem dX5_stock_31 : decode cX5_stock 31 = .ok (.iload 4, 2) := by decide +kernel
theorem dX5_stock_33 : decode cX5_stock 33 = .ok (.invokevirtual 60, 3) := by decide +kernel
theorem dX5_stock_36 : decode cX5_stock 36 = .ok (.checkcast 88, 3) := by decide +kernel
theorem dX5_stock_39 : decode cX5_stock 39 = .ok (.astore 5, 2) := by decide +kernel
theorem dX5_stock_41 : decode cX5_stock 41 = .ok (.aload 5, 2) := by decide +kernel
theorem dX5_stock_43 : decode cX5_stock 43 = .ok (.iload_n 1, 1) := by decide +kernel
theorem dX5_stock_44 : decode cX5_stock 44 = .ok (.iload_n 2, 1) := by decide +kernel
theorem dX5_stock_45 : decode cX5_stock 45 = .ok (.invokevirtual 162, 3) := by decide +kernel
theorem dX5_stock_48 : decode cX5_stock 48 = .ok (.ifCond .eq 11, 3) := by decide +kernel
theorem dX5_stock_51 : decode cX5_stock 51 = .ok (.iload_n 3, 1) := by decide +kernel
theorem dX5_stock_52 : decode cX5_stock 52 = .ok (.aload 5, 2) := by decide +kernel
theorem dX5_stock_54 : decode cX5_stock 54 = .ok (.getfield 119, 3) := by decide +kernel
theorem dX5_stock_57 : decode cX5_stock 57 = .ok (.iadd, 1) := by decide +kernel
theorem dX5_stock_58 : decode cX5_stock 58 = .ok (.istore_n 3, 1) := by decide +kernel
theorem dX5_stock_59 : decode cX5_stock 59 = .ok (.iinc 4 1, 3) := by decide +kernel
theorem dX5_stock_62 : decode cX5_stock 62 = .ok (.goto (-47), 3) := by decide +kernel
theorem dX5_stock_65 : decode cX5_stock 65 = .ok (.iload_n 3, 1) := by decide +kernel
theorem dX5_stock_66 : decode cX5_stock 66 = .ok (.ireturn, 1) := by decide +kernel
set_option maxRecDepth 20000 in
theorem ggX5_stockByJournal_X5_requireDepot : GoodIn wsX5_stockByJournal wsX5_requireDepot := goodIn_ca (goodIn_r _ [9, 10, 11, 12, 13, 14, 15, 16, 17, 18, 8, 19, 20, 21, 51, 52, 53, 54, 55, 56, 57, 62, 63, 64] (by decide +kernel) (by decide +kernel)) (goodIn_sub (fun _ h => List.mem_cons_of_mem _ (List.mem_append_right _ h)) (by decide +kernel))
set_option maxRecDepth 20000 in
theorem gX5_stockByJournal_X5_requireDepot : GoodIn wsX5_stockByJournal (wsV RX5 53 RX5 yX5_requireDepot wsX5_requireDepot) := goodIn_app (goodIn_of _ (by decide +kernel)) ggX5_stockByJournal_X5_requireDepot
set_option maxRecDepth 20000 in
theorem ggX5_stockByJournal_X5_requireGood : GoodIn wsX5_stockByJournal wsX5_requireGood := goodIn_ca (goodIn_r _ [25, 17, 18, 8, 19, 20, 21] (by decide +kernel) (by decide +kernel)) (goodIn_sub (fun _ h => List.mem_cons_of_mem _ (List.mem_append_right _ h)) (by decide +kernel))
set_option maxRecDepth 20000 in
theorem gX5_stockByJournal_X5_requireGood : GoodIn wsX5_stockByJournal (wsV RX5 78 RX5 yX5_requireGood wsX5_requireGood) := goodIn_app (goodIn_of _ (by decide +kernel)) ggX5_stockByJournal_X5_requireGood
set_option maxRecDepth 20000 in
theorem ggX5_stockByJournal_Jx4a65c_size_8abf5 : GoodIn wsX5_stockByJournal wsJx4a65c_size_8abf5 := goodIn_r _ [15, 16, 62, 63, 64] (by decide +kernel) (by decide +kernel)
set_option maxRecDepth 20000 in
theorem gX5_stockByJournal_Jx4a65c_size_8abf5 : GoodIn wsX5_stockByJournal (wsV RX5 90 RJx4a65c yJx4a65c_size_8abf5 wsJx4a65c_size_8abf5) := goodIn_app (goodIn_of _ (by decide +kernel)) ggX5_stockByJournal_Jx4a65c_size_8abf5
set_option maxRecDepth 20000 in
theorem ggX5_stockByJournal_Jx4a65c_get_915e3 : GoodIn wsX5_stockByJournal wsJx4a65c_get_915e3 := goodIn_r _ [29, 16, 30, 31, 32, 33, 34, 35, 36, 37, 38, 39, 40, 14, 41, 42, 62, 63, 64] (by decide +kernel) (by decide +kernel)
set_option maxRecDepth 20000 in
theorem gX5_stockByJournal_Jx4a65c_get_915e3 : GoodIn wsX5_stockByJournal (wsV RX5 60 RJx4a65c yJx4a65c_get_915e3 wsJx4a65c_get_915e3) := goodIn_app (goodIn_of _ (by decide +kernel)) ggX5_stockByJournal_Jx4a65c_get_915e3
set_option maxRecDepth 20000 in
theorem ggX5_stockByJournal_X3_isOf : GoodIn wsX5_stockByJournal wsX3_isOf := goodIn_r _ [47, 48, 49, 50, 65, 66, 67, 68, 69, 70, 71, 72] (by decide +kernel) (by decide +kernel)
set_option maxRecDepth 20000 in
theorem gX5_stockByJournal_X3_isOf : GoodIn wsX5_stockByJournal (wsV RX5 162 RX3 yX3_isOf wsX3_isOf) := goodIn_app (goodIn_of _ (by decide +kernel)) ggX5_stockByJournal_X3_isOf
theorem dX5_stockByJournal_0 : decode cX5_stockByJournal 0 = .ok (.aload_n 0, 1) := by decide +kernel
theorem dX5_stockByJournal_1 : decode cX5_stockByJournal 1 = .ok (.iload_n 1, 1) := by decide +kernel
theorem dX5_stockByJournal_2 : decode cX5_stockByJournal 2 = .ok (.invokevirtual 53, 3) := by decide +kernel
theorem dX5_stockByJournal_5 : decode cX5_stockByJournal 5 = .ok (.aload_n 0, 1) := by decide +kernel
theorem dX5_stockByJournal_6 : decode cX5_stockByJournal 6 = .ok (.iload_n 2, 1) := by decide +kernel
theorem dX5_stockByJournal_7 : decode cX5_stockByJournal 7 = .ok (.invokevirtual 78, 3) := by decide +kernel
theorem dX5_stockByJournal_10 : decode cX5_stockByJournal 10 = .ok (.iconst 0, 1) := by decide +kernel
theorem dX5_stockByJournal_11 : decode cX5_stockByJournal 11 = .ok (.istore_n 3, 1) := by decide +kernel
theorem dX5_stockByJournal_12 : decode cX5_stockByJournal 12 = .ok (.iconst 0, 1) := by decide +kernel
theorem dX5_stockByJournal_13 : decode cX5_stockByJournal 13 = .ok (.istore 4, 2) := by decide +kernel
theorem dX5_stockByJournal_15 : decode cX5_stockByJournal 15 = .ok (.iload 4, 2) := by decide +kernel
theorem dX5_stockByJournal_17 : decode cX5_stockByJournal 17 = .ok (.aload_n 0, 1) := by decide +kernel
theorem dX5_stockByJournal_18 : decode cX5_stockByJournal 18 = .ok (.getfield 22, 3) := by decide +kernel
theorem dX5_stockByJournal_21 : decode cX5_stockByJournal 21 = .ok (.invokevirtual 90, 3) := by decide +kernel
theorem dX5_stockByJournal_24 : decode cX5_stockByJournal 24 = .ok (.if_icmp .ge 44, 3) := by decide +kernel
theorem dX5_stockByJournal_27 : decode cX5_stockByJournal 27 = .ok (.aload_n 0, 1) := by decide +kernel
theorem dX5_stockByJournal_28 : decode cX5_stockByJournal 28 = .ok (.getfield 22, 3) := by decide +kernel
theorem dX5_stockByJournal_31 : decode cX5_stockByJournal 31 = .ok (.iload 4, 2) := by decide +kernel
theorem dX5_stockByJournal_33 : decode cX5_stockByJournal 33 = .ok (.invokevirtual 60, 3) := by decide +kernel
theorem dX5_stockByJournal_36 : decode cX5_stockByJournal 36 = .ok (.checkcast 166, 3) := by decide +kernel
theorem dX5_stockByJournal_39 : decode cX5_stockByJournal 39 = .ok (.astore 5, 2) := by decide +kernel
theorem dX5_stockByJournal_41 : decode cX5_stockByJournal 41 = .ok (.aload 5, 2) := by decide +kernel
theorem dX5_stockByJournal_43 : decode cX5_stockByJournal 43 = .ok (.getfield 168, 3) := by decide +kernel
theorem dX5_stockByJournal_46 : decode cX5_stockByJournal 46 = .ok (.iload_n 1, 1) := by decide +kernel
theorem dX5_stockByJournal_47 : decode cX5_stockByJournal 47 = .ok (.iload_n 2, 1) := by decide +kernel
theorem dX5_stockByJournal_48 : decode cX5_stockByJournal 48 = .ok (.invokevirtual 162, 3) := by decide +kernel
theorem dX5_stockByJournal_51 : decode cX5_stockByJournal 51 = .ok (.ifCond .eq 11, 3) := by decide +kernel
theorem dX5_stockByJournal_54 : decode cX5_stockByJournal 54 = .ok (.iload_n 3, 1) := by decide +kernel
theorem dX5_stockByJournal_55 : decode cX5_stockByJournal 55 = .ok (.aload 5, 2) := by decide +kernel
theorem dX5_stockByJournal_57 : decode cX5_stockByJournal 57 = .ok (.getfield 172, 3) := by decide +kernel
theorem dX5_stockByJournal_60 : decode cX5_stockByJournal 60 = .ok (.iadd, 1) := by decide +kernel
theorem dX5_stockByJournal_61 : decode cX5_stockByJournal 61 = .ok (.istore_n 3, 1) := by decide +kernel
theorem dX5_stockByJournal_62 : decode cX5_stockByJournal 62 = .ok (.iinc 4 1, 3) := by decide +kernel
theorem dX5_stockByJournal_65 : decode cX5_stockByJournal 65 = .ok (.goto (-50), 3) := by decide +kernel
theorem dX5_stockByJournal_68 : decode cX5_stockByJournal 68 = .ok (.iload_n 3, 1) := by decide +kernel
theorem dX5_stockByJournal_69 : decode cX5_stockByJournal 69 = .ok (.ireturn, 1) := by decide +kernel
set_option maxRecDepth 20000 in
theorem ggX5_enoughFor_X5_needOfAll : GoodIn wsX5_enoughFor wsX5_needOfAll := goodIn_r _ [5, 6, 7, 8, 9, 10, 11, 12, 13, 14, 15, 16, 17, 18, 19, 20, 21, 22, 23, 24, 25, 26, 27, 28, 29, 30, 31, 32, 33, 34, 35, 36, 37, 53, 54, 55, 56, 57, 58, 59, 60, 61, 62, 63, 64, 65, 66] (by decide +kernel) (by decide +kernel)
set_option maxRecDepth 20000 in
theorem gX5_enoughFor_X5_needOfAll : GoodIn wsX5_enoughFor (wsV RX5 175 RX5 yX5_needOfAll wsX5_needOfAll) := goodIn_app (goodIn_of _ (by decide +kernel)) ggX5_enoughFor_X5_needOfAll
set_option maxRecDepth 20000 in
theorem ggX5_enoughFor_X5_foodInStation : GoodIn wsX5_enoughFor wsX5_foodInStation := goodIn_r _ [41, 42, 43, 44, 8, 9, 10, 11, 12, 13, 14, 15, 16, 17, 18, 19, 20, 21, 22, 23, 24, 25, 26, 27, 28, 29, 30, 45, 46, 47, 48, 49, 50, 51, 52, 53, 54, 55, 56, 57, 58, 59, 67, 68, 69, 70, 71, 60, 61, 62, 72, 73, 74] (by decide +kernel) (by decide +kernel)
set_option maxRecDepth 20000 in
theorem gX5_enoughFor_X5_foodInStation : GoodIn wsX5_enoughFor (wsV RX5 178 RX5 yX5_foodInStation wsX5_foodInStation) := goodIn_app (goodIn_of _ (by decide +kernel)) ggX5_enoughFor_X5_foodInStation
theorem dX5_enoughFor_0 : decode cX5_enoughFor 0 = .ok (.aload_n 0, 1) := by decide +kernel
theorem dX5_enoughFor_1 : decode cX5_enoughFor 1 = .ok (.invokevirtual 175, 3) := by decide +kernel
theorem dX5_enoughFor_4 : decode cX5_enoughFor 4 = .ok (.istore_n 1, 1) := by decide +kernel
theorem dX5_enoughFor_5 : decode cX5_enoughFor 5 = .ok (.iload_n 1, 1) := by decide +kernel
theorem dX5_enoughFor_6 : decode cX5_enoughFor 6 = .ok (.ifCond .le 12, 3) := by decide +kernel
theorem dX5_enoughFor_9 : decode cX5_enoughFor 9 = .ok (.aload_n 0, 1) := by decide +kernel
theorem dX5_enoughFor_10 : decode cX5_enoughFor 10 = .ok (.invokevirtual 178, 3) := by decide +kernel
theorem dX5_enoughFor_13 : decode cX5_enoughFor 13 = .ok (.iload_n 1, 1) := by decide +kernel
theorem dX5_enoughFor_14 : decode cX5_enoughFor 14 = .ok (.idiv, 1) := by decide +kernel
theorem dX5_enoughFor_15 : decode cX5_enoughFor 15 = .ok (.goto 4, 3) := by decide +kernel
theorem dX5_enoughFor_18 : decode cX5_enoughFor 18 = .ok (.iconst (-1), 1) := by decide +kernel
theorem dX5_enoughFor_19 : decode cX5_enoughFor 19 = .ok (.ireturn, 1) := by decide +kernel
set_option maxRecDepth 20000 in
theorem ggX5_entries_Jx4a65c_size_8abf5 : GoodIn wsX5_entries wsJx4a65c_size_8abf5 := goodIn_r _ [6, 7, 15, 16, 17] (by decide +kernel) (by decide +kernel)
set_option maxRecDepth 20000 in
theorem gX5_entries_Jx4a65c_size_8abf5 : GoodIn wsX5_entries (wsV RX5 90 RJx4a65c yJx4a65c_size_8abf5 wsJx4a65c_size_8abf5) := goodIn_app (goodIn_of _ (by decide +kernel)) ggX5_entries_Jx4a65c_size_8abf5
theorem dX5_entries_0 : decode cX5_entries 0 = .ok (.aload_n 0, 1) := by decide +kernel
theorem dX5_entries_1 : decode cX5_entries 1 = .ok (.getfield 22, 3) := by decide +kernel
theorem dX5_entries_4 : decode cX5_entries 4 = .ok (.invokevirtual 90, 3) := by decide +kernel
theorem dX5_entries_7 : decode cX5_entries 7 = .ok (.ireturn, 1) := by decide +kernel
set_option maxRecDepth 20000 in
theorem ggX5_changeOf_X5_requireEntry : GoodIn wsX5_changeOf wsX5_requireEntry := goodIn_ca (goodIn_r _ [8, 1, 9, 10, 11, 12, 13, 14, 15, 16, 7, 17, 18, 19, 37, 38, 39, 40, 41, 42, 43, 48, 49, 50] (by decide +kernel) (by decide +kernel)) (goodIn_sub (fun _ h => List.mem_cons_of_mem _ (List.mem_append_right _ h)) (by decide +kernel))
set_option maxRecDepth 20000 in
theorem gX5_changeOf_X5_requireEntry : GoodIn wsX5_changeOf (wsV RX5 181 RX5 yX5_requireEntry wsX5_requireEntry) := goodIn_app (goodIn_of _ (by decide +kernel)) ggX5_changeOf_X5_requireEntry
set_option maxRecDepth 20000 in
theorem ggX5_changeOf_Jx4a65c_get_915e3 : GoodIn wsX5_changeOf wsJx4a65c_get_915e3 := goodIn_r _ [23, 14, 24, 25, 26, 27, 28, 29, 30, 31, 32, 33, 34, 12, 35, 36, 48, 49, 50] (by decide +kernel) (by decide +kernel)
set_option maxRecDepth 20000 in
theorem gX5_changeOf_Jx4a65c_get_915e3 : GoodIn wsX5_changeOf (wsV RX5 60 RJx4a65c yJx4a65c_get_915e3 wsJx4a65c_get_915e3) := goodIn_app (goodIn_of _ (by decide +kernel)) ggX5_changeOf_Jx4a65c_get_915e3
theorem dX5_changeOf_0 : decode cX5_changeOf 0 = .ok (.aload_n 0, 1) := by decide +kernel
theorem dX5_changeOf_1 : decode cX5_changeOf 1 = .ok (.iload_n 1, 1) := by decide +kernel
theorem dX5_changeOf_2 : decode cX5_changeOf 2 = .ok (.invokevirtual 181, 3) := by decide +kernel
theorem dX5_changeOf_5 : decode cX5_changeOf 5 = .ok (.aload_n 0, 1) := by decide +kernel
theorem dX5_changeOf_6 : decode cX5_changeOf 6 = .ok (.getfield 22, 3) := by decide +kernel
theorem dX5_changeOf_9 : decode cX5_changeOf 9 = .ok (.iload_n 1, 1) := by decide +kernel
theorem dX5_changeOf_10 : decode cX5_changeOf 10 = .ok (.invokevirtual 60, 3) := by decide +kernel
theorem dX5_changeOf_13 : decode cX5_changeOf 13 = .ok (.checkcast 166, 3) := by decide +kernel
theorem dX5_changeOf_16 : decode cX5_changeOf 16 = .ok (.getfield 172, 3) := by decide +kernel
theorem dX5_changeOf_19 : decode cX5_changeOf 19 = .ok (.ireturn, 1) := by decide +kernel
set_option maxRecDepth 20000 in
theorem ggX5_lotOf_X5_requireEntry : GoodIn wsX5_lotOf wsX5_requireEntry := goodIn_ca (goodIn_r _ [10, 1, 11, 12, 13, 14, 15, 16, 17, 18, 9, 19, 20, 21, 39, 40, 41, 42, 43, 44, 45, 55, 56, 57] (by decide +kernel) (by decide +kernel)) (goodIn_sub (fun _ h => List.mem_cons_of_mem _ (List.mem_append_right _ h)) (by decide +kernel))
set_option maxRecDepth 20000 in
theorem gX5_lotOf_X5_requireEntry : GoodIn wsX5_lotOf (wsV RX5 181 RX5 yX5_requireEntry wsX5_requireEntry) := goodIn_app (goodIn_of _ (by decide +kernel)) ggX5_lotOf_X5_requireEntry
set_option maxRecDepth 20000 in
theorem ggX5_lotOf_Jx4a65c_get_915e3 : GoodIn wsX5_lotOf wsJx4a65c_get_915e3 := goodIn_r _ [25, 16, 26, 27, 28, 29, 30, 31, 32, 33, 34, 35, 36, 14, 37, 38, 55, 56, 57] (by decide +kernel) (by decide +kernel)
set_option maxRecDepth 20000 in
theorem gX5_lotOf_Jx4a65c_get_915e3 : GoodIn wsX5_lotOf (wsV RX5 60 RJx4a65c yJx4a65c_get_915e3 wsJx4a65c_get_915e3) := goodIn_app (goodIn_of _ (by decide +kernel)) ggX5_lotOf_Jx4a65c_get_915e3
theorem dX5_lotOf_0 : decode cX5_lotOf 0 = .ok (.aload_n 0, 1) := by decide +kernel
theorem dX5_lotOf_1 : decode cX5_lotOf 1 = .ok (.iload_n 1, 1) := by decide +kernel
theorem dX5_lotOf_2 : decode cX5_lotOf 2 = .ok (.invokevirtual 181, 3) := by decide +kernel
theorem dX5_lotOf_5 : decode cX5_lotOf 5 = .ok (.aload_n 0, 1) := by decide +kernel
theorem dX5_lotOf_6 : decode cX5_lotOf 6 = .ok (.getfield 22, 3) := by decide +kernel
theorem dX5_lotOf_9 : decode cX5_lotOf 9 = .ok (.iload_n 1, 1) := by decide +kernel
theorem dX5_lotOf_10 : decode cX5_lotOf 10 = .ok (.invokevirtual 60, 3) := by decide +kernel
theorem dX5_lotOf_13 : decode cX5_lotOf 13 = .ok (.checkcast 166, 3) := by decide +kernel
theorem dX5_lotOf_16 : decode cX5_lotOf 16 = .ok (.astore_n 2, 1) := by decide +kernel
theorem dX5_lotOf_17 : decode cX5_lotOf 17 = .ok (.bipush 10, 2) := by decide +kernel
theorem dX5_lotOf_19 : decode cX5_lotOf 19 = .ok (.aload_n 2, 1) := by decide +kernel
theorem dX5_lotOf_20 : decode cX5_lotOf 20 = .ok (.getfield 168, 3) := by decide +kernel
theorem dX5_lotOf_23 : decode cX5_lotOf 23 = .ok (.getfield 184, 3) := by decide +kernel
theorem dX5_lotOf_26 : decode cX5_lotOf 26 = .ok (.imul, 1) := by decide +kernel
theorem dX5_lotOf_27 : decode cX5_lotOf 27 = .ok (.aload_n 2, 1) := by decide +kernel
theorem dX5_lotOf_28 : decode cX5_lotOf 28 = .ok (.getfield 185, 3) := by decide +kernel
theorem dX5_lotOf_31 : decode cX5_lotOf 31 = .ok (.iadd, 1) := by decide +kernel
theorem dX5_lotOf_32 : decode cX5_lotOf 32 = .ok (.ireturn, 1) := by decide +kernel
set_option maxRecDepth 20000 in
theorem ggX5_changed_X5_requireRange : GoodIn wsX5_changed wsX5_requireRange := goodIn_ca (goodIn_r _ [11, 1, 2] (by decide +kernel) (by decide +kernel)) (goodIn_sub (fun _ h => List.mem_cons_of_mem _ (List.mem_append_right _ h)) (by decide +kernel))
set_option maxRecDepth 20000 in
theorem gX5_changed_X5_requireRange : GoodIn wsX5_changed (va_wsS RX5 81 yX5_requireRange wsX5_requireRange) := goodIn_app (goodIn_of _ (by decide +kernel)) ggX5_changed_X5_requireRange
set_option maxRecDepth 20000 in
theorem ggX5_changed_Jx4a65c_size_8abf5 : GoodIn wsX5_changed wsJx4a65c_size_8abf5 := goodIn_r _ [16, 17, 46, 47, 48] (by decide +kernel) (by decide +kernel)
set_option maxRecDepth 20000 in
theorem gX5_changed_Jx4a65c_size_8abf5 : GoodIn wsX5_changed (wsV RX5 90 RJx4a65c yJx4a65c_size_8abf5 wsJx4a65c_size_8abf5) := goodIn_app (goodIn_of _ (by decide +kernel)) ggX5_changed_Jx4a65c_size_8abf5
set_option maxRecDepth 20000 in
theorem ggX5_changed_Jx4a65c_get_915e3 : GoodIn wsX5_changed wsJx4a65c_get_915e3 := goodIn_r _ [21, 17, 22, 23, 24, 25, 26, 27, 28, 29, 30, 31, 32, 15, 33, 34, 46, 47, 48] (by decide +kernel) (by decide +kernel)
set_option maxRecDepth 20000 in
theorem gX5_changed_Jx4a65c_get_915e3 : GoodIn wsX5_changed (wsV RX5 60 RJx4a65c yJx4a65c_get_915e3 wsJx4a65c_get_915e3) := goodIn_app (goodIn_of _ (by decide +kernel)) ggX5_changed_Jx4a65c_get_915e3
theorem dX5_changed_0 : decode cX5_changed 0 = .ok (.iload_n 1, 1) := by decide +kernel
theorem dX5_changed_1 : decode cX5_changed 1 = .ok (.ifCond .ge 13, 3) := by decide +kernel
theorem dX5_changed_4 : decode cX5_changed 4 = .ok (.new 108, 3) := by decide +kernel
theorem dX5_changed_7 : decode cX5_changed 7 = .ok (.dup, 1) := by decide +kernel
theorem dX5_changed_8 : decode cX5_changed 8 = .ok (.ldc 188, 2) := by decide +kernel
theorem dX5_changed_10 : decode cX5_changed 10 = .ok (.invokespecial 112, 3) := by decide +kernel
theorem dX5_changed_13 : decode cX5_changed 13 = .ok (.athrow, 1) := by decide +kernel
theorem dX5_changed_14 : decode cX5_changed 14 = .ok (.iload_n 2, 1) := by decide +kernel
theorem dX5_changed_15 : decode cX5_changed 15 = .ok (.iconst 0, 1) := by decide +kernel
theorem dX5_changed_16 : decode cX5_changed 16 = .ok (.iconst 5, 1) := by decide +kernel
theorem dX5_changed_17 : decode cX5_changed 17 = .ok (.invokestatic 81, 3) := by decide +kernel
theorem dX5_changed_20 : decode cX5_changed 20 = .ok (.iconst 0, 1) := by decide +kernel
theorem dX5_changed_21 : decode cX5_changed 21 = .ok (.istore_n 3, 1) := by decide +kernel
theorem dX5_changed_22 : decode cX5_changed 22 = .ok (.iconst 0, 1) := by decide +kernel
theorem dX5_changed_23 : decode cX5_changed 23 = .ok (.istore 4, 2) := by decide +kernel
theorem dX5_changed_25 : decode cX5_changed 25 = .ok (.iload 4, 2) := by decide +kernel
theorem dX5_changed_27 : decode cX5_changed 27 = .ok (.aload_n 0, 1) := by decide +kernel
theorem dX5_changed_28 : decode cX5_changed 28 = .ok (.getfield 22, 3) := by decide +kernel
theorem dX5_changed_31 : decode cX5_changed 31 = .ok (.invokevirtual 90, 3) := by decide +kernel
theorem dX5_changed_34 : decode cX5_changed 34 = .ok (.if_icmp .ge 49, 3) := by decide +kernel
theorem dX5_changed_37 : decode cX5_changed 37 = .ok (.aload_n 0, 1) := by decide +kernel
theorem dX5_changed_38 : decode cX5_changed 38 = .ok (.getfield 22, 3) := by decide +kernel
theorem dX5_changed_41 : decode cX5_changed 41 = .ok (.iload 4, 2) := by decide +kernel
theorem dX5_changed_43 : decode cX5_changed 43 = .ok (.invokevirtual 60, 3) := by decide +kernel
theorem dX5_changed_46 : decode cX5_changed 46 = .ok (.checkcast 166, 3) := by decide +kernel
theorem dX5_changed_49 : decode cX5_changed 49 = .ok (.astore 5, 2) := by decide +kernel
theorem dX5_changed_51 : decode cX5_changed 51 = .ok (.aload 5, 2) := by decide +kernel
theorem dX5_changed_53 : decode cX5_changed 53 = .ok (.getfield 190, 3) := by decide +kernel
theorem dX5_changed_56 : decode cX5_changed 56 = .ok (.iload_n 1, 1) := by decide +kernel
theorem dX5_changed_57 : decode cX5_changed 57 = .ok (.if_icmp .ne 20, 3) := by decide +kernel
theorem dX5_changed_60 : decode cX5_changed 60 = .ok (.aload 5, 2) := by decide +kernel
theorem dX5_changed_62 : decode cX5_changed 62 = .ok (.getfield 185, 3) := by decide +kernel
theorem dX5_changed_65 : decode cX5_changed 65 = .ok (.iload_n 2, 1) := by decide +kernel
theorem dX5_changed_66 : decode cX5_changed 66 = .ok (.if_icmp .ne 11, 3) := by decide +kernel
theorem dX5_changed_69 : decode cX5_changed 69 = .ok (.iload_n 3, 1) := by decide +kernel
theorem dX5_changed_70 : decode cX5_changed 70 = .ok (.aload 5, 2) := by decide +kernel
theorem dX5_changed_72 : decode cX5_changed 72 = .ok (.getfield 172, 3) := by decide +kernel
theorem dX5_changed_75 : decode cX5_changed 75 = .ok (.iadd, 1) := by decide +kernel
theorem dX5_changed_76 : decode cX5_changed 76 = .ok (.istore_n 3, 1) := by decide +kernel
theorem dX5_changed_77 : decode cX5_changed 77 = .ok (.iinc 4 1, 3) := by decide +kernel
theorem dX5_changed_80 : decode cX5_changed 80 = .ok (.goto (-55), 3) := by decide +kernel
theorem dX5_changed_83 : decode cX5_changed 83 = .ok (.iload_n 3, 1) := by decide +kernel
theorem dX5_changed_84 : decode cX5_changed 84 = .ok (.ireturn, 1) := by decide +kernel
set_option maxRecDepth 20000 in
theorem ggX5_requireDepot_Jx4a65c_size_8abf5 : GoodIn wsX5_requireDepot wsJx4a65c_size_8abf5 := goodIn_r _ [6, 7, 21, 22, 23] (by decide +kernel) (by decide +kernel)
set_option maxRecDepth 20000 in
theorem gX5_requireDepot_Jx4a65c_size_8abf5 : GoodIn wsX5_requireDepot (wsV RX5 90 RJx4a65c yJx4a65c_size_8abf5 wsJx4a65c_size_8abf5) := goodIn_app (goodIn_of _ (by decide +kernel)) ggX5_requireDepot_Jx4a65c_size_8abf5
set_option maxRecDepth 20000 in
theorem ggX5_requireDepot_X5_requireIndex : GoodIn wsX5_requireDepot wsX5_requireIndex := goodIn_ca (goodIn_r _ [11, 12, 13] (by decide +kernel) (by decide +kernel)) (goodIn_sub (fun _ h => List.mem_cons_of_mem _ (List.mem_append_right _ h)) (by decide +kernel))
set_option maxRecDepth 20000 in
theorem gX5_requireDepot_X5_requireIndex : GoodIn wsX5_requireDepot (va_wsS RX5 191 yX5_requireIndex wsX5_requireIndex) := goodIn_app (goodIn_of _ (by decide +kernel)) ggX5_requireDepot_X5_requireIndex
theorem dX5_requireDepot_0 : decode cX5_requireDepot 0 = .ok (.iload_n 1, 1) := by decide +kernel
theorem dX5_requireDepot_1 : decode cX5_requireDepot 1 = .ok (.aload_n 0, 1) := by decide +kernel
theorem dX5_requireDepot_2 : decode cX5_requireDepot 2 = .ok (.getfield 10, 3) := by decide +kernel
theorem dX5_requireDepot_5 : decode cX5_requireDepot 5 = .ok (.invokevirtual 90, 3) := by decide +kernel
theorem dX5_requireDepot_8 : decode cX5_requireDepot 8 = .ok (.invokestatic 191, 3) := by decide +kernel
theorem dX5_requireDepot_11 : decode cX5_requireDepot 11 = .ok (.return_, 1) := by decide +kernel
set_option maxRecDepth 20000 in
theorem ggX5_requireGood_X5_requireIndex : GoodIn wsX5_requireGood wsX5_requireIndex := goodIn_ca (goodIn_r _ [4, 5, 6] (by decide +kernel) (by decide +kernel)) (goodIn_sub (fun _ h => List.mem_cons_of_mem _ (List.mem_append_right _ h)) (by decide +kernel))
set_option maxRecDepth 20000 in
theorem gX5_requireGood_X5_requireIndex : GoodIn wsX5_requireGood (va_wsS RX5 191 yX5_requireIndex wsX5_requireIndex) := goodIn_app (goodIn_of _ (by decide +kernel)) ggX5_requireGood_X5_requireIndex
theorem dX5_requireGood_0 : decode cX5_requireGood 0 = .ok (.iload_n 1, 1) := by decide +kernel
theorem dX5_requireGood_1 : decode cX5_requireGood 1 = .ok (.iconst 5, 1) := by decide +kernel
theorem dX5_requireGood_2 : decode cX5_requireGood 2 = .ok (.invokestatic 191, 3) := by decide +kernel
theorem dX5_requireGood_5 : decode cX5_requireGood 5 = .ok (.return_, 1) := by decide +kernel
set_option maxRecDepth 20000 in
theorem ggX5_requireLot_Jx4a65c_size_8abf5 : GoodIn wsX5_requireLot wsJx4a65c_size_8abf5 := goodIn_r _ [6, 7, 21, 22, 23] (by decide +kernel) (by decide +kernel)
set_option maxRecDepth 20000 in
theorem gX5_requireLot_Jx4a65c_size_8abf5 : GoodIn wsX5_requireLot (wsV RX5 90 RJx4a65c yJx4a65c_size_8abf5 wsJx4a65c_size_8abf5) := goodIn_app (goodIn_of _ (by decide +kernel)) ggX5_requireLot_Jx4a65c_size_8abf5
set_option maxRecDepth 20000 in
theorem ggX5_requireLot_X5_requireIndex : GoodIn wsX5_requireLot wsX5_requireIndex := goodIn_ca (goodIn_r _ [11, 12, 13] (by decide +kernel) (by decide +kernel)) (goodIn_sub (fun _ h => List.mem_cons_of_mem _ (List.mem_append_right _ h)) (by decide +kernel))
set_option maxRecDepth 20000 in
theorem gX5_requireLot_X5_requireIndex : GoodIn wsX5_requireLot (va_wsS RX5 191 yX5_requireIndex wsX5_requireIndex) := goodIn_app (goodIn_of _ (by decide +kernel)) ggX5_requireLot_X5_requireIndex
theorem dX5_requireLot_0 : decode cX5_requireLot 0 = .ok (.iload_n 1, 1) := by decide +kernel
theorem dX5_requireLot_1 : decode cX5_requireLot 1 = .ok (.aload_n 0, 1) := by decide +kernel
theorem dX5_requireLot_2 : decode cX5_requireLot 2 = .ok (.getfield 16, 3) := by decide +kernel
theorem dX5_requireLot_5 : decode cX5_requireLot 5 = .ok (.invokevirtual 90, 3) := by decide +kernel
theorem dX5_requireLot_8 : decode cX5_requireLot 8 = .ok (.invokestatic 191, 3) := by decide +kernel
theorem dX5_requireLot_11 : decode cX5_requireLot 11 = .ok (.return_, 1) := by decide +kernel
set_option maxRecDepth 20000 in
theorem ggX5_requireWork_Jx4a65c_size_8abf5 : GoodIn wsX5_requireWork wsJx4a65c_size_8abf5 := goodIn_r _ [6, 7, 21, 22, 23] (by decide +kernel) (by decide +kernel)
set_option maxRecDepth 20000 in
theorem gX5_requireWork_Jx4a65c_size_8abf5 : GoodIn wsX5_requireWork (wsV RX5 90 RJx4a65c yJx4a65c_size_8abf5 wsJx4a65c_size_8abf5) := goodIn_app (goodIn_of _ (by decide +kernel)) ggX5_requireWork_Jx4a65c_size_8abf5
set_option maxRecDepth 20000 in
theorem ggX5_requireWork_X5_requireIndex : GoodIn wsX5_requireWork wsX5_requireIndex := goodIn_ca (goodIn_r _ [11, 12, 13] (by decide +kernel) (by decide +kernel)) (goodIn_sub (fun _ h => List.mem_cons_of_mem _ (List.mem_append_right _ h)) (by decide +kernel))
set_option maxRecDepth 20000 in
theorem gX5_requireWork_X5_requireIndex : GoodIn wsX5_requireWork (va_wsS RX5 191 yX5_requireIndex wsX5_requireIndex) := goodIn_app (goodIn_of _ (by decide +kernel)) ggX5_requireWork_X5_requireIndex
theorem dX5_requireWork_0 : decode cX5_requireWork 0 = .ok (.iload_n 1, 1) := by decide +kernel
theorem dX5_requireWork_1 : decode cX5_requireWork 1 = .ok (.aload_n 0, 1) := by decide +kernel
theorem dX5_requireWork_2 : decode cX5_requireWork 2 = .ok (.getfield 19, 3) := by decide +kernel
theorem dX5_requireWork_5 : decode cX5_requireWork 5 = .ok (.invokevirtual 90, 3) := by decide +kernel
theorem dX5_requireWork_8 : decode cX5_requireWork 8 = .ok (.invokestatic 191, 3) := by decide +kernel
theorem dX5_requireWork_11 : decode cX5_requireWork 11 = .ok (.return_, 1) := by decide +kernel
set_option maxRecDepth 20000 in
theorem ggX5_requireEntry_Jx4a65c_size_8abf5 : GoodIn wsX5_requireEntry wsJx4a65c_size_8abf5 := goodIn_r _ [6, 7, 21, 22, 23] (by decide +kernel) (by decide +kernel)
set_option maxRecDepth 20000 in
theorem gX5_requireEntry_Jx4a65c_size_8abf5 : GoodIn wsX5_requireEntry (wsV RX5 90 RJx4a65c yJx4a65c_size_8abf5 wsJx4a65c_size_8abf5) := goodIn_app (goodIn_of _ (by decide +kernel)) ggX5_requireEntry_Jx4a65c_size_8abf5
set_option maxRecDepth 20000 in
theorem ggX5_requireEntry_X5_requireIndex : GoodIn wsX5_requireEntry wsX5_requireIndex := goodIn_ca (goodIn_r _ [11, 12, 13] (by decide +kernel) (by decide +kernel)) (goodIn_sub (fun _ h => List.mem_cons_of_mem _ (List.mem_append_right _ h)) (by decide +kernel))
set_option maxRecDepth 20000 in
theorem gX5_requireEntry_X5_requireIndex : GoodIn wsX5_requireEntry (va_wsS RX5 191 yX5_requireIndex wsX5_requireIndex) := goodIn_app (goodIn_of _ (by decide +kernel)) ggX5_requireEntry_X5_requireIndex
theorem dX5_requireEntry_0 : decode cX5_requireEntry 0 = .ok (.iload_n 1, 1) := by decide +kernel
theorem dX5_requireEntry_1 : decode cX5_requireEntry 1 = .ok (.aload_n 0, 1) := by decide +kernel
theorem dX5_requireEntry_2 : decode cX5_requireEntry 2 = .ok (.getfield 22, 3) := by decide +kernel
theorem dX5_requireEntry_5 : decode cX5_requireEntry 5 = .ok (.invokevirtual 90, 3) := by decide +kernel
theorem dX5_requireEntry_8 : decode cX5_requireEntry 8 = .ok (.invokestatic 191, 3) := by decide +kernel
theorem dX5_requireEntry_11 : decode cX5_requireEntry 11 = .ok (.return_, 1) := by decide +kernel
theorem dX5_requireIndex_0 : decode cX5_requireIndex 0 = .ok (.iload_n 0, 1) := by decide +kernel
theorem dX5_requireIndex_1 : decode cX5_requireIndex 1 = .ok (.ifCond .lt 8, 3) := by decide +kernel
theorem dX5_requireIndex_4 : decode cX5_requireIndex 4 = .ok (.iload_n 0, 1) := by decide +kernel
theorem dX5_requireIndex_5 : decode cX5_requireIndex 5 = .ok (.iload_n 1, 1) := by decide +kernel
theorem dX5_requireIndex_6 : decode cX5_requireIndex 6 = .ok (.if_icmp .lt 13, 3) := by decide +kernel
theorem dX5_requireIndex_9 : decode cX5_requireIndex 9 = .ok (.new 194, 3) := by decide +kernel
theorem dX5_requireIndex_12 : decode cX5_requireIndex 12 = .ok (.dup, 1) := by decide +kernel
theorem dX5_requireIndex_13 : decode cX5_requireIndex 13 = .ok (.ldc 196, 2) := by decide +kernel
theorem dX5_requireIndex_15 : decode cX5_requireIndex 15 = .ok (.invokespecial 198, 3) := by decide +kernel
theorem dX5_requireIndex_18 : decode cX5_requireIndex 18 = .ok (.athrow, 1) := by decide +kernel
theorem dX5_requireIndex_19 : decode cX5_requireIndex 19 = .ok (.return_, 1) := by decide +kernel
theorem dX5_requireRange_0 : decode cX5_requireRange 0 = .ok (.iload_n 0, 1) := by decide +kernel
theorem dX5_requireRange_1 : decode cX5_requireRange 1 = .ok (.iload_n 1, 1) := by decide +kernel
theorem dX5_requireRange_2 : decode cX5_requireRange 2 = .ok (.if_icmp .lt 8, 3) := by decide +kernel
theorem dX5_requireRange_5 : decode cX5_requireRange 5 = .ok (.iload_n 0, 1) := by decide +kernel
theorem dX5_requireRange_6 : decode cX5_requireRange 6 = .ok (.iload_n 2, 1) := by decide +kernel
theorem dX5_requireRange_7 : decode cX5_requireRange 7 = .ok (.if_icmp .le 13, 3) := by decide +kernel
theorem dX5_requireRange_10 : decode cX5_requireRange 10 = .ok (.new 108, 3) := by decide +kernel
theorem dX5_requireRange_13 : decode cX5_requireRange 13 = .ok (.dup, 1) := by decide +kernel
theorem dX5_requireRange_14 : decode cX5_requireRange 14 = .ok (.ldc 199, 2) := by decide +kernel
theorem dX5_requireRange_16 : decode cX5_requireRange 16 = .ok (.invokespecial 112, 3) := by decide +kernel
theorem dX5_requireRange_19 : decode cX5_requireRange 19 = .ok (.athrow, 1) := by decide +kernel
theorem dX5_requireRange_20 : decode cX5_requireRange 20 = .ok (.return_, 1) := by decide +kernel
set_option maxRecDepth 20000 in
theorem ggX5_requireDays_X5_requireRange : GoodIn wsX5_requireDays wsX5_requireRange := goodIn_ca (goodIn_r _ [4, 5, 6] (by decide +kernel) (by decide +kernel)) (goodIn_sub (fun _ h => List.mem_cons_of_mem _ (List.mem_append_right _ h)) (by decide +kernel))
set_option maxRecDepth 20000 in
theorem gX5_requireDays_X5_requireRange : GoodIn wsX5_requireDays (va_wsS RX5 81 yX5_requireRange wsX5_requireRange) := goodIn_app (goodIn_of _ (by decide +kernel)) ggX5_requireDays_X5_requireRange
theorem dX5_requireDays_0 : decode cX5_requireDays 0 = .ok (.iload_n 0, 1) := by decide +kernel
theorem dX5_requireDays_1 : decode cX5_requireDays 1 = .ok (.iconst 0, 1) := by decide +kernel
theorem dX5_requireDays_2 : decode cX5_requireDays 2 = .ok (.sipush 1000, 3) := by decide +kernel
theorem dX5_requireDays_5 : decode cX5_requireDays 5 = .ok (.invokestatic 81, 3) := by decide +kernel
theorem dX5_requireDays_8 : decode cX5_requireDays 8 = .ok (.iload_n 1, 1) := by decide +kernel
theorem dX5_requireDays_9 : decode cX5_requireDays 9 = .ok (.iconst (-1), 1) := by decide +kernel
theorem dX5_requireDays_10 : decode cX5_requireDays 10 = .ok (.if_icmp .eq 11, 3) := by decide +kernel
theorem dX5_requireDays_13 : decode cX5_requireDays 13 = .ok (.iload_n 1, 1) := by decide +kernel
theorem dX5_requireDays_14 : decode cX5_requireDays 14 = .ok (.iload_n 0, 1) := by decide +kernel
theorem dX5_requireDays_15 : decode cX5_requireDays 15 = .ok (.sipush 1000, 3) := by decide +kernel
theorem dX5_requireDays_18 : decode cX5_requireDays 18 = .ok (.invokestatic 81, 3) := by decide +kernel
theorem dX5_requireDays_21 : decode cX5_requireDays 21 = .ok (.return_, 1) := by decide +kernel
set_option maxRecDepth 20000 in
theorem ggX5_requireReached_X0_include : GoodIn wsX5_requireReached wsX0_include := goodIn_r _ [9, 10, 11, 22, 23] (by decide +kernel) (by decide +kernel)
set_option maxRecDepth 20000 in
theorem gX5_requireReached_X0_include : GoodIn wsX5_requireReached (wsV RX5 70 RX0 yX0_include wsX0_include) := goodIn_app (goodIn_of _ (by decide +kernel)) ggX5_requireReached_X0_include
theorem dX5_requireReached_0 : decode cX5_requireReached 0 = .ok (.aload_n 1, 1) := by decide +kernel
theorem dX5_requireReached_1 : decode cX5_requireReached 1 = .ok (.getfield 64, 3) := by decide +kernel
theorem dX5_requireReached_4 : decode cX5_requireReached 4 = .ok (.aload_n 0, 1) := by decide +kernel
theorem dX5_requireReached_5 : decode cX5_requireReached 5 = .ok (.getfield 32, 3) := by decide +kernel
theorem dX5_requireReached_8 : decode cX5_requireReached 8 = .ok (.invokevirtual 70, 3) := by decide +kernel
theorem dX5_requireReached_11 : decode cX5_requireReached 11 = .ok (.ifCond .eq 13, 3) := by decide +kernel
theorem dX5_requireReached_14 : decode cX5_requireReached 14 = .ok (.new 122, 3) := by decide +kernel
theorem dX5_requireReached_17 : decode cX5_requireReached 17 = .ok (.dup, 1) := by decide +kernel
theorem dX5_requireReached_18 : decode cX5_requireReached 18 = .ok (.ldc 201, 2) := by decide +kernel
theorem dX5_requireReached_20 : decode cX5_requireReached 20 = .ok (.invokespecial 126, 3) := by decide +kernel
theorem dX5_requireReached_23 : decode cX5_requireReached 23 = .ok (.athrow, 1) := by decide +kernel
theorem dX5_requireReached_24 : decode cX5_requireReached 24 = .ok (.return_, 1) := by decide +kernel
set_option maxRecDepth 20000 in
theorem ggX5_requireRoomForLot_Jx4a65c_size_8abf5 : GoodIn wsX5_requireRoomForLot wsJx4a65c_size_8abf5 := goodIn_r _ [8, 9, 17, 18, 19] (by decide +kernel) (by decide +kernel)
set_option maxRecDepth 20000 in
theorem gX5_requireRoomForLot_Jx4a65c_size_8abf5 : GoodIn wsX5_requireRoomForLot (wsV RX5 90 RJx4a65c yJx4a65c_size_8abf5 wsJx4a65c_size_8abf5) := goodIn_app (goodIn_of _ (by decide +kernel)) ggX5_requireRoomForLot_Jx4a65c_size_8abf5
theorem dX5_requireRoomForLot_0 : decode cX5_requireRoomForLot 0 = .ok (.aload_n 0, 1) := by decide +kernel
theorem dX5_requireRoomForLot_1 : decode cX5_requireRoomForLot 1 = .ok (.getfield 16, 3) := by decide +kernel
theorem dX5_requireRoomForLot_4 : decode cX5_requireRoomForLot 4 = .ok (.invokevirtual 90, 3) := by decide +kernel
theorem dX5_requireRoomForLot_7 : decode cX5_requireRoomForLot 7 = .ok (.bipush 40, 2) := by decide +kernel
theorem dX5_requireRoomForLot_9 : decode cX5_requireRoomForLot 9 = .ok (.if_icmp .lt 13, 3) := by decide +kernel
theorem dX5_requireRoomForLot_12 : decode cX5_requireRoomForLot 12 = .ok (.new 122, 3) := by decide +kernel
theorem dX5_requireRoomForLot_15 : decode cX5_requireRoomForLot 15 = .ok (.dup, 1) := by decide +kernel
theorem dX5_requireRoomForLot_16 : decode cX5_requireRoomForLot 16 = .ok (.ldc 203, 2) := by decide +kernel
theorem dX5_requireRoomForLot_18 : decode cX5_requireRoomForLot 18 = .ok (.invokespecial 126, 3) := by decide +kernel
theorem dX5_requireRoomForLot_21 : decode cX5_requireRoomForLot 21 = .ok (.athrow, 1) := by decide +kernel
theorem dX5_requireRoomForLot_22 : decode cX5_requireRoomForLot 22 = .ok (.return_, 1) := by decide +kernel
set_option maxRecDepth 20000 in
theorem ggX5_addLot_Jx4a65c_add_9ea2d : GoodIn wsX5_addLot wsJx4a65c_add_9ea2d := goodIn_r _ [7, 8, 9, 10, 11, 12, 13, 14, 6, 15, 16, 17, 18, 19, 20, 21, 22, 23, 24, 25, 26, 27, 28, 29, 30, 31, 32, 33, 34, 35, 36, 37, 38, 39, 40, 41, 42, 43, 44, 45, 46, 47, 48, 49, 50, 51, 52, 53, 54, 55, 56, 57, 58, 97, 98, 99] (by decide +kernel) (by decide +kernel)
set_option maxRecDepth 20000 in
theorem gX5_addLot_Jx4a65c_add_9ea2d : GoodIn wsX5_addLot (wsV RX5 44 RJx4a65c yJx4a65c_add_9ea2d wsJx4a65c_add_9ea2d) := goodIn_app (goodIn_of _ (by decide +kernel)) ggX5_addLot_Jx4a65c_add_9ea2d
set_option maxRecDepth 20000 in
theorem ggX5_addLot_X5_changeAmount : GoodIn wsX5_addLot wsX5_changeAmount := goodIn_r _ [63, 64, 65, 66, 67, 68, 69, 70, 71, 72, 73, 6, 74, 11, 75, 76, 77, 78, 79, 80, 81, 82, 83, 84, 3, 4, 5, 7, 8, 9, 10, 12, 13, 14, 15, 16, 17, 18, 19, 20, 21, 22, 23, 24, 25, 26, 27, 28, 29, 30, 31, 32, 33, 34, 35, 36, 37, 38, 39, 40, 41, 42, 43, 44, 45, 46, 47, 48, 49, 50, 51, 52, 53, 54, 55, 56, 57, 58, 92, 93, 94, 95, 96, 85, 86, 87, 88, 89, 90, 91, 100, 101, 102, 103, 97, 98, 99] (by decide +kernel) (by decide +kernel)
set_option maxRecDepth 20000 in
theorem gX5_addLot_X5_changeAmount : GoodIn wsX5_addLot (wsV RX5 127 RX5 yX5_changeAmount wsX5_changeAmount) := goodIn_app (goodIn_of _ (by decide +kernel)) ggX5_addLot_X5_changeAmount
theorem dX5_addLot_0 : decode cX5_addLot 0 = .ok (.aload_n 0, 1) := by decide +kernel
theorem dX5_addLot_1 : decode cX5_addLot 1 = .ok (.getfield 16, 3) := by decide +kernel
theorem dX5_addLot_4 : decode cX5_addLot 4 = .ok (.aload_n 1, 1) := by decide +kernel
theorem dX5_addLot_5 : decode cX5_addLot 5 = .ok (.invokevirtual 44, 3) := by decide +kernel
theorem dX5_addLot_8 : decode cX5_addLot 8 = .ok (.pop, 1) := by decide +kernel
theorem dX5_addLot_9 : decode cX5_addLot 9 = .ok (.aload_n 0, 1) := by decide +kernel
theorem dX5_addLot_10 : decode cX5_addLot 10 = .ok (.aload_n 1, 1) := by decide +kernel
theorem dX5_addLot_11 : decode cX5_addLot 11 = .ok (.iload_n 2, 1) := by decide +kernel
theorem dX5_addLot_12 : decode cX5_addLot 12 = .ok (.iload_n 3, 1) := by decide +kernel
theorem dX5_addLot_13 : decode cX5_addLot 13 = .ok (.invokevirtual 127, 3) := by decide +kernel
theorem dX5_addLot_16 : decode cX5_addLot 16 = .ok (.aload_n 1, 1) := by decide +kernel
theorem dX5_addLot_17 : decode cX5_addLot 17 = .ok (.getfield 184, 3) := by decide +kernel
theorem dX5_addLot_20 : decode cX5_addLot 20 = .ok (.ireturn, 1) := by decide +kernel
set_option maxRecDepth 20000 in
theorem ggX5_changeAmount_Jx4a65c_size_8abf5 : GoodIn wsX5_changeAmount wsJx4a65c_size_8abf5 := goodIn_r _ [12, 13, 94, 95, 96] (by decide +kernel) (by decide +kernel)
set_option maxRecDepth 20000 in
theorem gX5_changeAmount_Jx4a65c_size_8abf5 : GoodIn wsX5_changeAmount (wsV RX5 90 RJx4a65c yJx4a65c_size_8abf5 wsJx4a65c_size_8abf5) := goodIn_app (goodIn_of _ (by decide +kernel)) ggX5_changeAmount_Jx4a65c_size_8abf5
set_option maxRecDepth 20000 in
theorem ggX5_changeAmount_X2_init : GoodIn wsX5_changeAmount wsX2_init := goodIn_r _ [16, 17, 18, 19, 20, 21, 22, 23, 90, 91, 92, 93] (by decide +kernel) (by decide +kernel)
set_option maxRecDepth 20000 in
theorem gX5_changeAmount_X2_init : GoodIn wsX5_changeAmount (wsX2_init) := ggX5_changeAmount_X2_init
set_option maxRecDepth 20000 in
theorem ggX5_changeAmount_Jx4a65c_add_9ea2d : GoodIn wsX5_changeAmount wsJx4a65c_add_9ea2d := goodIn_r _ [27, 28, 29, 30, 13, 31, 32, 33, 11, 34, 35, 36, 37, 38, 39, 40, 41, 42, 43, 44, 45, 46, 47, 48, 49, 50, 51, 52, 53, 54, 55, 56, 57, 58, 59, 60, 61, 62, 63, 64, 65, 66, 67, 68, 69, 70, 71, 72, 73, 74, 75, 76, 77, 94, 95, 96] (by decide +kernel) (by decide +kernel)
set_option maxRecDepth 20000 in
theorem gX5_changeAmount_Jx4a65c_add_9ea2d : GoodIn wsX5_changeAmount (wsV RX5 44 RJx4a65c yJx4a65c_add_9ea2d wsJx4a65c_add_9ea2d) := goodIn_app (goodIn_of _ (by decide +kernel)) ggX5_changeAmount_Jx4a65c_add_9ea2d
theorem dX5_changeAmount_0 : decode cX5_changeAmount 0 = .ok (.iload_n 2, 1) := by decide +kernel
theorem dX5_changeAmount_1 : decode cX5_changeAmount 1 = .ok (.ifCond .ne 4, 3) := by decide +kernel
theorem dX5_changeAmount_4 : decode cX5_changeAmount 4 = .ok (.return_, 1) := by decide +kernel
theorem dX5_changeAmount_5 : decode cX5_changeAmount 5 = .ok (.aload_n 1, 1) := by decide +kernel
theorem dX5_changeAmount_6 : decode cX5_changeAmount 6 = .ok (.dup, 1) := by decide +kernel
theorem dX5_changeAmount_7 : decode cX5_changeAmount 7 = .ok (.getfield 119, 3) := by decide +kernel
theorem dX5_changeAmount_10 : decode cX5_changeAmount 10 = .ok (.iload_n 2, 1) := by decide +kernel
theorem dX5_changeAmount_11 : decode cX5_changeAmount 11 = .ok (.iadd, 1) := by decide +kernel
theorem dX5_changeAmount_12 : decode cX5_changeAmount 12 = .ok (.putfield 119, 3) := by decide +kernel
theorem dX5_changeAmount_15 : decode cX5_changeAmount 15 = .ok (.aload_n 0, 1) := by decide +kernel
theorem dX5_changeAmount_16 : decode cX5_changeAmount 16 = .ok (.getfield 22, 3) := by decide +kernel
theorem dX5_changeAmount_19 : decode cX5_changeAmount 19 = .ok (.invokevirtual 90, 3) := by decide +kernel
theorem dX5_changeAmount_22 : decode cX5_changeAmount 22 = .ok (.ldc 205, 2) := by decide +kernel
theorem dX5_changeAmount_24 : decode cX5_changeAmount 24 = .ok (.if_icmp .ge 25, 3) := by decide +kernel
theorem dX5_changeAmount_27 : decode cX5_changeAmount 27 = .ok (.aload_n 0, 1) := by decide +kernel
theorem dX5_changeAmount_28 : decode cX5_changeAmount 28 = .ok (.getfield 22, 3) := by decide +kernel
theorem dX5_changeAmount_31 : decode cX5_changeAmount 31 = .ok (.new 166, 3) := by decide +kernel
theorem dX5_changeAmount_34 : decode cX5_changeAmount 34 = .ok (.dup, 1) := by decide +kernel
theorem dX5_changeAmount_35 : decode cX5_changeAmount 35 = .ok (.aload_n 0, 1) := by decide +kernel
theorem dX5_changeAmount_36 : decode cX5_changeAmount 36 = .ok (.getfield 36, 3) := by decide +kernel
theorem dX5_changeAmount_39 : decode cX5_changeAmount 39 = .ok (.aload_n 1, 1) := by decide +kernel
theorem dX5_changeAmount_40 : decode cX5_changeAmount 40 = .ok (.iload_n 2, 1) := by decide +kernel
theorem dX5_changeAmount_41 : decode cX5_changeAmount 41 = .ok (.iload_n 3, 1) := by decide +kernel
theorem dX5_changeAmount_42 : decode cX5_changeAmount 42 = .ok (.invokespecial 206, 3) := by decide +kernel
theorem dX5_changeAmount_45 : decode cX5_changeAmount 45 = .ok (.invokevirtual 44, 3) := by decide +kernel
theorem dX5_changeAmount_48 : decode cX5_changeAmount 48 = .ok (.pop, 1) := by decide +kernel
theorem dX5_changeAmount_49 : decode cX5_changeAmount 49 = .ok (.return_, 1) := by decide +kernel
set_option maxRecDepth 20000 in
theorem ggX5_throwAwayOld_Jx4a65c_size_8abf5 : GoodIn wsX5_throwAwayOld wsJx4a65c_size_8abf5 := goodIn_r _ [10, 11, 115, 116, 117] (by decide +kernel) (by decide +kernel)
set_option maxRecDepth 20000 in
theorem gX5_throwAwayOld_Jx4a65c_size_8abf5 : GoodIn wsX5_throwAwayOld (wsV RX5 90 RJx4a65c yJx4a65c_size_8abf5 wsJx4a65c_size_8abf5) := goodIn_app (goodIn_of _ (by decide +kernel)) ggX5_throwAwayOld_Jx4a65c_size_8abf5
set_option maxRecDepth 20000 in
theorem ggX5_throwAwayOld_Jx4a65c_get_915e3 : GoodIn wsX5_throwAwayOld wsJx4a65c_get_915e3 := goodIn_r _ [15, 11, 16, 17, 18, 19, 20, 21, 22, 23, 24, 25, 26, 9, 27, 28, 115, 116, 117] (by decide +kernel) (by decide +kernel)
set_option maxRecDepth 20000 in
theorem gX5_throwAwayOld_Jx4a65c_get_915e3 : GoodIn wsX5_throwAwayOld (wsV RX5 60 RJx4a65c yJx4a65c_get_915e3 wsJx4a65c_get_915e3) := goodIn_app (goodIn_of _ (by decide +kernel)) ggX5_throwAwayOld_Jx4a65c_get_915e3
set_option maxRecDepth 20000 in
theorem ggX5_throwAwayOld_X5_changeAmount : GoodIn wsX5_throwAwayOld wsX5_changeAmount := goodIn_r _ [33, 5, 34, 35, 36, 37, 38, 39, 6, 7, 8, 9, 10, 11, 40, 41, 42, 43, 44, 45, 46, 47, 48, 49, 50, 51, 52, 53, 54, 55, 28, 56, 57, 58, 59, 60, 61, 62, 63, 64, 65, 66, 67, 68, 69, 70, 71, 72, 73, 74, 75, 76, 77, 78, 79, 80, 81, 82, 83, 84, 85, 86, 87, 88, 89, 90, 91, 92, 93, 94, 95, 96, 97, 98, 99, 100, 101, 102, 110, 111, 112, 113, 114, 103, 104, 105, 106, 107, 108, 109, 118, 119, 120, 121, 115, 116, 117] (by decide +kernel) (by decide +kernel)
set_option maxRecDepth 20000 in
theorem gX5_throwAwayOld_X5_changeAmount : GoodIn wsX5_throwAwayOld (wsV RX5 127 RX5 yX5_changeAmount wsX5_changeAmount) := goodIn_app (goodIn_of _ (by decide +kernel)) ggX5_throwAwayOld_X5_changeAmount
theorem dX5_throwAwayOld_0 : decode cX5_throwAwayOld 0 = .ok (.iconst 0, 1) := by decide +kernel
theorem dX5_throwAwayOld_1 : decode cX5_throwAwayOld 1 = .ok (.istore_n 1, 1) := by decide +kernel
theorem dX5_throwAwayOld_2 : decode cX5_throwAwayOld 2 = .ok (.iload_n 1, 1) := by decide +kernel
theorem dX5_throwAwayOld_3 : decode cX5_throwAwayOld 3 = .ok (.aload_n 0, 1) := by decide +kernel
theorem dX5_throwAwayOld_4 : decode cX5_throwAwayOld 4 = .ok (.getfield 16, 3) := by decide +kernel
theorem dX5_throwAwayOld_7 : decode cX5_throwAwayOld 7 = .ok (.invokevirtual 90, 3) := by decide +kernel
theorem dX5_throwAwayOld_10 : decode cX5_throwAwayOld 10 = .ok (.if_icmp .ge 43, 3) := by decide +kernel
theorem dX5_throwAwayOld_13 : decode cX5_throwAwayOld 13 = .ok (.aload_n 0, 1) := by decide +kernel
theorem dX5_throwAwayOld_14 : decode cX5_throwAwayOld 14 = .ok (.getfield 16, 3) := by decide +kernel
theorem dX5_throwAwayOld_17 : decode cX5_throwAwayOld 17 = .ok (.iload_n 1, 1) := by decide +kernel
theorem dX5_throwAwayOld_18 : decode cX5_throwAwayOld 18 = .ok (.invokevirtual 60, 3) := by decide +kernel
theorem dX5_throwAwayOld_21 : decode cX5_throwAwayOld 21 = .ok (.checkcast 88, 3) := by decide +kernel
theorem dX5_throwAwayOld_24 : decode cX5_throwAwayOld 24 = .ok (.astore_n 2, 1) := by decide +kernel
theorem dX5_throwAwayOld_25 : decode cX5_throwAwayOld 25 = .ok (.aload_n 2, 1) := by decide +kernel
theorem dX5_throwAwayOld_26 : decode cX5_throwAwayOld 26 = .ok (.getfield 134, 3) := by decide +kernel
theorem dX5_throwAwayOld_29 : decode cX5_throwAwayOld 29 = .ok (.aload_n 0, 1) := by decide +kernel
theorem dX5_throwAwayOld_30 : decode cX5_throwAwayOld 30 = .ok (.getfield 32, 3) := by decide +kernel
theorem dX5_throwAwayOld_33 : decode cX5_throwAwayOld 33 = .ok (.if_icmp .ge 14, 3) := by decide +kernel
theorem dX5_throwAwayOld_36 : decode cX5_throwAwayOld 36 = .ok (.aload_n 0, 1) := by decide +kernel
theorem dX5_throwAwayOld_37 : decode cX5_throwAwayOld 37 = .ok (.aload_n 2, 1) := by decide +kernel
theorem dX5_throwAwayOld_38 : decode cX5_throwAwayOld 38 = .ok (.aload_n 2, 1) := by decide +kernel
theorem dX5_throwAwayOld_39 : decode cX5_throwAwayOld 39 = .ok (.getfield 119, 3) := by decide +kernel
theorem dX5_throwAwayOld_42 : decode cX5_throwAwayOld 42 = .ok (.ineg, 1) := by decide +kernel
theorem dX5_throwAwayOld_43 : decode cX5_throwAwayOld 43 = .ok (.iconst 4, 1) := by decide +kernel
theorem dX5_throwAwayOld_44 : decode cX5_throwAwayOld 44 = .ok (.invokevirtual 127, 3) := by decide +kernel
theorem dX5_throwAwayOld_47 : decode cX5_throwAwayOld 47 = .ok (.iinc 1 1, 3) := by decide +kernel
theorem dX5_throwAwayOld_50 : decode cX5_throwAwayOld 50 = .ok (.goto (-48), 3) := by decide +kernel
theorem dX5_throwAwayOld_53 : decode cX5_throwAwayOld 53 = .ok (.return_, 1) := by decide +kernel
set_option maxRecDepth 20000 in
theorem ggX5_freeze_X0_include : GoodIn wsX5_freeze wsX0_include := goodIn_r _ [13, 14, 15, 128, 129] (by decide +kernel) (by decide +kernel)
set_option maxRecDepth 20000 in
theorem gX5_freeze_X0_include : GoodIn wsX5_freeze (wsV RX5 70 RX0 yX0_include wsX0_include) := goodIn_app (goodIn_of _ (by decide +kernel)) ggX5_freeze_X0_include
set_option maxRecDepth 20000 in
theorem ggX5_freeze_Jx4a65c_size_8abf5 : GoodIn wsX5_freeze wsJx4a65c_size_8abf5 := goodIn_r _ [20, 21, 130, 131, 132] (by decide +kernel) (by decide +kernel)
set_option maxRecDepth 20000 in
theorem gX5_freeze_Jx4a65c_size_8abf5 : GoodIn wsX5_freeze (wsV RX5 90 RJx4a65c yJx4a65c_size_8abf5 wsJx4a65c_size_8abf5) := goodIn_app (goodIn_of _ (by decide +kernel)) ggX5_freeze_Jx4a65c_size_8abf5
set_option maxRecDepth 20000 in
theorem ggX5_freeze_Jx4a65c_get_915e3 : GoodIn wsX5_freeze wsJx4a65c_get_915e3 := goodIn_r _ [25, 21, 26, 27, 28, 29, 30, 31, 32, 33, 34, 35, 36, 19, 37, 38, 130, 131, 132] (by decide +kernel) (by decide +kernel)
set_option maxRecDepth 20000 in
theorem gX5_freeze_Jx4a65c_get_915e3 : GoodIn wsX5_freeze (wsV RX5 60 RJx4a65c yJx4a65c_get_915e3 wsJx4a65c_get_915e3) := goodIn_app (goodIn_of _ (by decide +kernel)) ggX5_freeze_Jx4a65c_get_915e3
set_option maxRecDepth 20000 in
theorem ggX5_freeze_X5_changeAmount : GoodIn wsX5_freeze wsX5_changeAmount := goodIn_r _ [43, 8, 44, 45, 46, 47, 48, 49, 16, 17, 18, 19, 20, 21, 50, 51, 52, 53, 54, 55, 56, 57, 58, 59, 60, 61, 62, 63, 64, 65, 38, 66, 67, 68, 69, 70, 71, 72, 73, 74, 75, 76, 77, 78, 79, 80, 81, 82, 83, 84, 85, 86, 87, 88, 89, 90, 91, 92, 93, 94, 95, 96, 97, 98, 99, 100, 101, 102, 103, 104, 105, 106, 107, 108, 109, 110, 111, 112, 120, 121, 122, 123, 124, 113, 114, 115, 116, 117, 118, 119, 133, 134, 135, 136, 130, 131, 132] (by decide +kernel) (by decide +kernel)
set_option maxRecDepth 20000 in
theorem gX5_freeze_X5_changeAmount : GoodIn wsX5_freeze (wsV RX5 127 RX5 yX5_changeAmount wsX5_changeAmount) := goodIn_app (goodIn_of _ (by decide +kernel)) ggX5_freeze_X5_changeAmount
theorem dX5_freeze_0 : decode cX5_freeze 0 = .ok (.aload_n 0, 1) := by decide +kernel
theorem dX5_freeze_1 : decode cX5_freeze 1 = .ok (.getfield 28, 3) := by decide +kernel
theorem dX5_freeze_4 : decode cX5_freeze 4 = .ok (.aload_n 0, 1) := by decide +kernel
theorem dX5_freeze_5 : decode cX5_freeze 5 = .ok (.getfield 32, 3) := by decide +kernel
theorem dX5_freeze_8 : decode cX5_freeze 8 = .ok (.invokevirtual 70, 3) := by decide +kernel
theorem dX5_freeze_11 : decode cX5_freeze 11 = .ok (.ifCond .ne 4, 3) := by decide +kernel
theorem dX5_freeze_14 : decode cX5_freeze 14 = .ok (.return_, 1) := by decide +kernel
theorem dX5_freeze_15 : decode cX5_freeze 15 = .ok (.iconst 0, 1) := by decide +kernel
theorem dX5_freeze_16 : decode cX5_freeze 16 = .ok (.istore_n 1, 1) := by decide +kernel
theorem dX5_freeze_17 : decode cX5_freeze 17 = .ok (.iload_n 1, 1) := by decide +kernel
theorem dX5_freeze_18 : decode cX5_freeze 18 = .ok (.aload_n 0, 1) := by decide +kernel
theorem dX5_freeze_19 : decode cX5_freeze 19 = .ok (.getfield 16, 3) := by decide +kernel
theorem dX5_freeze_22 : decode cX5_freeze 22 = .ok (.invokevirtual 90, 3) := by decide +kernel
theorem dX5_freeze_25 : decode cX5_freeze 25 = .ok (.if_icmp .ge 56, 3) := by decide +kernel
theorem dX5_freeze_28 : decode cX5_freeze 28 = .ok (.aload_n 0, 1) := by decide +kernel
theorem dX5_freeze_29 : decode cX5_freeze 29 = .ok (.getfield 16, 3) := by decide +kernel
theorem dX5_freeze_32 : decode cX5_freeze 32 = .ok (.iload_n 1, 1) := by decide +kernel
theorem dX5_freeze_33 : decode cX5_freeze 33 = .ok (.invokevirtual 60, 3) := by decide +kernel
theorem dX5_freeze_36 : decode cX5_freeze 36 = .ok (.checkcast 88, 3) := by decide +kernel
theorem dX5_freeze_39 : decode cX5_freeze 39 = .ok (.astore_n 2, 1) := by decide +kernel
theorem dX5_freeze_40 : decode cX5_freeze 40 = .ok (.aload_n 2, 1) := by decide +kernel
theorem dX5_freeze_41 : decode cX5_freeze 41 = .ok (.getfield 131, 3) := by decide +kernel
theorem dX5_freeze_44 : decode cX5_freeze 44 = .ok (.iconst 2, 1) := by decide +kernel
theorem dX5_freeze_45 : decode cX5_freeze 45 = .ok (.if_icmp .ge 30, 3) := by decide +kernel
theorem dX5_freeze_48 : decode cX5_freeze 48 = .ok (.aload_n 2, 1) := by decide +kernel
theorem dX5_freeze_49 : decode cX5_freeze 49 = .ok (.getfield 104, 3) := by decide +kernel
theorem dX5_freeze_52 : decode cX5_freeze 52 = .ok (.getfield 74, 3) := by decide +kernel
theorem dX5_freeze_55 : decode cX5_freeze 55 = .ok (.ifCond .ne 20, 3) := by decide +kernel
theorem dX5_freeze_58 : decode cX5_freeze 58 = .ok (.aload_n 0, 1) := by decide +kernel
theorem dX5_freeze_59 : decode cX5_freeze 59 = .ok (.aload_n 2, 1) := by decide +kernel
theorem dX5_freeze_60 : decode cX5_freeze 60 = .ok (.aload_n 2, 1) := by decide +kernel
theorem dX5_freeze_61 : decode cX5_freeze 61 = .ok (.getfield 119, 3) := by decide +kernel
theorem dX5_freeze_64 : decode cX5_freeze 64 = .ok (.bipush 9, 2) := by decide +kernel
theorem dX5_freeze_66 : decode cX5_freeze 66 = .ok (.iadd, 1) := by decide +kernel
theorem dX5_freeze_67 : decode cX5_freeze 67 = .ok (.bipush 10, 2) := by decide +kernel
theorem dX5_freeze_69 : decode cX5_freeze 69 = .ok (.idiv, 1) := by decide +kernel
theorem dX5_freeze_70 : decode cX5_freeze 70 = .ok (.ineg, 1) := by decide +kernel
theorem dX5_freeze_71 : decode cX5_freeze 71 = .ok (.iconst 2, 1) := by decide +kernel
theorem dX5_freeze_72 : decode cX5_freeze 72 = .ok (.invokevirtual 127, 3) := by decide +kernel
theorem dX5_freeze_75 : decode cX5_freeze 75 = .ok (.iinc 1 1, 3) := by decide +kernel
theorem dX5_freeze_78 : decode cX5_freeze 78 = .ok (.goto (-61), 3) := by decide +kernel
theorem dX5_freeze_81 : decode cX5_freeze 81 = .ok (.return_, 1) := by decide +kernel
set_option maxRecDepth 20000 in
theorem ggX5_feedPeople_X5_foodInStation : GoodIn wsX5_feedPeople wsX5_foodInStation := goodIn_r _ [9, 10, 11, 12, 13, 14, 15, 16, 17, 18, 19, 20, 21, 22, 23, 24, 25, 26, 27, 28, 29, 30, 31, 32, 33, 34, 35, 36, 37, 38, 39, 40, 41, 42, 43, 142, 143, 144, 145, 146, 147, 148, 149, 150, 151, 152, 153, 154, 155, 156, 157, 158, 159] (by decide +kernel) (by decide +kernel)
set_option maxRecDepth 20000 in
theorem gX5_feedPeople_X5_foodInStation : GoodIn wsX5_feedPeople (wsV RX5 178 RX5 yX5_foodInStation wsX5_foodInStation) := goodIn_app (goodIn_of _ (by decide +kernel)) ggX5_feedPeople_X5_foodInStation
set_option maxRecDepth 20000 in
theorem ggX5_feedPeople_X5_needOfAll : GoodIn wsX5_feedPeople wsX5_needOfAll := goodIn_r _ [47, 48, 49, 13, 14, 15, 16, 17, 18, 19, 20, 21, 22, 23, 24, 25, 26, 27, 28, 29, 30, 31, 32, 33, 34, 35, 50, 51, 52, 53, 54, 55, 56, 142, 143, 144, 145, 146, 147, 148, 154, 155, 156, 160, 161, 162, 163] (by decide +kernel) (by decide +kernel)
set_option maxRecDepth 20000 in
theorem gX5_feedPeople_X5_needOfAll : GoodIn wsX5_feedPeople (wsV RX5 175 RX5 yX5_needOfAll wsX5_needOfAll) := goodIn_app (goodIn_of _ (by decide +kernel)) ggX5_feedPeople_X5_needOfAll
set_option maxRecDepth 20000 in
theorem ggX5_feedPeople_X5_cutRations : GoodIn wsX5_feedPeople wsX5_cutRations := goodIn_r _ [60, 48, 49, 61, 1, 2, 3, 4, 62, 13, 14, 15, 16, 17, 18, 19, 20, 21, 22, 23, 24, 25, 26, 27, 28, 29, 30, 31, 32, 33, 34, 35, 50, 51, 52, 53, 54, 55, 56, 142, 143, 144, 145, 146, 147, 148, 160, 161, 162, 163, 154, 155, 156] (by decide +kernel) (by decide +kernel)
set_option maxRecDepth 20000 in
theorem gX5_feedPeople_X5_cutRations : GoodIn wsX5_feedPeople (wsV RX5 209 RX5 yX5_cutRations wsX5_cutRations) := goodIn_app (goodIn_of _ (by decide +kernel)) ggX5_feedPeople_X5_cutRations
set_option maxRecDepth 20000 in
theorem ggX5_feedPeople_X5_eatFromLots : GoodIn wsX5_feedPeople wsX5_eatFromLots := goodIn_r _ [66, 12, 1, 2, 3, 4, 67, 68, 69, 8, 70, 10, 11, 71, 13, 14, 15, 16, 17, 18, 19, 20, 21, 22, 23, 24, 25, 26, 27, 28, 29, 30, 31, 32, 33, 34, 35, 36, 37, 38, 39, 40, 41, 42, 43, 72, 73, 74, 75, 76, 77, 78, 79, 80, 81, 82, 83, 84, 85, 86, 87, 88, 89, 90, 91, 92, 93, 94, 95, 96, 97, 98, 99, 100, 101, 102, 103, 104, 105, 106, 107, 108, 109, 110, 111, 112, 113, 114, 115, 116, 117, 118, 119, 120, 121, 122, 123, 124, 125, 126, 127, 128, 129, 130, 131, 132, 133, 134, 135, 136, 137, 138, 139, 140, 141, 149, 150, 151, 152, 153, 142, 143, 144, 145, 146, 147, 148, 154, 155, 156, 157, 158, 159, 164, 165, 166, 167] (by decide +kernel) (by decide +kernel)
set_option maxRecDepth 20000 in
theorem gX5_feedPeople_X5_eatFromLots : GoodIn wsX5_feedPeople (wsV RX5 218 RX5 yX5_eatFromLots wsX5_eatFromLots) := goodIn_app (goodIn_of _ (by decide +kernel)) ggX5_feedPeople_X5_eatFromLots
theorem dX5_feedPeople_0 : decode cX5_feedPeople 0 = .ok (.aload_n 0, 1) := by decide +kernel
theorem dX5_feedPeople_1 : decode cX5_feedPeople 1 = .ok (.invokevirtual 178, 3) := by decide +kernel
theorem dX5_feedPeople_4 : decode cX5_feedPeople 4 = .ok (.istore_n 1, 1) := by decide +kernel
theorem dX5_feedPeople_5 : decode cX5_feedPeople 5 = .ok (.aload_n 0, 1) := by decide +kernel
theorem dX5_feedPeople_6 : decode cX5_feedPeople 6 = .ok (.invokevirtual 175, 3) := by decide +kernel
theorem dX5_feedPeople_9 : decode cX5_feedPeople 9 = .ok (.istore_n 2, 1) := by decide +kernel
theorem dX5_feedPeople_10 : decode cX5_feedPeople 10 = .ok (.iload_n 1, 1) := by decide +kernel
theorem dX5_feedPeople_11 : decode cX5_feedPeople 11 = .ok (.iload_n 2, 1) := by decide +kernel
theorem dX5_feedPeople_12 : decode cX5_feedPeople 12 = .ok (.if_icmp .ge 9, 3) := by decide +kernel
theorem dX5_feedPeople_15 : decode cX5_feedPeople 15 = .ok (.aload_n 0, 1) := by decide +kernel
theorem dX5_feedPeople_16 : decode cX5_feedPeople 16 = .ok (.iload_n 1, 1) := by decide +kernel
theorem dX5_feedPeople_17 : decode cX5_feedPeople 17 = .ok (.iload_n 2, 1) := by decide +kernel
theorem dX5_feedPeople_18 : decode cX5_feedPeople 18 = .ok (.invokevirtual 209, 3) := by decide +kernel
theorem dX5_feedPeople_21 : decode cX5_feedPeople 21 = .ok (.iload_n 1, 1) := by decide +kernel
theorem dX5_feedPeople_22 : decode cX5_feedPeople 22 = .ok (.iload_n 2, 1) := by decide +kernel
theorem dX5_feedPeople_23 : decode cX5_feedPeople 23 = .ok (.invokestatic 212, 3) := by decide +kernel
theorem dX5_feedPeople_26 : decode cX5_feedPeople 26 = .ok (.istore_n 3, 1) := by decide +kernel
theorem dX5_feedPeople_27 : decode cX5_feedPeople 27 = .ok (.aload_n 0, 1) := by decide +kernel
theorem dX5_feedPeople_28 : decode cX5_feedPeople 28 = .ok (.iload_n 3, 1) := by decide +kernel
theorem dX5_feedPeople_29 : decode cX5_feedPeople 29 = .ok (.invokevirtual 218, 3) := by decide +kernel
theorem dX5_feedPeople_32 : decode cX5_feedPeople 32 = .ok (.iload_n 3, 1) := by decide +kernel
theorem dX5_feedPeople_33 : decode cX5_feedPeople 33 = .ok (.ireturn, 1) := by decide +kernel
set_option maxRecDepth 20000 in
theorem ggX5_foodInStation_Jx4a65c_size_8abf5 : GoodIn wsX5_foodInStation wsJx4a65c_size_8abf5 := goodIn_r _ [8, 9, 47, 48, 49] (by decide +kernel) (by decide +kernel)
set_option maxRecDepth 20000 in
theorem gX5_foodInStation_Jx4a65c_size_8abf5 : GoodIn wsX5_foodInStation (wsV RX5 90 RJx4a65c yJx4a65c_size_8abf5 wsJx4a65c_size_8abf5) := goodIn_app (goodIn_of _ (by decide +kernel)) ggX5_foodInStation_Jx4a65c_size_8abf5
set_option maxRecDepth 20000 in
theorem ggX5_foodInStation_Jx4a65c_get_915e3 : GoodIn wsX5_foodInStation wsJx4a65c_get_915e3 := goodIn_r _ [13, 9, 14, 15, 16, 17, 18, 19, 20, 21, 22, 23, 24, 7, 25, 26, 47, 48, 49] (by decide +kernel) (by decide +kernel)
set_option maxRecDepth 20000 in
theorem gX5_foodInStation_Jx4a65c_get_915e3 : GoodIn wsX5_foodInStation (wsV RX5 60 RJx4a65c yJx4a65c_get_915e3 wsJx4a65c_get_915e3) := goodIn_app (goodIn_of _ (by decide +kernel)) ggX5_foodInStation_Jx4a65c_get_915e3
set_option maxRecDepth 20000 in
theorem ggX5_foodInStation_X3_isFoodInStation : GoodIn wsX5_foodInStation wsX3_isFoodInStation := goodIn_r _ [31, 32, 33, 34, 42, 43, 44, 45, 46, 50, 51, 52] (by decide +kernel) (by decide +kernel)
set_option maxRecDepth 20000 in
theorem gX5_foodInStation_X3_isFoodInStation : GoodIn wsX5_foodInStation (wsV RX5 221 RX3 yX3_isFoodInStation wsX3_isFoodInStation) := goodIn_app (goodIn_of _ (by decide +kernel)) ggX5_foodInStation_X3_isFoodInStation
theorem dX5_foodInStation_0 : decode cX5_foodInStation 0 = .ok (.iconst 0, 1) := by decide +kernel
theorem dX5_foodInStation_1 : decode cX5_foodInStation 1 = .ok (.istore_n 1, 1) := by decide +kernel
theorem dX5_foodInStation_2 : decode cX5_foodInStation 2 = .ok (.iconst 0, 1) := by decide +kernel
theorem dX5_foodInStation_3 : decode cX5_foodInStation 3 = .ok (.istore_n 2, 1) := by decide +kernel
theorem dX5_foodInStation_4 : decode cX5_foodInStation 4 = .ok (.iload_n 2, 1) := by decide +kernel
theorem dX5_foodInStation_5 : decode cX5_foodInStation 5 = .ok (.aload_n 0, 1) := by decide +kernel
theorem dX5_foodInStation_6 : decode cX5_foodInStation 6 = .ok (.getfield 16, 3) := by decide +kernel
theorem dX5_foodInStation_9 : decode cX5_foodInStation 9 = .ok (.invokevirtual 90, 3) := by decide +kernel
theorem dX5_foodInStation_12 : decode cX5_foodInStation 12 = .ok (.if_icmp .ge 35, 3) := by decide +kernel
theorem dX5_foodInStation_15 : decode cX5_foodInStation 15 = .ok (.aload_n 0, 1) := by decide +kernel
theorem dX5_foodInStation_16 : decode cX5_foodInStation 16 = .ok (.getfield 16, 3) := by decide +kernel
theorem dX5_foodInStation_19 : decode cX5_foodInStation 19 = .ok (.iload_n 2, 1) := by decide +kernel
theorem dX5_foodInStation_20 : decode cX5_foodInStation 20 = .ok (.invokevirtual 60, 3) := by decide +kernel
theorem dX5_foodInStation_23 : decode cX5_foodInStation 23 = .ok (.checkcast 88, 3) := by decide +kernel
theorem dX5_foodInStation_26 : decode cX5_foodInStation 26 = .ok (.astore_n 3, 1) := by decide +kernel
theorem dX5_foodInStation_27 : decode cX5_foodInStation 27 = .ok (.aload_n 3, 1) := by decide +kernel
theorem dX5_foodInStation_28 : decode cX5_foodInStation 28 = .ok (.invokevirtual 221, 3) := by decide +kernel
theorem dX5_foodInStation_31 : decode cX5_foodInStation 31 = .ok (.ifCond .eq 10, 3) := by decide +kernel
theorem dX5_foodInStation_34 : decode cX5_foodInStation 34 = .ok (.iload_n 1, 1) := by decide +kernel
theorem dX5_foodInStation_35 : decode cX5_foodInStation 35 = .ok (.aload_n 3, 1) := by decide +kernel
theorem dX5_foodInStation_36 : decode cX5_foodInStation 36 = .ok (.getfield 119, 3) := by decide +kernel
theorem dX5_foodInStation_39 : decode cX5_foodInStation 39 = .ok (.iadd, 1) := by decide +kernel
theorem dX5_foodInStation_40 : decode cX5_foodInStation 40 = .ok (.istore_n 1, 1) := by decide +kernel
theorem dX5_foodInStation_41 : decode cX5_foodInStation 41 = .ok (.iinc 2 1, 3) := by decide +kernel
theorem dX5_foodInStation_44 : decode cX5_foodInStation 44 = .ok (.goto (-40), 3) := by decide +kernel
theorem dX5_foodInStation_47 : decode cX5_foodInStation 47 = .ok (.iload_n 1, 1) := by decide +kernel
theorem dX5_foodInStation_48 : decode cX5_foodInStation 48 = .ok (.ireturn, 1) := by decide +kernel
set_option maxRecDepth 20000 in
theorem ggX5_needOfAll_Jx4a65c_size_8abf5 : GoodIn wsX5_needOfAll wsJx4a65c_size_8abf5 := goodIn_r _ [7, 8, 40, 41, 42] (by decide +kernel) (by decide +kernel)
set_option maxRecDepth 20000 in
theorem gX5_needOfAll_Jx4a65c_size_8abf5 : GoodIn wsX5_needOfAll (wsV RX5 90 RJx4a65c yJx4a65c_size_8abf5 wsJx4a65c_size_8abf5) := goodIn_app (goodIn_of _ (by decide +kernel)) ggX5_needOfAll_Jx4a65c_size_8abf5
set_option maxRecDepth 20000 in
theorem ggX5_needOfAll_Jx4a65c_get_915e3 : GoodIn wsX5_needOfAll wsJx4a65c_get_915e3 := goodIn_r _ [12, 8, 13, 14, 15, 16, 17, 18, 19, 20, 21, 22, 23, 6, 24, 25, 40, 41, 42] (by decide +kernel) (by decide +kernel)
set_option maxRecDepth 20000 in
theorem gX5_needOfAll_Jx4a65c_get_915e3 : GoodIn wsX5_needOfAll (wsV RX5 60 RJx4a65c yJx4a65c_get_915e3 wsJx4a65c_get_915e3) := goodIn_app (goodIn_of _ (by decide +kernel)) ggX5_needOfAll_Jx4a65c_get_915e3
set_option maxRecDepth 20000 in
theorem ggX5_needOfAll_X4_need : GoodIn wsX5_needOfAll wsX4_need := goodIn_r _ [30, 31, 32, 43, 44, 45, 46] (by decide +kernel) (by decide +kernel)
set_option maxRecDepth 20000 in
theorem gX5_needOfAll_X4_need : GoodIn wsX5_needOfAll (wsV RX5 225 RX4 yX4_need wsX4_need) := goodIn_app (goodIn_of _ (by decide +kernel)) ggX5_needOfAll_X4_need
theorem dX5_needOfAll_0 : decode cX5_needOfAll 0 = .ok (.iconst 0, 1) := by decide +kernel
theorem dX5_needOfAll_1 : decode cX5_needOfAll 1 = .ok (.istore_n 1, 1) := by decide +kernel
theorem dX5_needOfAll_2 : decode cX5_needOfAll 2 = .ok (.iconst 0, 1) := by decide +kernel
theorem dX5_needOfAll_3 : decode cX5_needOfAll 3 = .ok (.istore_n 2, 1) := by decide +kernel
theorem dX5_needOfAll_4 : decode cX5_needOfAll 4 = .ok (.iload_n 2, 1) := by decide +kernel
theorem dX5_needOfAll_5 : decode cX5_needOfAll 5 = .ok (.aload_n 0, 1) := by decide +kernel
theorem dX5_needOfAll_6 : decode cX5_needOfAll 6 = .ok (.getfield 19, 3) := by decide +kernel
theorem dX5_needOfAll_9 : decode cX5_needOfAll 9 = .ok (.invokevirtual 90, 3) := by decide +kernel
theorem dX5_needOfAll_12 : decode cX5_needOfAll 12 = .ok (.if_icmp .ge 26, 3) := by decide +kernel
theorem dX5_needOfAll_15 : decode cX5_needOfAll 15 = .ok (.iload_n 1, 1) := by decide +kernel
theorem dX5_needOfAll_16 : decode cX5_needOfAll 16 = .ok (.aload_n 0, 1) := by decide +kernel
theorem dX5_needOfAll_17 : decode cX5_needOfAll 17 = .ok (.getfield 19, 3) := by decide +kernel
theorem dX5_needOfAll_20 : decode cX5_needOfAll 20 = .ok (.iload_n 2, 1) := by decide +kernel
theorem dX5_needOfAll_21 : decode cX5_needOfAll 21 = .ok (.invokevirtual 60, 3) := by decide +kernel
theorem dX5_needOfAll_24 : decode cX5_needOfAll 24 = .ok (.checkcast 48, 3) := by decide +kernel
theorem dX5_needOfAll_27 : decode cX5_needOfAll 27 = .ok (.invokevirtual 225, 3) := by decide +kernel
theorem dX5_needOfAll_30 : decode cX5_needOfAll 30 = .ok (.iadd, 1) := by decide +kernel
theorem dX5_needOfAll_31 : decode cX5_needOfAll 31 = .ok (.istore_n 1, 1) := by decide +kernel
theorem dX5_needOfAll_32 : decode cX5_needOfAll 32 = .ok (.iinc 2 1, 3) := by decide +kernel
theorem dX5_needOfAll_35 : decode cX5_needOfAll 35 = .ok (.goto (-31), 3) := by decide +kernel
theorem dX5_needOfAll_38 : decode cX5_needOfAll 38 = .ok (.iload_n 1, 1) := by decide +kernel
theorem dX5_needOfAll_39 : decode cX5_needOfAll 39 = .ok (.ireturn, 1) := by decide +kernel
set_option maxRecDepth 20000 in
theorem ggX5_cutRations_Jx4a65c_size_8abf5 : GoodIn wsX5_cutRations wsJx4a65c_size_8abf5 := goodIn_r _ [13, 14, 50, 51, 52] (by decide +kernel) (by decide +kernel)
set_option maxRecDepth 20000 in
theorem gX5_cutRations_Jx4a65c_size_8abf5 : GoodIn wsX5_cutRations (wsV RX5 90 RJx4a65c yJx4a65c_size_8abf5 wsJx4a65c_size_8abf5) := goodIn_app (goodIn_of _ (by decide +kernel)) ggX5_cutRations_Jx4a65c_size_8abf5
set_option maxRecDepth 20000 in
theorem ggX5_cutRations_Jx4a65c_get_915e3 : GoodIn wsX5_cutRations wsJx4a65c_get_915e3 := goodIn_r _ [18, 14, 19, 20, 21, 22, 23, 24, 25, 26, 27, 28, 29, 12, 30, 31, 50, 51, 52] (by decide +kernel) (by decide +kernel)
set_option maxRecDepth 20000 in
theorem gX5_cutRations_Jx4a65c_get_915e3 : GoodIn wsX5_cutRations (wsV RX5 60 RJx4a65c yJx4a65c_get_915e3 wsJx4a65c_get_915e3) := goodIn_app (goodIn_of _ (by decide +kernel)) ggX5_cutRations_Jx4a65c_get_915e3
set_option maxRecDepth 20000 in
theorem ggX5_cutRations_X4_need : GoodIn wsX5_cutRations wsX4_need := goodIn_r _ [36, 37, 38, 46, 47, 48, 49] (by decide +kernel) (by decide +kernel)
set_option maxRecDepth 20000 in
theorem gX5_cutRations_X4_need : GoodIn wsX5_cutRations (wsV RX5 225 RX4 yX4_need wsX4_need) := goodIn_app (goodIn_of _ (by decide +kernel)) ggX5_cutRations_X4_need
theorem dX5_cutRations_0 : decode cX5_cutRations 0 = .ok (.iload_n 2, 1) := by decide +kernel
theorem dX5_cutRations_1 : decode cX5_cutRations 1 = .ok (.ifCond .gt 4, 3) := by decide +kernel
theorem dX5_cutRations_4 : decode cX5_cutRations 4 = .ok (.return_, 1) := by decide +kernel
theorem dX5_cutRations_5 : decode cX5_cutRations 5 = .ok (.iload_n 1, 1) := by decide +kernel
theorem dX5_cutRations_6 : decode cX5_cutRations 6 = .ok (.istore_n 3, 1) := by decide +kernel
theorem dX5_cutRations_7 : decode cX5_cutRations 7 = .ok (.iconst 0, 1) := by decide +kernel
theorem dX5_cutRations_8 : decode cX5_cutRations 8 = .ok (.istore 4, 2) := by decide +kernel
theorem dX5_cutRations_10 : decode cX5_cutRations 10 = .ok (.iload 4, 2) := by decide +kernel
theorem dX5_cutRations_12 : decode cX5_cutRations 12 = .ok (.aload_n 0, 1) := by decide +kernel
theorem dX5_cutRations_13 : decode cX5_cutRations 13 = .ok (.getfield 19, 3) := by decide +kernel
theorem dX5_cutRations_16 : decode cX5_cutRations 16 = .ok (.invokevirtual 90, 3) := by decide +kernel
theorem dX5_cutRations_19 : decode cX5_cutRations 19 = .ok (.if_icmp .ge 45, 3) := by decide +kernel
theorem dX5_cutRations_22 : decode cX5_cutRations 22 = .ok (.aload_n 0, 1) := by decide +kernel
theorem dX5_cutRations_23 : decode cX5_cutRations 23 = .ok (.getfield 19, 3) := by decide +kernel
theorem dX5_cutRations_26 : decode cX5_cutRations 26 = .ok (.iload 4, 2) := by decide +kernel
theorem dX5_cutRations_28 : decode cX5_cutRations 28 = .ok (.invokevirtual 60, 3) := by decide +kernel
theorem dX5_cutRations_31 : decode cX5_cutRations 31 = .ok (.checkcast 48, 3) := by decide +kernel
theorem dX5_cutRations_34 : decode cX5_cutRations 34 = .ok (.astore 5, 2) := by decide +kernel
theorem dX5_cutRations_36 : decode cX5_cutRations 36 = .ok (.aload 5, 2) := by decide +kernel
theorem dX5_cutRations_38 : decode cX5_cutRations 38 = .ok (.iload_n 1, 1) := by decide +kernel
theorem dX5_cutRations_39 : decode cX5_cutRations 39 = .ok (.aload 5, 2) := by decide +kernel
theorem dX5_cutRations_41 : decode cX5_cutRations 41 = .ok (.invokevirtual 225, 3) := by decide +kernel
theorem dX5_cutRations_44 : decode cX5_cutRations 44 = .ok (.imul, 1) := by decide +kernel
theorem dX5_cutRations_45 : decode cX5_cutRations 45 = .ok (.iload_n 2, 1) := by decide +kernel
theorem dX5_cutRations_46 : decode cX5_cutRations 46 = .ok (.idiv, 1) := by decide +kernel
theorem dX5_cutRations_47 : decode cX5_cutRations 47 = .ok (.putfield 228, 3) := by decide +kernel
theorem dX5_cutRations_50 : decode cX5_cutRations 50 = .ok (.iload_n 3, 1) := by decide +kernel
theorem dX5_cutRations_51 : decode cX5_cutRations 51 = .ok (.aload 5, 2) := by decide +kernel
theorem dX5_cutRations_53 : decode cX5_cutRations 53 = .ok (.getfield 228, 3) := by decide +kernel
theorem dX5_cutRations_56 : decode cX5_cutRations 56 = .ok (.isub, 1) := by decide +kernel
theorem dX5_cutRations_57 : decode cX5_cutRations 57 = .ok (.istore_n 3, 1) := by decide +kernel
theorem dX5_cutRations_58 : decode cX5_cutRations 58 = .ok (.iinc 4 1, 3) := by decide +kernel
theorem dX5_cutRations_61 : decode cX5_cutRations 61 = .ok (.goto (-51), 3) := by decide +kernel
theorem dX5_cutRations_64 : decode cX5_cutRations 64 = .ok (.aload_n 0, 1) := by decide +kernel
theorem dX5_cutRations_65 : decode cX5_cutRations 65 = .ok (.getfield 19, 3) := by decide +kernel
theorem dX5_cutRations_68 : decode cX5_cutRations 68 = .ok (.invokevirtual 90, 3) := by decide +kernel
theorem dX5_cutRations_71 : decode cX5_cutRations 71 = .ok (.iconst 1, 1) := by decide +kernel
theorem dX5_cutRations_72 : decode cX5_cutRations 72 = .ok (.isub, 1) := by decide +kernel
theorem dX5_cutRations_73 : decode cX5_cutRations 73 = .ok (.istore 4, 2) := by decide +kernel
theorem dX5_cutRations_75 : decode cX5_cutRations 75 = .ok (.iload 4, 2) := by decide +kernel
theorem dX5_cutRations_77 : decode cX5_cutRations 77 = .ok (.ifCond .lt 78, 3) := by decide +kernel
theorem dX5_cutRations_80 : decode cX5_cutRations 80 = .ok (.aload_n 0, 1) := by decide +kernel
theorem dX5_cutRations_81 : decode cX5_cutRations 81 = .ok (.getfield 19, 3) := by decide +kernel
theorem dX5_cutRations_84 : decode cX5_cutRations 84 = .ok (.iload 4, 2) := by decide +kernel
theorem dX5_cutRations_86 : decode cX5_cutRations 86 = .ok (.invokevirtual 60, 3) := by decide +kernel
theorem dX5_cutRations_89 : decode cX5_cutRations 89 = .ok (.checkcast 48, 3) := by decide +kernel
theorem dX5_cutRations_92 : decode cX5_cutRations 92 = .ok (.astore 5, 2) := by decide +kernel
theorem dX5_cutRations_94 : decode cX5_cutRations 94 = .ok (.iload_n 3, 1) := by decide +kernel
theorem dX5_cutRations_95 : decode cX5_cutRations 95 = .ok (.aload 5, 2) := by decide +kernel
theorem dX5_cutRations_97 : decode cX5_cutRations 97 = .ok (.invokevirtual 225, 3) := by decide +kernel
theorem dX5_cutRations_100 : decode cX5_cutRations 100 = .ok (.aload 5, 2) := by decide +kernel
theorem dX5_cutRations_102 : decode cX5_cutRations 102 = .ok (.getfield 228, 3) := by decide +kernel
theorem dX5_cutRations_105 : decode cX5_cutRations 105 = .ok (.isub, 1) := by decide +kernel
theorem dX5_cutRations_106 : decode cX5_cutRations 106 = .ok (.invokestatic 212, 3) := by decide +kernel
theorem dX5_cutRations_109 : decode cX5_cutRations 109 = .ok (.istore 6, 2) := by decide +kernel
theorem dX5_cutRations_111 : decode cX5_cutRations 111 = .ok (.aload 5, 2) := by decide +kernel
theorem dX5_cutRations_113 : decode cX5_cutRations 113 = .ok (.dup, 1) := by decide +kernel
theorem dX5_cutRations_114 : decode cX5_cutRations 114 = .ok (.getfield 228, 3) := by decide +kernel
theorem dX5_cutRations_117 : decode cX5_cutRations 117 = .ok (.iload 6, 2) := by decide +kernel
theorem dX5_cutRations_119 : decode cX5_cutRations 119 = .ok (.iadd, 1) := by decide +kernel
theorem dX5_cutRations_120 : decode cX5_cutRations 120 = .ok (.putfield 228, 3) := by decide +kernel
theorem dX5_cutRations_123 : decode cX5_cutRations 123 = .ok (.iload_n 3, 1) := by decide +kernel
theorem dX5_cutRations_124 : decode cX5_cutRations 124 = .ok (.iload 6, 2) := by decide +kernel
theorem dX5_cutRations_126 : decode cX5_cutRations 126 = .ok (.isub, 1) := by decide +kernel
theorem dX5_cutRations_127 : decode cX5_cutRations 127 = .ok (.istore_n 3, 1) := by decide +kernel
theorem dX5_cutRations_128 : decode cX5_cutRations 128 = .ok (.aload 5, 2) := by decide +kernel
theorem dX5_cutRations_130 : decode cX5_cutRations 130 = .ok (.dup, 1) := by decide +kernel
theorem dX5_cutRations_131 : decode cX5_cutRations 131 = .ok (.getfield 156, 3) := by decide +kernel
theorem dX5_cutRations_134 : decode cX5_cutRations 134 = .ok (.aload 5, 2) := by decide +kernel
theorem dX5_cutRations_136 : decode cX5_cutRations 136 = .ok (.invokevirtual 225, 3) := by decide +kernel
theorem dX5_cutRations_139 : decode cX5_cutRations 139 = .ok (.aload 5, 2) := by decide +kernel
theorem dX5_cutRations_141 : decode cX5_cutRations 141 = .ok (.getfield 228, 3) := by decide +kernel
theorem dX5_cutRations_144 : decode cX5_cutRations 144 = .ok (.isub, 1) := by decide +kernel
theorem dX5_cutRations_145 : decode cX5_cutRations 145 = .ok (.iadd, 1) := by decide +kernel
theorem dX5_cutRations_146 : decode cX5_cutRations 146 = .ok (.putfield 156, 3) := by decide +kernel
theorem dX5_cutRations_149 : decode cX5_cutRations 149 = .ok (.iinc 4 (-1), 3) := by decide +kernel
theorem dX5_cutRations_152 : decode cX5_cutRations 152 = .ok (.goto (-77), 3) := by decide +kernel
theorem dX5_cutRations_155 : decode cX5_cutRations 155 = .ok (.return_, 1) := by decide +kernel
set_option maxRecDepth 20000 in
theorem ggX5_eatFromLots_X5_nextToEat : GoodIn wsX5_eatFromLots wsX5_nextToEat := goodIn_r _ [10, 11, 12, 1, 13, 14, 15, 16, 17, 18, 19, 20, 21, 22, 23, 24, 25, 26, 27, 28, 29, 30, 31, 32, 33, 34, 35, 36, 37, 38, 39, 40, 41, 42, 43, 44, 120, 121, 122, 123, 124, 125, 126, 115, 116, 117, 118, 119, 127, 128, 129, 130, 131, 132] (by decide +kernel) (by decide +kernel)
set_option maxRecDepth 20000 in
theorem gX5_eatFromLots_X5_nextToEat : GoodIn wsX5_eatFromLots (wsV RX5 231 RX5 yX5_nextToEat wsX5_nextToEat) := goodIn_app (goodIn_of _ (by decide +kernel)) ggX5_eatFromLots_X5_nextToEat
set_option maxRecDepth 20000 in
theorem ggX5_eatFromLots_X5_changeAmount : GoodIn wsX5_eatFromLots wsX5_changeAmount := goodIn_r _ [48, 1, 49, 50, 51, 52, 53, 54, 14, 15, 16, 17, 18, 19, 55, 56, 57, 58, 59, 60, 61, 62, 63, 64, 65, 66, 67, 68, 69, 70, 36, 71, 72, 73, 74, 75, 76, 77, 78, 79, 80, 81, 82, 83, 84, 85, 4, 86, 87, 88, 89, 90, 91, 92, 93, 94, 95, 96, 97, 98, 99, 100, 101, 102, 103, 104, 105, 106, 107, 108, 109, 110, 3, 5, 111, 112, 113, 114, 115, 116, 117, 118, 119, 120, 121, 122, 123, 124, 125, 126, 133, 134, 135, 136, 127, 128, 129] (by decide +kernel) (by decide +kernel)
set_option maxRecDepth 20000 in
theorem gX5_eatFromLots_X5_changeAmount : GoodIn wsX5_eatFromLots (wsV RX5 127 RX5 yX5_changeAmount wsX5_changeAmount) := goodIn_app (goodIn_of _ (by decide +kernel)) ggX5_eatFromLots_X5_changeAmount
theorem dX5_eatFromLots_0 : decode cX5_eatFromLots 0 = .ok (.iload_n 1, 1) := by decide +kernel
theorem dX5_eatFromLots_1 : decode cX5_eatFromLots 1 = .ok (.istore_n 2, 1) := by decide +kernel
theorem dX5_eatFromLots_2 : decode cX5_eatFromLots 2 = .ok (.iconst 0, 1) := by decide +kernel
theorem dX5_eatFromLots_3 : decode cX5_eatFromLots 3 = .ok (.istore_n 3, 1) := by decide +kernel
theorem dX5_eatFromLots_4 : decode cX5_eatFromLots 4 = .ok (.iload_n 3, 1) := by decide +kernel
theorem dX5_eatFromLots_5 : decode cX5_eatFromLots 5 = .ok (.bipush 40, 2) := by decide +kernel
theorem dX5_eatFromLots_7 : decode cX5_eatFromLots 7 = .ok (.if_icmp .ge 51, 3) := by decide +kernel
theorem dX5_eatFromLots_10 : decode cX5_eatFromLots 10 = .ok (.iload_n 2, 1) := by decide +kernel
theorem dX5_eatFromLots_11 : decode cX5_eatFromLots 11 = .ok (.ifCond .le 47, 3) := by decide +kernel
theorem dX5_eatFromLots_14 : decode cX5_eatFromLots 14 = .ok (.aload_n 0, 1) := by decide +kernel
theorem dX5_eatFromLots_15 : decode cX5_eatFromLots 15 = .ok (.invokevirtual 231, 3) := by decide +kernel
theorem dX5_eatFromLots_18 : decode cX5_eatFromLots 18 = .ok (.astore 4, 2) := by decide +kernel
theorem dX5_eatFromLots_20 : decode cX5_eatFromLots 20 = .ok (.aload 4, 2) := by decide +kernel
theorem dX5_eatFromLots_22 : decode cX5_eatFromLots 22 = .ok (.ifnonnull 4, 3) := by decide +kernel
theorem dX5_eatFromLots_25 : decode cX5_eatFromLots 25 = .ok (.return_, 1) := by decide +kernel
theorem dX5_eatFromLots_26 : decode cX5_eatFromLots 26 = .ok (.iload_n 2, 1) := by decide +kernel
theorem dX5_eatFromLots_27 : decode cX5_eatFromLots 27 = .ok (.aload 4, 2) := by decide +kernel
theorem dX5_eatFromLots_29 : decode cX5_eatFromLots 29 = .ok (.getfield 119, 3) := by decide +kernel
theorem dX5_eatFromLots_32 : decode cX5_eatFromLots 32 = .ok (.invokestatic 212, 3) := by decide +kernel
theorem dX5_eatFromLots_35 : decode cX5_eatFromLots 35 = .ok (.istore 5, 2) := by decide +kernel
theorem dX5_eatFromLots_37 : decode cX5_eatFromLots 37 = .ok (.aload_n 0, 1) := by decide +kernel
theorem dX5_eatFromLots_38 : decode cX5_eatFromLots 38 = .ok (.aload 4, 2) := by decide +kernel
theorem dX5_eatFromLots_40 : decode cX5_eatFromLots 40 = .ok (.iload 5, 2) := by decide +kernel
theorem dX5_eatFromLots_42 : decode cX5_eatFromLots 42 = .ok (.ineg, 1) := by decide +kernel
theorem dX5_eatFromLots_43 : decode cX5_eatFromLots 43 = .ok (.iconst 3, 1) := by decide +kernel
theorem dX5_eatFromLots_44 : decode cX5_eatFromLots 44 = .ok (.invokevirtual 127, 3) := by decide +kernel
theorem dX5_eatFromLots_47 : decode cX5_eatFromLots 47 = .ok (.iload_n 2, 1) := by decide +kernel
theorem dX5_eatFromLots_48 : decode cX5_eatFromLots 48 = .ok (.iload 5, 2) := by decide +kernel
theorem dX5_eatFromLots_50 : decode cX5_eatFromLots 50 = .ok (.isub, 1) := by decide +kernel
theorem dX5_eatFromLots_51 : decode cX5_eatFromLots 51 = .ok (.istore_n 2, 1) := by decide +kernel
theorem dX5_eatFromLots_52 : decode cX5_eatFromLots 52 = .ok (.iinc 3 1, 3) := by decide +kernel
theorem dX5_eatFromLots_55 : decode cX5_eatFromLots 55 = .ok (.goto (-51), 3) := by decide +kernel
theorem dX5_eatFromLots_58 : decode cX5_eatFromLots 58 = .ok (.return_, 1) := by decide +kernel
set_option maxRecDepth 20000 in
theorem ggX5_nextToEat_Jx4a65c_size_8abf5 : GoodIn wsX5_nextToEat wsJx4a65c_size_8abf5 := goodIn_r _ [9, 10, 48, 49, 50] (by decide +kernel) (by decide +kernel)
set_option maxRecDepth 20000 in
theorem gX5_nextToEat_Jx4a65c_size_8abf5 : GoodIn wsX5_nextToEat (wsV RX5 90 RJx4a65c yJx4a65c_size_8abf5 wsJx4a65c_size_8abf5) := goodIn_app (goodIn_of _ (by decide +kernel)) ggX5_nextToEat_Jx4a65c_size_8abf5
set_option maxRecDepth 20000 in
theorem ggX5_nextToEat_Jx4a65c_get_915e3 : GoodIn wsX5_nextToEat wsJx4a65c_get_915e3 := goodIn_r _ [14, 10, 15, 16, 17, 18, 19, 20, 21, 22, 23, 24, 25, 8, 26, 27, 48, 49, 50] (by decide +kernel) (by decide +kernel)
set_option maxRecDepth 20000 in
theorem gX5_nextToEat_Jx4a65c_get_915e3 : GoodIn wsX5_nextToEat (wsV RX5 60 RJx4a65c yJx4a65c_get_915e3 wsJx4a65c_get_915e3) := goodIn_app (goodIn_of _ (by decide +kernel)) ggX5_nextToEat_Jx4a65c_get_915e3
set_option maxRecDepth 20000 in
theorem ggX5_nextToEat_X3_isFoodInStation : GoodIn wsX5_nextToEat wsX3_isFoodInStation := goodIn_r _ [32, 33, 34, 35, 43, 44, 45, 46, 47, 51, 52, 53] (by decide +kernel) (by decide +kernel)
set_option maxRecDepth 20000 in
theorem gX5_nextToEat_X3_isFoodInStation : GoodIn wsX5_nextToEat (wsV RX5 221 RX3 yX3_isFoodInStation wsX3_isFoodInStation) := goodIn_app (goodIn_of _ (by decide +kernel)) ggX5_nextToEat_X3_isFoodInStation
theorem dX5_nextToEat_0 : decode cX5_nextToEat 0 = .ok (.aconst_null, 1) := by decide +kernel
theorem dX5_nextToEat_1 : decode cX5_nextToEat 1 = .ok (.astore_n 1, 1) := by decide +kernel
theorem dX5_nextToEat_2 : decode cX5_nextToEat 2 = .ok (.iconst 0, 1) := by decide +kernel
theorem dX5_nextToEat_3 : decode cX5_nextToEat 3 = .ok (.istore_n 2, 1) := by decide +kernel
theorem dX5_nextToEat_4 : decode cX5_nextToEat 4 = .ok (.iload_n 2, 1) := by decide +kernel
theorem dX5_nextToEat_5 : decode cX5_nextToEat 5 = .ok (.aload_n 0, 1) := by decide +kernel
theorem dX5_nextToEat_6 : decode cX5_nextToEat 6 = .ok (.getfield 16, 3) := by decide +kernel
theorem dX5_nextToEat_9 : decode cX5_nextToEat 9 = .ok (.invokevirtual 90, 3) := by decide +kernel
theorem dX5_nextToEat_12 : decode cX5_nextToEat 12 = .ok (.if_icmp .ge 64, 3) := by decide +kernel
theorem dX5_nextToEat_15 : decode cX5_nextToEat 15 = .ok (.aload_n 0, 1) := by decide +kernel
theorem dX5_nextToEat_16 : decode cX5_nextToEat 16 = .ok (.getfield 16, 3) := by decide +kernel
theorem dX5_nextToEat_19 : decode cX5_nextToEat 19 = .ok (.iload_n 2, 1) := by decide +kernel
theorem dX5_nextToEat_20 : decode cX5_nextToEat 20 = .ok (.invokevirtual 60, 3) := by decide +kernel
theorem dX5_nextToEat_23 : decode cX5_nextToEat 23 = .ok (.checkcast 88, 3) := by decide +kernel
theorem dX5_nextToEat_26 : decode cX5_nextToEat 26 = .ok (.astore_n 3, 1) := by decide +kernel
theorem dX5_nextToEat_27 : decode cX5_nextToEat 27 = .ok (.aload_n 3, 1) := by decide +kernel
theorem dX5_nextToEat_28 : decode cX5_nextToEat 28 = .ok (.invokevirtual 221, 3) := by decide +kernel
theorem dX5_nextToEat_31 : decode cX5_nextToEat 31 = .ok (.ifCond .eq 14, 3) := by decide +kernel
theorem dX5_nextToEat_34 : decode cX5_nextToEat 34 = .ok (.aload_n 3, 1) := by decide +kernel
theorem dX5_nextToEat_35 : decode cX5_nextToEat 35 = .ok (.getfield 119, 3) := by decide +kernel
theorem dX5_nextToEat_38 : decode cX5_nextToEat 38 = .ok (.ifCond .le 7, 3) := by decide +kernel
theorem dX5_nextToEat_41 : decode cX5_nextToEat 41 = .ok (.iconst 1, 1) := by decide +kernel
theorem dX5_nextToEat_42 : decode cX5_nextToEat 42 = .ok (.goto 4, 3) := by decide +kernel
theorem dX5_nextToEat_45 : decode cX5_nextToEat 45 = .ok (.iconst 0, 1) := by decide +kernel
theorem dX5_nextToEat_46 : decode cX5_nextToEat 46 = .ok (.istore 4, 2) := by decide +kernel
theorem dX5_nextToEat_48 : decode cX5_nextToEat 48 = .ok (.iload 4, 2) := by decide +kernel
theorem dX5_nextToEat_50 : decode cX5_nextToEat 50 = .ok (.ifCond .eq 20, 3) := by decide +kernel
theorem dX5_nextToEat_53 : decode cX5_nextToEat 53 = .ok (.aload_n 1, 1) := by decide +kernel
theorem dX5_nextToEat_54 : decode cX5_nextToEat 54 = .ok (.ifnull 14, 3) := by decide +kernel
theorem dX5_nextToEat_57 : decode cX5_nextToEat 57 = .ok (.aload_n 3, 1) := by decide +kernel
theorem dX5_nextToEat_58 : decode cX5_nextToEat 58 = .ok (.getfield 134, 3) := by decide +kernel
theorem dX5_nextToEat_61 : decode cX5_nextToEat 61 = .ok (.aload_n 1, 1) := by decide +kernel
theorem dX5_nextToEat_62 : decode cX5_nextToEat 62 = .ok (.getfield 134, 3) := by decide +kernel
theorem dX5_nextToEat_65 : decode cX5_nextToEat 65 = .ok (.if_icmp .ge 5, 3) := by decide +kernel
theorem dX5_nextToEat_68 : decode cX5_nextToEat 68 = .ok (.aload_n 3, 1) := by decide +kernel
theorem dX5_nextToEat_69 : decode cX5_nextToEat 69 = .ok (.astore_n 1, 1) := by decide +kernel
theorem dX5_nextToEat_70 : decode cX5_nextToEat 70 = .ok (.iinc 2 1, 3) := by decide +kernel
theorem dX5_nextToEat_73 : decode cX5_nextToEat 73 = .ok (.goto (-69), 3) := by decide +kernel
theorem dX5_nextToEat_76 : decode cX5_nextToEat 76 = .ok (.aload_n 1, 1) := by decide +kernel
theorem dX5_nextToEat_77 : decode cX5_nextToEat 77 = .ok (.areturn, 1) := by decide +kernel
end
section
theorem dX6_init_0 : decode cX6_init 0 = .ok (.aload_n 0, 1) := by decide +kernel
theorem dX6_init_1 : decode cX6_init 1 = .ok (.invokespecial 1, 3) := by decide +kernel
theorem dX6_init_4 : decode cX6_init 4 = .ok (.aload_n 0, 1) := by decide +kernel
theorem dX6_init_5 : decode cX6_init 5 = .ok (.iconst 4, 1) := by decide +kernel
theorem dX6_init_6 : decode cX6_init 6 = .ok (.newarray .boolean, 2) := by decide +kernel
theorem dX6_init_8 : decode cX6_init 8 = .ok (.dup, 1) := by decide +kernel
theorem dX6_init_9 : decode cX6_init 9 = .ok (.iconst 0, 1) := by decide +kernel
theorem dX6_init_10 : decode cX6_init 10 = .ok (.iconst 1, 1) := by decide +kernel
theorem dX6_init_11 : decode cX6_init 11 = .ok (.bastore, 1) := by decide +kernel
theorem dX6_init_12 : decode cX6_init 12 = .ok (.dup, 1) := by decide +kernel
theorem dX6_init_13 : decode cX6_init 13 = .ok (.iconst 1, 1) := by decide +kernel
theorem dX6_init_14 : decode cX6_init 14 = .ok (.iconst 0, 1) := by decide +kernel
theorem dX6_init_15 : decode cX6_init 15 = .ok (.bastore, 1) := by decide +kernel
theorem dX6_init_16 : decode cX6_init 16 = .ok (.dup, 1) := by decide +kernel
theorem dX6_init_17 : decode cX6_init 17 = .ok (.iconst 2, 1) := by decide +kernel
theorem dX6_init_18 : decode cX6_init 18 = .ok (.iconst 0, 1) := by decide +kernel
theorem dX6_init_19 : decode cX6_init 19 = .ok (.bastore, 1) := by decide +kernel
theorem dX6_init_20 : decode cX6_init 20 = .ok (.dup, 1) := by decide +kernel
theorem dX6_init_21 : decode cX6_init 21 = .ok (.iconst 3, 1) := by decide +kernel
theorem dX6_init_22 : decode cX6_init 22 = .ok (.iconst 0, 1) := by decide +kernel
theorem dX6_init_23 : decode cX6_init 23 = .ok (.bastore, 1) := by decide +kernel
theorem dX6_init_24 : decode cX6_init 24 = .ok (.putfield 7, 3) := by decide +kernel
theorem dX6_init_27 : decode cX6_init 27 = .ok (.aload_n 0, 1) := by decide +kernel
theorem dX6_init_28 : decode cX6_init 28 = .ok (.iconst 4, 1) := by decide +kernel
theorem dX6_init_29 : decode cX6_init 29 = .ok (.newarray .int, 2) := by decide +kernel
theorem dX6_init_31 : decode cX6_init 31 = .ok (.putfield 13, 3) := by decide +kernel
theorem dX6_init_34 : decode cX6_init 34 = .ok (.aload_n 0, 1) := by decide +kernel
theorem dX6_init_35 : decode cX6_init 35 = .ok (.iconst 4, 1) := by decide +kernel
theorem dX6_init_36 : decode cX6_init 36 = .ok (.newarray .int, 2) := by decide +kernel
theorem dX6_init_38 : decode cX6_init 38 = .ok (.dup, 1) := by decide +kernel
theorem dX6_init_39 : decode cX6_init 39 = .ok (.iconst 0, 1) := by decide +kernel
theorem dX6_init_40 : decode cX6_init 40 = .ok (.iconst (-1), 1) := by decide +kernel
theorem dX6_init_41 : decode cX6_init 41 = .ok (.iastore, 1) := by decide +kernel
theorem dX6_init_42 : decode cX6_init 42 = .ok (.dup, 1) := by decide +kernel
theorem dX6_init_43 : decode cX6_init 43 = .ok (.iconst 1, 1) := by decide +kernel
theorem dX6_init_44 : decode cX6_init 44 = .ok (.iconst (-1), 1) := by decide +kernel
theorem dX6_init_45 : decode cX6_init 45 = .ok (.iastore, 1) := by decide +kernel
theorem dX6_init_46 : decode cX6_init 46 = .ok (.dup, 1) := by decide +kernel
theorem dX6_init_47 : decode cX6_init 47 = .ok (.iconst 2, 1) := by decide +kernel
theorem dX6_init_48 : decode cX6_init 48 = .ok (.iconst (-1), 1) := by decide +kernel
theorem dX6_init_49 : decode cX6_init 49 = .ok (.iastore, 1) := by decide +kernel
theorem dX6_init_50 : decode cX6_init 50 = .ok (.dup, 1) := by decide +kernel
theorem dX6_init_51 : decode cX6_init 51 = .ok (.iconst 3, 1) := by decide +kernel
theorem dX6_init_52 : decode cX6_init 52 = .ok (.iconst (-1), 1) := by decide +kernel
theorem dX6_init_53 : decode cX6_init 53 = .ok (.iastore, 1) := by decide +kernel
theorem dX6_init_54 : decode cX6_init 54 = .ok (.putfield 17, 3) := by decide +kernel
theorem dX6_init_57 : decode cX6_init 57 = .ok (.aload_n 0, 1) := by decide +kernel
theorem dX6_init_58 : decode cX6_init 58 = .ok (.iconst (-1), 1) := by decide +kernel
theorem dX6_init_59 : decode cX6_init 59 = .ok (.putfield 20, 3) := by decide +kernel
theorem dX6_init_62 : decode cX6_init 62 = .ok (.aload_n 0, 1) := by decide +kernel
theorem dX6_init_63 : decode cX6_init 63 = .ok (.bipush 40, 2) := by decide +kernel
theorem dX6_init_65 : decode cX6_init 65 = .ok (.newarray .int, 2) := by decide +kernel
theorem dX6_init_67 : decode cX6_init 67 = .ok (.putfield 24, 3) := by decide +kernel
theorem dX6_init_70 : decode cX6_init 70 = .ok (.aload_n 0, 1) := by decide +kernel
theorem dX6_init_71 : decode cX6_init 71 = .ok (.bipush 40, 2) := by decide +kernel
theorem dX6_init_73 : decode cX6_init 73 = .ok (.newarray .int, 2) := by decide +kernel
theorem dX6_init_75 : decode cX6_init 75 = .ok (.putfield 27, 3) := by decide +kernel
theorem dX6_init_78 : decode cX6_init 78 = .ok (.aload_n 0, 1) := by decide +kernel
theorem dX6_init_79 : decode cX6_init 79 = .ok (.bipush 40, 2) := by decide +kernel
theorem dX6_init_81 : decode cX6_init 81 = .ok (.newarray .int, 2) := by decide +kernel
theorem dX6_init_83 : decode cX6_init 83 = .ok (.putfield 30, 3) := by decide +kernel
theorem dX6_init_86 : decode cX6_init 86 = .ok (.aload_n 0, 1) := by decide +kernel
theorem dX6_init_87 : decode cX6_init 87 = .ok (.bipush 40, 2) := by decide +kernel
theorem dX6_init_89 : decode cX6_init 89 = .ok (.newarray .int, 2) := by decide +kernel
theorem dX6_init_91 : decode cX6_init 91 = .ok (.putfield 33, 3) := by decide +kernel
theorem dX6_init_94 : decode cX6_init 94 = .ok (.aload_n 0, 1) := by decide +kernel
theorem dX6_init_95 : decode cX6_init 95 = .ok (.iconst 3, 1) := by decide +kernel
theorem dX6_init_96 : decode cX6_init 96 = .ok (.newarray .int, 2) := by decide +kernel
theorem dX6_init_98 : decode cX6_init 98 = .ok (.putfield 36, 3) := by decide +kernel
theorem dX6_init_101 : decode cX6_init 101 = .ok (.aload_n 0, 1) := by decide +kernel
theorem dX6_init_102 : decode cX6_init 102 = .ok (.iconst 3, 1) := by decide +kernel
theorem dX6_init_103 : decode cX6_init 103 = .ok (.newarray .int, 2) := by decide +kernel
theorem dX6_init_105 : decode cX6_init 105 = .ok (.putfield 39, 3) := by decide +kernel
theorem dX6_init_108 : decode cX6_init 108 = .ok (.aload_n 0, 1) := by decide +kernel
theorem dX6_init_109 : decode cX6_init 109 = .ok (.sipush 16384, 3) := by decide +kernel
theorem dX6_init_112 : decode cX6_init 112 = .ok (.newarray .int, 2) := by decide +kernel
theorem dX6_init_114 : decode cX6_init 114 = .ok (.putfield 42, 3) := by decide +kernel
theorem dX6_init_117 : decode cX6_init 117 = .ok (.aload_n 0, 1) := by decide +kernel
theorem dX6_init_118 : decode cX6_init 118 = .ok (.sipush 16384, 3) := by decide +kernel
theorem dX6_init_121 : decode cX6_init 121 = .ok (.newarray .int, 2) := by decide +kernel
theorem dX6_init_123 : decode cX6_init 123 = .ok (.putfield 45, 3) := by decide +kernel
theorem dX6_init_126 : decode cX6_init 126 = .ok (.aload_n 0, 1) := by decide +kernel
theorem dX6_init_127 : decode cX6_init 127 = .ok (.sipush 16384, 3) := by decide +kernel
theorem dX6_init_130 : decode cX6_init 130 = .ok (.newarray .int, 2) := by decide +kernel
theorem dX6_init_132 : decode cX6_init 132 = .ok (.putfield 48, 3) := by decide +kernel
theorem dX6_init_135 : decode cX6_init 135 = .ok (.aload_n 0, 1) := by decide +kernel
theorem dX6_init_136 : decode cX6_init 136 = .ok (.sipush 16384, 3) := by decide +kernel
theorem dX6_init_139 : decode cX6_init 139 = .ok (.newarray .int, 2) := by decide +kernel
theorem dX6_init_141 : decode cX6_init 141 = .ok (.putfield 51, 3) := by decide +kernel
theorem dX6_init_144 : decode cX6_init 144 = .ok (.aload_n 0, 1) := by decide +kernel
theorem dX6_init_145 : decode cX6_init 145 = .ok (.iconst 3, 1) := by decide +kernel
theorem dX6_init_146 : decode cX6_init 146 = .ok (.newarray .int, 2) := by decide +kernel
theorem dX6_init_148 : decode cX6_init 148 = .ok (.putfield 54, 3) := by decide +kernel
theorem dX6_init_151 : decode cX6_init 151 = .ok (.aload_n 0, 1) := by decide +kernel
theorem dX6_init_152 : decode cX6_init 152 = .ok (.iconst 3, 1) := by decide +kernel
theorem dX6_init_153 : decode cX6_init 153 = .ok (.newarray .int, 2) := by decide +kernel
theorem dX6_init_155 : decode cX6_init 155 = .ok (.putfield 57, 3) := by decide +kernel
theorem dX6_init_158 : decode cX6_init 158 = .ok (.return_, 1) := by decide +kernel
theorem dX6_thrown_0 : decode cX6_thrown 0 = .ok (.aload_n 0, 1) := by decide +kernel
theorem dX6_thrown_1 : decode cX6_thrown 1 = .ok (.getfield 60, 3) := by decide +kernel
theorem dX6_thrown_4 : decode cX6_thrown 4 = .ok (.ireturn, 1) := by decide +kernel
theorem dX6_in_0 : decode cX6_in 0 = .ok (.iload_n 0, 1) := by decide +kernel
theorem dX6_in_1 : decode cX6_in 1 = .ok (.iload_n 1, 1) := by decide +kernel
theorem dX6_in_2 : decode cX6_in 2 = .ok (.if_icmp .lt 12, 3) := by decide +kernel
theorem dX6_in_5 : decode cX6_in 5 = .ok (.iload_n 0, 1) := by decide +kernel
theorem dX6_in_6 : decode cX6_in 6 = .ok (.iload_n 2, 1) := by decide +kernel
theorem dX6_in_7 : decode cX6_in 7 = .ok (.if_icmp .gt 7, 3) := by decide +kernel
theorem dX6_in_10 : decode cX6_in 10 = .ok (.iconst 1, 1) := by decide +kernel
theorem dX6_in_11 : decode cX6_in 11 = .ok (.goto 4, 3) := by decide +kernel
theorem dX6_in_14 : decode cX6_in 14 = .ok (.iconst 0, 1) := by decide +kernel
theorem dX6_in_15 : decode cX6_in 15 = .ok (.ireturn, 1) := by decide +kernel
set_option maxRecDepth 20000 in
theorem ggX6_isDepot_X6_in : GoodIn wsX6_isDepot wsX6_in := goodIn_r _ [4] (by decide +kernel) (by decide +kernel)
set_option maxRecDepth 20000 in
theorem gX6_isDepot_X6_in : GoodIn wsX6_isDepot (va_wsS RX6 63 yX6_in wsX6_in) := goodIn_app (goodIn_of _ (by decide +kernel)) ggX6_isDepot_X6_in
theorem dX6_isDepot_0 : decode cX6_isDepot 0 = .ok (.iload_n 0, 1) := by decide +kernel
theorem dX6_isDepot_1 : decode cX6_isDepot 1 = .ok (.iconst 0, 1) := by decide +kernel
theorem dX6_isDepot_2 : decode cX6_isDepot 2 = .ok (.iconst 3, 1) := by decide +kernel
theorem dX6_isDepot_3 : decode cX6_isDepot 3 = .ok (.invokestatic 63, 3) := by decide +kernel
theorem dX6_isDepot_6 : decode cX6_isDepot 6 = .ok (.ireturn, 1) := by decide +kernel
set_option maxRecDepth 20000 in
theorem ggX6_isGood_X6_in : GoodIn wsX6_isGood wsX6_in := goodIn_r _ [4] (by decide +kernel) (by decide +kernel)
set_option maxRecDepth 20000 in
theorem gX6_isGood_X6_in : GoodIn wsX6_isGood (va_wsS RX6 63 yX6_in wsX6_in) := goodIn_app (goodIn_of _ (by decide +kernel)) ggX6_isGood_X6_in
theorem dX6_isGood_0 : decode cX6_isGood 0 = .ok (.iload_n 0, 1) := by decide +kernel
theorem dX6_isGood_1 : decode cX6_isGood 1 = .ok (.iconst 0, 1) := by decide +kernel
theorem dX6_isGood_2 : decode cX6_isGood 2 = .ok (.iconst 4, 1) := by decide +kernel
theorem dX6_isGood_3 : decode cX6_isGood 3 = .ok (.invokestatic 63, 3) := by decide +kernel
theorem dX6_isGood_6 : decode cX6_isGood 6 = .ok (.ireturn, 1) := by decide +kernel
set_option maxRecDepth 20000 in
theorem ggX6_isLot_X6_in : GoodIn wsX6_isLot wsX6_in := goodIn_r _ [5] (by decide +kernel) (by decide +kernel)
set_option maxRecDepth 20000 in
theorem gX6_isLot_X6_in : GoodIn wsX6_isLot (va_wsS RX6 63 yX6_in wsX6_in) := goodIn_app (goodIn_of _ (by decide +kernel)) ggX6_isLot_X6_in
theorem dX6_isLot_0 : decode cX6_isLot 0 = .ok (.iload_n 1, 1) := by decide +kernel
theorem dX6_isLot_1 : decode cX6_isLot 1 = .ok (.iconst 0, 1) := by decide +kernel
theorem dX6_isLot_2 : decode cX6_isLot 2 = .ok (.aload_n 0, 1) := by decide +kernel
theorem dX6_isLot_3 : decode cX6_isLot 3 = .ok (.getfield 67, 3) := by decide +kernel
theorem dX6_isLot_6 : decode cX6_isLot 6 = .ok (.iconst 1, 1) := by decide +kernel
theorem dX6_isLot_7 : decode cX6_isLot 7 = .ok (.isub, 1) := by decide +kernel
theorem dX6_isLot_8 : decode cX6_isLot 8 = .ok (.invokestatic 63, 3) := by decide +kernel
theorem dX6_isLot_11 : decode cX6_isLot 11 = .ok (.ireturn, 1) := by decide +kernel
set_option maxRecDepth 20000 in
theorem ggX6_areDays_X6_in : GoodIn wsX6_areDays wsX6_in := goodIn_r _ [4] (by decide +kernel) (by decide +kernel)
set_option maxRecDepth 20000 in
theorem gX6_areDays_X6_in : GoodIn wsX6_areDays (va_wsS RX6 63 yX6_in wsX6_in) := goodIn_app (goodIn_of _ (by decide +kernel)) ggX6_areDays_X6_in
theorem dX6_areDays_0 : decode cX6_areDays 0 = .ok (.iload_n 0, 1) := by decide +kernel
theorem dX6_areDays_1 : decode cX6_areDays 1 = .ok (.iconst 0, 1) := by decide +kernel
theorem dX6_areDays_2 : decode cX6_areDays 2 = .ok (.sipush 1000, 3) := by decide +kernel
theorem dX6_areDays_5 : decode cX6_areDays 5 = .ok (.invokestatic 63, 3) := by decide +kernel
theorem dX6_areDays_8 : decode cX6_areDays 8 = .ok (.ifCond .eq 23, 3) := by decide +kernel
theorem dX6_areDays_11 : decode cX6_areDays 11 = .ok (.iload_n 1, 1) := by decide +kernel
theorem dX6_areDays_12 : decode cX6_areDays 12 = .ok (.iconst (-1), 1) := by decide +kernel
theorem dX6_areDays_13 : decode cX6_areDays 13 = .ok (.if_icmp .eq 14, 3) := by decide +kernel
theorem dX6_areDays_16 : decode cX6_areDays 16 = .ok (.iload_n 1, 1) := by decide +kernel
theorem dX6_areDays_17 : decode cX6_areDays 17 = .ok (.iload_n 0, 1) := by decide +kernel
theorem dX6_areDays_18 : decode cX6_areDays 18 = .ok (.sipush 1000, 3) := by decide +kernel
theorem dX6_areDays_21 : decode cX6_areDays 21 = .ok (.invokestatic 63, 3) := by decide +kernel
theorem dX6_areDays_24 : decode cX6_areDays 24 = .ok (.ifCond .eq 7, 3) := by decide +kernel
theorem dX6_areDays_27 : decode cX6_areDays 27 = .ok (.iconst 1, 1) := by decide +kernel
theorem dX6_areDays_28 : decode cX6_areDays 28 = .ok (.goto 4, 3) := by decide +kernel
theorem dX6_areDays_31 : decode cX6_areDays 31 = .ok (.iconst 0, 1) := by decide +kernel
theorem dX6_areDays_32 : decode cX6_areDays 32 = .ok (.ireturn, 1) := by decide +kernel
set_option maxRecDepth 20000 in
theorem ggX6_isCut_X6_in : GoodIn wsX6_isCut wsX6_in := goodIn_r _ [7] (by decide +kernel) (by decide +kernel)
set_option maxRecDepth 20000 in
theorem gX6_isCut_X6_in : GoodIn wsX6_isCut (va_wsS RX6 63 yX6_in wsX6_in) := goodIn_app (goodIn_of _ (by decide +kernel)) ggX6_isCut_X6_in
theorem dX6_isCut_0 : decode cX6_isCut 0 = .ok (.aload_n 0, 1) := by decide +kernel
theorem dX6_isCut_1 : decode cX6_isCut 1 = .ok (.getfield 17, 3) := by decide +kernel
theorem dX6_isCut_4 : decode cX6_isCut 4 = .ok (.iload_n 1, 1) := by decide +kernel
theorem dX6_isCut_5 : decode cX6_isCut 5 = .ok (.iaload, 1) := by decide +kernel
theorem dX6_isCut_6 : decode cX6_isCut 6 = .ok (.iconst (-1), 1) := by decide +kernel
theorem dX6_isCut_7 : decode cX6_isCut 7 = .ok (.if_icmp .eq 29, 3) := by decide +kernel
theorem dX6_isCut_10 : decode cX6_isCut 10 = .ok (.aload_n 0, 1) := by decide +kernel
theorem dX6_isCut_11 : decode cX6_isCut 11 = .ok (.getfield 70, 3) := by decide +kernel
theorem dX6_isCut_14 : decode cX6_isCut 14 = .ok (.aload_n 0, 1) := by decide +kernel
theorem dX6_isCut_15 : decode cX6_isCut 15 = .ok (.getfield 13, 3) := by decide +kernel
theorem dX6_isCut_18 : decode cX6_isCut 18 = .ok (.iload_n 1, 1) := by decide +kernel
theorem dX6_isCut_19 : decode cX6_isCut 19 = .ok (.iaload, 1) := by decide +kernel
theorem dX6_isCut_20 : decode cX6_isCut 20 = .ok (.aload_n 0, 1) := by decide +kernel
theorem dX6_isCut_21 : decode cX6_isCut 21 = .ok (.getfield 17, 3) := by decide +kernel
theorem dX6_isCut_24 : decode cX6_isCut 24 = .ok (.iload_n 1, 1) := by decide +kernel
theorem dX6_isCut_25 : decode cX6_isCut 25 = .ok (.iaload, 1) := by decide +kernel
theorem dX6_isCut_26 : decode cX6_isCut 26 = .ok (.invokestatic 63, 3) := by decide +kernel
theorem dX6_isCut_29 : decode cX6_isCut 29 = .ok (.ifCond .eq 7, 3) := by decide +kernel
theorem dX6_isCut_32 : decode cX6_isCut 32 = .ok (.iconst 1, 1) := by decide +kernel
theorem dX6_isCut_33 : decode cX6_isCut 33 = .ok (.goto 4, 3) := by decide +kernel
theorem dX6_isCut_36 : decode cX6_isCut 36 = .ok (.iconst 0, 1) := by decide +kernel
theorem dX6_isCut_37 : decode cX6_isCut 37 = .ok (.ireturn, 1) := by decide +kernel
set_option maxRecDepth 20000 in
theorem ggX6_setCut_X6_isDepot : GoodIn wsX6_setCut wsX6_isDepot := goodIn_r _ [7, 8, 9, 6, 10] (by decide +kernel) (by decide +kernel)
set_option maxRecDepth 20000 in
theorem gX6_setCut_X6_isDepot : GoodIn wsX6_setCut (va_wsS RX6 73 yX6_isDepot wsX6_isDepot) := goodIn_app (goodIn_of _ (by decide +kernel)) ggX6_setCut_X6_isDepot
set_option maxRecDepth 20000 in
theorem ggX6_setCut_X6_areDays : GoodIn wsX6_setCut wsX6_areDays := goodIn_r _ [13, 8, 9, 6, 10] (by decide +kernel) (by decide +kernel)
set_option maxRecDepth 20000 in
theorem gX6_setCut_X6_areDays : GoodIn wsX6_setCut (va_wsS RX6 77 yX6_areDays wsX6_areDays) := goodIn_app (goodIn_of _ (by decide +kernel)) ggX6_setCut_X6_areDays
set_option maxRecDepth 20000 in
theorem ggX6_setCut_X6_isCut : GoodIn wsX6_setCut wsX6_isCut := goodIn_r _ [17, 3, 18, 2, 8, 9, 6, 10, 19, 20, 21, 22, 23, 24, 25, 26, 27, 28, 29, 30, 31, 32, 33, 34, 35, 36, 37, 38, 39, 40] (by decide +kernel) (by decide +kernel)
set_option maxRecDepth 20000 in
theorem gX6_setCut_X6_isCut : GoodIn wsX6_setCut (wsV RX6 81 RX6 yX6_isCut wsX6_isCut) := goodIn_app (goodIn_of _ (by decide +kernel)) ggX6_setCut_X6_isCut
theorem dX6_setCut_0 : decode cX6_setCut 0 = .ok (.aload_n 0, 1) := by decide +kernel
theorem dX6_setCut_1 : decode cX6_setCut 1 = .ok (.iload_n 1, 1) := by decide +kernel
theorem dX6_setCut_2 : decode cX6_setCut 2 = .ok (.invokestatic 73, 3) := by decide +kernel
theorem dX6_setCut_5 : decode cX6_setCut 5 = .ok (.ifCond .ne 7, 3) := by decide +kernel
theorem dX6_setCut_8 : decode cX6_setCut 8 = .ok (.iconst 1, 1) := by decide +kernel
theorem dX6_setCut_9 : decode cX6_setCut 9 = .ok (.goto 16, 3) := by decide +kernel
theorem dX6_setCut_12 : decode cX6_setCut 12 = .ok (.iload_n 2, 1) := by decide +kernel
theorem dX6_setCut_13 : decode cX6_setCut 13 = .ok (.iload_n 3, 1) := by decide +kernel
theorem dX6_setCut_14 : decode cX6_setCut 14 = .ok (.invokestatic 77, 3) := by decide +kernel
theorem dX6_setCut_17 : decode cX6_setCut 17 = .ok (.ifCond .eq 7, 3) := by decide +kernel
theorem dX6_setCut_20 : decode cX6_setCut 20 = .ok (.iconst 0, 1) := by decide +kernel
theorem dX6_setCut_21 : decode cX6_setCut 21 = .ok (.goto 4, 3) := by decide +kernel
theorem dX6_setCut_24 : decode cX6_setCut 24 = .ok (.iconst 2, 1) := by decide +kernel
theorem dX6_setCut_25 : decode cX6_setCut 25 = .ok (.putfield 60, 3) := by decide +kernel
theorem dX6_setCut_28 : decode cX6_setCut 28 = .ok (.aload_n 0, 1) := by decide +kernel
theorem dX6_setCut_29 : decode cX6_setCut 29 = .ok (.getfield 60, 3) := by decide +kernel
theorem dX6_setCut_32 : decode cX6_setCut 32 = .ok (.ifCond .le 5, 3) := by decide +kernel
theorem dX6_setCut_35 : decode cX6_setCut 35 = .ok (.iconst 0, 1) := by decide +kernel
theorem dX6_setCut_36 : decode cX6_setCut 36 = .ok (.ireturn, 1) := by decide +kernel
theorem dX6_setCut_37 : decode cX6_setCut 37 = .ok (.aload_n 0, 1) := by decide +kernel
theorem dX6_setCut_38 : decode cX6_setCut 38 = .ok (.getfield 13, 3) := by decide +kernel
theorem dX6_setCut_41 : decode cX6_setCut 41 = .ok (.iload_n 1, 1) := by decide +kernel
theorem dX6_setCut_42 : decode cX6_setCut 42 = .ok (.iload_n 2, 1) := by decide +kernel
theorem dX6_setCut_43 : decode cX6_setCut 43 = .ok (.iastore, 1) := by decide +kernel
theorem dX6_setCut_44 : decode cX6_setCut 44 = .ok (.aload_n 0, 1) := by decide +kernel
theorem dX6_setCut_45 : decode cX6_setCut 45 = .ok (.getfield 17, 3) := by decide +kernel
theorem dX6_setCut_48 : decode cX6_setCut 48 = .ok (.iload_n 1, 1) := by decide +kernel
theorem dX6_setCut_49 : decode cX6_setCut 49 = .ok (.iload_n 3, 1) := by decide +kernel
theorem dX6_setCut_50 : decode cX6_setCut 50 = .ok (.iastore, 1) := by decide +kernel
theorem dX6_setCut_51 : decode cX6_setCut 51 = .ok (.aload_n 0, 1) := by decide +kernel
theorem dX6_setCut_52 : decode cX6_setCut 52 = .ok (.iload_n 1, 1) := by decide +kernel
theorem dX6_setCut_53 : decode cX6_setCut 53 = .ok (.invokevirtual 81, 3) := by decide +kernel
theorem dX6_setCut_56 : decode cX6_setCut 56 = .ok (.ireturn, 1) := by decide +kernel
set_option maxRecDepth 20000 in
theorem ggX6_setWarm_X6_isDepot : GoodIn wsX6_setWarm wsX6_isDepot := goodIn_r _ [6, 7, 8, 5, 9] (by decide +kernel) (by decide +kernel)
set_option maxRecDepth 20000 in
theorem gX6_setWarm_X6_isDepot : GoodIn wsX6_setWarm (va_wsS RX6 73 yX6_isDepot wsX6_isDepot) := goodIn_app (goodIn_of _ (by decide +kernel)) ggX6_setWarm_X6_isDepot
theorem dX6_setWarm_0 : decode cX6_setWarm 0 = .ok (.aload_n 0, 1) := by decide +kernel
theorem dX6_setWarm_1 : decode cX6_setWarm 1 = .ok (.iload_n 1, 1) := by decide +kernel
theorem dX6_setWarm_2 : decode cX6_setWarm 2 = .ok (.invokestatic 73, 3) := by decide +kernel
theorem dX6_setWarm_5 : decode cX6_setWarm 5 = .ok (.ifCond .eq 7, 3) := by decide +kernel
theorem dX6_setWarm_8 : decode cX6_setWarm 8 = .ok (.iconst 0, 1) := by decide +kernel
theorem dX6_setWarm_9 : decode cX6_setWarm 9 = .ok (.goto 4, 3) := by decide +kernel
theorem dX6_setWarm_12 : decode cX6_setWarm 12 = .ok (.iconst 1, 1) := by decide +kernel
theorem dX6_setWarm_13 : decode cX6_setWarm 13 = .ok (.putfield 60, 3) := by decide +kernel
theorem dX6_setWarm_16 : decode cX6_setWarm 16 = .ok (.aload_n 0, 1) := by decide +kernel
theorem dX6_setWarm_17 : decode cX6_setWarm 17 = .ok (.getfield 60, 3) := by decide +kernel
theorem dX6_setWarm_20 : decode cX6_setWarm 20 = .ok (.ifCond .le 5, 3) := by decide +kernel
theorem dX6_setWarm_23 : decode cX6_setWarm 23 = .ok (.iconst 0, 1) := by decide +kernel
theorem dX6_setWarm_24 : decode cX6_setWarm 24 = .ok (.ireturn, 1) := by decide +kernel
theorem dX6_setWarm_25 : decode cX6_setWarm 25 = .ok (.aload_n 0, 1) := by decide +kernel
theorem dX6_setWarm_26 : decode cX6_setWarm 26 = .ok (.getfield 7, 3) := by decide +kernel
theorem dX6_setWarm_29 : decode cX6_setWarm 29 = .ok (.iload_n 1, 1) := by decide +kernel
theorem dX6_setWarm_30 : decode cX6_setWarm 30 = .ok (.baload, 1) := by decide +kernel
theorem dX6_setWarm_31 : decode cX6_setWarm 31 = .ok (.istore_n 3, 1) := by decide +kernel
theorem dX6_setWarm_32 : decode cX6_setWarm 32 = .ok (.aload_n 0, 1) := by decide +kernel
theorem dX6_setWarm_33 : decode cX6_setWarm 33 = .ok (.getfield 7, 3) := by decide +kernel
theorem dX6_setWarm_36 : decode cX6_setWarm 36 = .ok (.iload_n 1, 1) := by decide +kernel
theorem dX6_setWarm_37 : decode cX6_setWarm 37 = .ok (.iload_n 2, 1) := by decide +kernel
theorem dX6_setWarm_38 : decode cX6_setWarm 38 = .ok (.bastore, 1) := by decide +kernel
theorem dX6_setWarm_39 : decode cX6_setWarm 39 = .ok (.iload_n 3, 1) := by decide +kernel
theorem dX6_setWarm_40 : decode cX6_setWarm 40 = .ok (.ireturn, 1) := by decide +kernel
set_option maxRecDepth 20000 in
theorem ggX6_isFrost_X6_in : GoodIn wsX6_isFrost wsX6_in := goodIn_r _ [7] (by decide +kernel) (by decide +kernel)
set_option maxRecDepth 20000 in
theorem gX6_isFrost_X6_in : GoodIn wsX6_isFrost (va_wsS RX6 63 yX6_in wsX6_in) := goodIn_app (goodIn_of _ (by decide +kernel)) ggX6_isFrost_X6_in
theorem dX6_isFrost_0 : decode cX6_isFrost 0 = .ok (.aload_n 0, 1) := by decide +kernel
theorem dX6_isFrost_1 : decode cX6_isFrost 1 = .ok (.getfield 20, 3) := by decide +kernel
theorem dX6_isFrost_4 : decode cX6_isFrost 4 = .ok (.iconst (-1), 1) := by decide +kernel
theorem dX6_isFrost_5 : decode cX6_isFrost 5 = .ok (.if_icmp .eq 25, 3) := by decide +kernel
theorem dX6_isFrost_8 : decode cX6_isFrost 8 = .ok (.aload_n 0, 1) := by decide +kernel
theorem dX6_isFrost_9 : decode cX6_isFrost 9 = .ok (.getfield 70, 3) := by decide +kernel
theorem dX6_isFrost_12 : decode cX6_isFrost 12 = .ok (.aload_n 0, 1) := by decide +kernel
theorem dX6_isFrost_13 : decode cX6_isFrost 13 = .ok (.getfield 84, 3) := by decide +kernel
theorem dX6_isFrost_16 : decode cX6_isFrost 16 = .ok (.aload_n 0, 1) := by decide +kernel
theorem dX6_isFrost_17 : decode cX6_isFrost 17 = .ok (.getfield 20, 3) := by decide +kernel
theorem dX6_isFrost_20 : decode cX6_isFrost 20 = .ok (.invokestatic 63, 3) := by decide +kernel
theorem dX6_isFrost_23 : decode cX6_isFrost 23 = .ok (.ifCond .eq 7, 3) := by decide +kernel
theorem dX6_isFrost_26 : decode cX6_isFrost 26 = .ok (.iconst 1, 1) := by decide +kernel
theorem dX6_isFrost_27 : decode cX6_isFrost 27 = .ok (.goto 4, 3) := by decide +kernel
theorem dX6_isFrost_30 : decode cX6_isFrost 30 = .ok (.iconst 0, 1) := by decide +kernel
theorem dX6_isFrost_31 : decode cX6_isFrost 31 = .ok (.ireturn, 1) := by decide +kernel
set_option maxRecDepth 20000 in
theorem ggX6_setFrost_X6_areDays : GoodIn wsX6_setFrost wsX6_areDays := goodIn_r _ [7, 8, 9, 6, 10] (by decide +kernel) (by decide +kernel)
set_option maxRecDepth 20000 in
theorem gX6_setFrost_X6_areDays : GoodIn wsX6_setFrost (va_wsS RX6 77 yX6_areDays wsX6_areDays) := goodIn_app (goodIn_of _ (by decide +kernel)) ggX6_setFrost_X6_areDays
set_option maxRecDepth 20000 in
theorem ggX6_setFrost_X6_isFrost : GoodIn wsX6_setFrost wsX6_isFrost := goodIn_r _ [14, 3, 15, 2, 8, 9, 6, 10, 16, 17, 18, 19, 20, 21, 22, 23, 24, 25, 26, 27, 28, 29, 30, 31, 32, 33, 34, 35, 36, 37] (by decide +kernel) (by decide +kernel)
set_option maxRecDepth 20000 in
theorem gX6_setFrost_X6_isFrost : GoodIn wsX6_setFrost (wsV RX6 87 RX6 yX6_isFrost wsX6_isFrost) := goodIn_app (goodIn_of _ (by decide +kernel)) ggX6_setFrost_X6_isFrost
theorem dX6_setFrost_0 : decode cX6_setFrost 0 = .ok (.aload_n 0, 1) := by decide +kernel
theorem dX6_setFrost_1 : decode cX6_setFrost 1 = .ok (.iload_n 1, 1) := by decide +kernel
theorem dX6_setFrost_2 : decode cX6_setFrost 2 = .ok (.iload_n 2, 1) := by decide +kernel
theorem dX6_setFrost_3 : decode cX6_setFrost 3 = .ok (.invokestatic 77, 3) := by decide +kernel
theorem dX6_setFrost_6 : decode cX6_setFrost 6 = .ok (.ifCond .eq 7, 3) := by decide +kernel
theorem dX6_setFrost_9 : decode cX6_setFrost 9 = .ok (.iconst 0, 1) := by decide +kernel
theorem dX6_setFrost_10 : decode cX6_setFrost 10 = .ok (.goto 4, 3) := by decide +kernel
theorem dX6_setFrost_13 : decode cX6_setFrost 13 = .ok (.iconst 1, 1) := by decide +kernel
theorem dX6_setFrost_14 : decode cX6_setFrost 14 = .ok (.putfield 60, 3) := by decide +kernel
theorem dX6_setFrost_17 : decode cX6_setFrost 17 = .ok (.aload_n 0, 1) := by decide +kernel
theorem dX6_setFrost_18 : decode cX6_setFrost 18 = .ok (.getfield 60, 3) := by decide +kernel
theorem dX6_setFrost_21 : decode cX6_setFrost 21 = .ok (.ifCond .le 5, 3) := by decide +kernel
theorem dX6_setFrost_24 : decode cX6_setFrost 24 = .ok (.iconst 0, 1) := by decide +kernel
theorem dX6_setFrost_25 : decode cX6_setFrost 25 = .ok (.ireturn, 1) := by decide +kernel
theorem dX6_setFrost_26 : decode cX6_setFrost 26 = .ok (.aload_n 0, 1) := by decide +kernel
theorem dX6_setFrost_27 : decode cX6_setFrost 27 = .ok (.iload_n 1, 1) := by decide +kernel
theorem dX6_setFrost_28 : decode cX6_setFrost 28 = .ok (.putfield 84, 3) := by decide +kernel
theorem dX6_setFrost_31 : decode cX6_setFrost 31 = .ok (.aload_n 0, 1) := by decide +kernel
theorem dX6_setFrost_32 : decode cX6_setFrost 32 = .ok (.iload_n 2, 1) := by decide +kernel
theorem dX6_setFrost_33 : decode cX6_setFrost 33 = .ok (.putfield 20, 3) := by decide +kernel
theorem dX6_setFrost_36 : decode cX6_setFrost 36 = .ok (.aload_n 0, 1) := by decide +kernel
theorem dX6_setFrost_37 : decode cX6_setFrost 37 = .ok (.invokevirtual 87, 3) := by decide +kernel
theorem dX6_setFrost_40 : decode cX6_setFrost 40 = .ok (.ireturn, 1) := by decide +kernel
theorem dX6_changes_0 : decode cX6_changes 0 = .ok (.iload_n 2, 1) := by decide +kernel
theorem dX6_changes_1 : decode cX6_changes 1 = .ok (.ifCond .eq 66, 3) := by decide +kernel
theorem dX6_changes_4 : decode cX6_changes 4 = .ok (.aload_n 0, 1) := by decide +kernel
theorem dX6_changes_5 : decode cX6_changes 5 = .ok (.getfield 30, 3) := by decide +kernel
theorem dX6_changes_8 : decode cX6_changes 8 = .ok (.iload_n 1, 1) := by decide +kernel
theorem dX6_changes_9 : decode cX6_changes 9 = .ok (.dup2, 1) := by decide +kernel
theorem dX6_changes_10 : decode cX6_changes 10 = .ok (.iaload, 1) := by decide +kernel
theorem dX6_changes_11 : decode cX6_changes 11 = .ok (.iload_n 2, 1) := by decide +kernel
theorem dX6_changes_12 : decode cX6_changes 12 = .ok (.iadd, 1) := by decide +kernel
theorem dX6_changes_13 : decode cX6_changes 13 = .ok (.iastore, 1) := by decide +kernel
theorem dX6_changes_14 : decode cX6_changes 14 = .ok (.aload_n 0, 1) := by decide +kernel
theorem dX6_changes_15 : decode cX6_changes 15 = .ok (.getfield 42, 3) := by decide +kernel
theorem dX6_changes_18 : decode cX6_changes 18 = .ok (.aload_n 0, 1) := by decide +kernel
theorem dX6_changes_19 : decode cX6_changes 19 = .ok (.getfield 91, 3) := by decide +kernel
theorem dX6_changes_22 : decode cX6_changes 22 = .ok (.aload_n 0, 1) := by decide +kernel
theorem dX6_changes_23 : decode cX6_changes 23 = .ok (.getfield 94, 3) := by decide +kernel
theorem dX6_changes_26 : decode cX6_changes 26 = .ok (.iastore, 1) := by decide +kernel
theorem dX6_changes_27 : decode cX6_changes 27 = .ok (.aload_n 0, 1) := by decide +kernel
theorem dX6_changes_28 : decode cX6_changes 28 = .ok (.getfield 45, 3) := by decide +kernel
theorem dX6_changes_31 : decode cX6_changes 31 = .ok (.aload_n 0, 1) := by decide +kernel
theorem dX6_changes_32 : decode cX6_changes 32 = .ok (.getfield 91, 3) := by decide +kernel
theorem dX6_changes_35 : decode cX6_changes 35 = .ok (.iload_n 1, 1) := by decide +kernel
theorem dX6_changes_36 : decode cX6_changes 36 = .ok (.iastore, 1) := by decide +kernel
theorem dX6_changes_37 : decode cX6_changes 37 = .ok (.aload_n 0, 1) := by decide +kernel
theorem dX6_changes_38 : decode cX6_changes 38 = .ok (.getfield 48, 3) := by decide +kernel
theorem dX6_changes_41 : decode cX6_changes 41 = .ok (.aload_n 0, 1) := by decide +kernel
theorem dX6_changes_42 : decode cX6_changes 42 = .ok (.getfield 91, 3) := by decide +kernel
theorem dX6_changes_45 : decode cX6_changes 45 = .ok (.iload_n 2, 1) := by decide +kernel
theorem dX6_changes_46 : decode cX6_changes 46 = .ok (.iastore, 1) := by decide +kernel
theorem dX6_changes_47 : decode cX6_changes 47 = .ok (.aload_n 0, 1) := by decide +kernel
theorem dX6_changes_48 : decode cX6_changes 48 = .ok (.getfield 51, 3) := by decide +kernel
theorem dX6_changes_51 : decode cX6_changes 51 = .ok (.aload_n 0, 1) := by decide +kernel
theorem dX6_changes_52 : decode cX6_changes 52 = .ok (.getfield 91, 3) := by decide +kernel
theorem dX6_changes_55 : decode cX6_changes 55 = .ok (.iload_n 3, 1) := by decide +kernel
theorem dX6_changes_56 : decode cX6_changes 56 = .ok (.iastore, 1) := by decide +kernel
theorem dX6_changes_57 : decode cX6_changes 57 = .ok (.aload_n 0, 1) := by decide +kernel
theorem dX6_changes_58 : decode cX6_changes 58 = .ok (.dup, 1) := by decide +kernel
theorem dX6_changes_59 : decode cX6_changes 59 = .ok (.getfield 91, 3) := by decide +kernel
theorem dX6_changes_62 : decode cX6_changes 62 = .ok (.iconst 1, 1) := by decide +kernel
theorem dX6_changes_63 : decode cX6_changes 63 = .ok (.iadd, 1) := by decide +kernel
theorem dX6_changes_64 : decode cX6_changes 64 = .ok (.putfield 91, 3) := by decide +kernel
theorem dX6_changes_67 : decode cX6_changes 67 = .ok (.return_, 1) := by decide +kernel
theorem dX6_makes_0 : decode cX6_makes 0 = .ok (.aload_n 0, 1) := by decide +kernel
theorem dX6_makes_1 : decode cX6_makes 1 = .ok (.getfield 24, 3) := by decide +kernel
theorem dX6_makes_4 : decode cX6_makes 4 = .ok (.aload_n 0, 1) := by decide +kernel
theorem dX6_makes_5 : decode cX6_makes 5 = .ok (.getfield 67, 3) := by decide +kernel
theorem dX6_makes_8 : decode cX6_makes 8 = .ok (.iload_n 1, 1) := by decide +kernel
theorem dX6_makes_9 : decode cX6_makes 9 = .ok (.iastore, 1) := by decide +kernel
theorem dX6_makes_10 : decode cX6_makes 10 = .ok (.aload_n 0, 1) := by decide +kernel
theorem dX6_makes_11 : decode cX6_makes 11 = .ok (.getfield 27, 3) := by decide +kernel
theorem dX6_makes_14 : decode cX6_makes 14 = .ok (.aload_n 0, 1) := by decide +kernel
theorem dX6_makes_15 : decode cX6_makes 15 = .ok (.getfield 67, 3) := by decide +kernel
theorem dX6_makes_18 : decode cX6_makes 18 = .ok (.iload_n 2, 1) := by decide +kernel
theorem dX6_makes_19 : decode cX6_makes 19 = .ok (.iastore, 1) := by decide +kernel
theorem dX6_makes_20 : decode cX6_makes 20 = .ok (.aload_n 0, 1) := by decide +kernel
theorem dX6_makes_21 : decode cX6_makes 21 = .ok (.getfield 33, 3) := by decide +kernel
theorem dX6_makes_24 : decode cX6_makes 24 = .ok (.aload_n 0, 1) := by decide +kernel
theorem dX6_makes_25 : decode cX6_makes 25 = .ok (.getfield 67, 3) := by decide +kernel
theorem dX6_makes_28 : decode cX6_makes 28 = .ok (.iload_n 3, 1) := by decide +kernel
theorem dX6_makes_29 : decode cX6_makes 29 = .ok (.iastore, 1) := by decide +kernel
theorem dX6_makes_30 : decode cX6_makes 30 = .ok (.aload_n 0, 1) := by decide +kernel
theorem dX6_makes_31 : decode cX6_makes 31 = .ok (.getfield 30, 3) := by decide +kernel
theorem dX6_makes_34 : decode cX6_makes 34 = .ok (.aload_n 0, 1) := by decide +kernel
theorem dX6_makes_35 : decode cX6_makes 35 = .ok (.getfield 67, 3) := by decide +kernel
theorem dX6_makes_38 : decode cX6_makes 38 = .ok (.iconst 0, 1) := by decide +kernel
theorem dX6_makes_39 : decode cX6_makes 39 = .ok (.iastore, 1) := by decide +kernel
theorem dX6_makes_40 : decode cX6_makes 40 = .ok (.aload_n 0, 1) := by decide +kernel
theorem dX6_makes_41 : decode cX6_makes 41 = .ok (.dup, 1) := by decide +kernel
theorem dX6_makes_42 : decode cX6_makes 42 = .ok (.getfield 67, 3) := by decide +kernel
theorem dX6_makes_45 : decode cX6_makes 45 = .ok (.iconst 1, 1) := by decide +kernel
theorem dX6_makes_46 : decode cX6_makes 46 = .ok (.iadd, 1) := by decide +kernel
theorem dX6_makes_47 : decode cX6_makes 47 = .ok (.putfield 67, 3) := by decide +kernel
theorem dX6_makes_50 : decode cX6_makes 50 = .ok (.aload_n 0, 1) := by decide +kernel
theorem dX6_makes_51 : decode cX6_makes 51 = .ok (.getfield 67, 3) := by decide +kernel
theorem dX6_makes_54 : decode cX6_makes 54 = .ok (.iconst 1, 1) := by decide +kernel
theorem dX6_makes_55 : decode cX6_makes 55 = .ok (.isub, 1) := by decide +kernel
theorem dX6_makes_56 : decode cX6_makes 56 = .ok (.ireturn, 1) := by decide +kernel
set_option maxRecDepth 20000 in
theorem ggX6_fill_X6_isDepot : GoodIn wsX6_fill wsX6_isDepot := goodIn_r _ [6, 7, 8, 5, 9] (by decide +kernel) (by decide +kernel)
set_option maxRecDepth 20000 in
theorem gX6_fill_X6_isDepot : GoodIn wsX6_fill (va_wsS RX6 73 yX6_isDepot wsX6_isDepot) := goodIn_app (goodIn_of _ (by decide +kernel)) ggX6_fill_X6_isDepot
set_option maxRecDepth 20000 in
theorem ggX6_fill_X6_isGood : GoodIn wsX6_fill wsX6_isGood := goodIn_r _ [12, 7, 8, 5, 9] (by decide +kernel) (by decide +kernel)
set_option maxRecDepth 20000 in
theorem gX6_fill_X6_isGood : GoodIn wsX6_fill (va_wsS RX6 97 yX6_isGood wsX6_isGood) := goodIn_app (goodIn_of _ (by decide +kernel)) ggX6_fill_X6_isGood
set_option maxRecDepth 20000 in
theorem ggX6_fill_X6_in : GoodIn wsX6_fill wsX6_in := goodIn_r _ [9] (by decide +kernel) (by decide +kernel)
set_option maxRecDepth 20000 in
theorem gX6_fill_X6_in : GoodIn wsX6_fill (va_wsS RX6 63 yX6_in wsX6_in) := goodIn_app (goodIn_of _ (by decide +kernel)) ggX6_fill_X6_in
set_option maxRecDepth 20000 in
theorem ggX6_fill_X6_makes : GoodIn wsX6_fill wsX6_makes := goodIn_r _ [16, 17, 1, 18, 19, 20, 31, 32, 33, 34, 35, 36, 37, 38, 39, 40, 41, 42, 43, 44, 45, 46, 47, 48, 49, 50, 51, 52] (by decide +kernel) (by decide +kernel)
set_option maxRecDepth 20000 in
theorem gX6_fill_X6_makes : GoodIn wsX6_fill (wsV RX6 100 RX6 yX6_makes wsX6_makes) := goodIn_app (goodIn_of _ (by decide +kernel)) ggX6_fill_X6_makes
set_option maxRecDepth 20000 in
theorem ggX6_fill_X6_changes : GoodIn wsX6_fill wsX6_changes := goodIn_r _ [24, 20, 25, 26, 27, 28, 29, 30, 31, 32, 33, 34, 35, 36, 37, 38, 39, 40, 41, 42, 43, 44, 45, 46, 47, 48, 49, 50, 51, 52] (by decide +kernel) (by decide +kernel)
set_option maxRecDepth 20000 in
theorem gX6_fill_X6_changes : GoodIn wsX6_fill (wsV RX6 104 RX6 yX6_changes wsX6_changes) := goodIn_app (goodIn_of _ (by decide +kernel)) ggX6_fill_X6_changes
theorem dX6_fill_0 : decode cX6_fill 0 = .ok (.aload_n 0, 1) := by decide +kernel
theorem dX6_fill_1 : decode cX6_fill 1 = .ok (.iload_n 1, 1) := by decide +kernel
theorem dX6_fill_2 : decode cX6_fill 2 = .ok (.invokestatic 73, 3) := by decide +kernel
theorem dX6_fill_5 : decode cX6_fill 5 = .ok (.ifCond .eq 10, 3) := by decide +kernel
theorem dX6_fill_8 : decode cX6_fill 8 = .ok (.iload_n 2, 1) := by decide +kernel
theorem dX6_fill_9 : decode cX6_fill 9 = .ok (.invokestatic 97, 3) := by decide +kernel
theorem dX6_fill_12 : decode cX6_fill 12 = .ok (.ifCond .ne 7, 3) := by decide +kernel
theorem dX6_fill_15 : decode cX6_fill 15 = .ok (.iconst 1, 1) := by decide +kernel
theorem dX6_fill_16 : decode cX6_fill 16 = .ok (.goto 44, 3) := by decide +kernel
theorem dX6_fill_19 : decode cX6_fill 19 = .ok (.iload_n 3, 1) := by decide +kernel
theorem dX6_fill_20 : decode cX6_fill 20 = .ok (.iconst 1, 1) := by decide +kernel
theorem dX6_fill_21 : decode cX6_fill 21 = .ok (.sipush 1000, 3) := by decide +kernel
theorem dX6_fill_24 : decode cX6_fill 24 = .ok (.invokestatic 63, 3) := by decide +kernel
theorem dX6_fill_27 : decode cX6_fill 27 = .ok (.ifCond .eq 15, 3) := by decide +kernel
theorem dX6_fill_30 : decode cX6_fill 30 = .ok (.iload 4, 2) := by decide +kernel
theorem dX6_fill_32 : decode cX6_fill 32 = .ok (.iconst 0, 1) := by decide +kernel
theorem dX6_fill_33 : decode cX6_fill 33 = .ok (.sipush 1000, 3) := by decide +kernel
theorem dX6_fill_36 : decode cX6_fill 36 = .ok (.invokestatic 63, 3) := by decide +kernel
theorem dX6_fill_39 : decode cX6_fill 39 = .ok (.ifCond .ne 7, 3) := by decide +kernel
theorem dX6_fill_42 : decode cX6_fill 42 = .ok (.iconst 2, 1) := by decide +kernel
theorem dX6_fill_43 : decode cX6_fill 43 = .ok (.goto 17, 3) := by decide +kernel
theorem dX6_fill_46 : decode cX6_fill 46 = .ok (.aload_n 0, 1) := by decide +kernel
theorem dX6_fill_47 : decode cX6_fill 47 = .ok (.getfield 67, 3) := by decide +kernel
theorem dX6_fill_50 : decode cX6_fill 50 = .ok (.bipush 40, 2) := by decide +kernel
theorem dX6_fill_52 : decode cX6_fill 52 = .ok (.if_icmp .ne 7, 3) := by decide +kernel
theorem dX6_fill_55 : decode cX6_fill 55 = .ok (.iconst 3, 1) := by decide +kernel
theorem dX6_fill_56 : decode cX6_fill 56 = .ok (.goto 4, 3) := by decide +kernel
theorem dX6_fill_59 : decode cX6_fill 59 = .ok (.iconst 0, 1) := by decide +kernel
theorem dX6_fill_60 : decode cX6_fill 60 = .ok (.putfield 60, 3) := by decide +kernel
theorem dX6_fill_63 : decode cX6_fill 63 = .ok (.aload_n 0, 1) := by decide +kernel
theorem dX6_fill_64 : decode cX6_fill 64 = .ok (.getfield 60, 3) := by decide +kernel
theorem dX6_fill_67 : decode cX6_fill 67 = .ok (.ifCond .le 5, 3) := by decide +kernel
theorem dX6_fill_70 : decode cX6_fill 70 = .ok (.iconst 0, 1) := by decide +kernel
theorem dX6_fill_71 : decode cX6_fill 71 = .ok (.ireturn, 1) := by decide +kernel
theorem dX6_fill_72 : decode cX6_fill 72 = .ok (.aload_n 0, 1) := by decide +kernel
theorem dX6_fill_73 : decode cX6_fill 73 = .ok (.iload_n 1, 1) := by decide +kernel
theorem dX6_fill_74 : decode cX6_fill 74 = .ok (.iload_n 2, 1) := by decide +kernel
theorem dX6_fill_75 : decode cX6_fill 75 = .ok (.iload 4, 2) := by decide +kernel
theorem dX6_fill_77 : decode cX6_fill 77 = .ok (.invokevirtual 100, 3) := by decide +kernel
theorem dX6_fill_80 : decode cX6_fill 80 = .ok (.istore 5, 2) := by decide +kernel
theorem dX6_fill_82 : decode cX6_fill 82 = .ok (.aload_n 0, 1) := by decide +kernel
theorem dX6_fill_83 : decode cX6_fill 83 = .ok (.iload 5, 2) := by decide +kernel
theorem dX6_fill_85 : decode cX6_fill 85 = .ok (.iload_n 3, 1) := by decide +kernel
theorem dX6_fill_86 : decode cX6_fill 86 = .ok (.iconst 0, 1) := by decide +kernel
theorem dX6_fill_87 : decode cX6_fill 87 = .ok (.invokevirtual 104, 3) := by decide +kernel
theorem dX6_fill_90 : decode cX6_fill 90 = .ok (.iload 5, 2) := by decide +kernel
theorem dX6_fill_92 : decode cX6_fill 92 = .ok (.ireturn, 1) := by decide +kernel
set_option maxRecDepth 20000 in
theorem ggX6_move_X6_isLot : GoodIn wsX6_move wsX6_isLot := goodIn_r _ [11, 4, 12, 13, 10, 14, 39, 40, 41, 42, 43, 44, 45, 46, 47, 48, 49, 50, 51, 52, 53, 54, 55, 56, 57, 58, 59, 60] (by decide +kernel) (by decide +kernel)
set_option maxRecDepth 20000 in
theorem gX6_move_X6_isLot : GoodIn wsX6_move (wsV RX6 108 RX6 yX6_isLot wsX6_isLot) := goodIn_app (goodIn_of _ (by decide +kernel)) ggX6_move_X6_isLot
set_option maxRecDepth 20000 in
theorem ggX6_move_X6_isDepot : GoodIn wsX6_move wsX6_isDepot := goodIn_r _ [17, 12, 13, 10, 14] (by decide +kernel) (by decide +kernel)
set_option maxRecDepth 20000 in
theorem gX6_move_X6_isDepot : GoodIn wsX6_move (va_wsS RX6 73 yX6_isDepot wsX6_isDepot) := goodIn_app (goodIn_of _ (by decide +kernel)) ggX6_move_X6_isDepot
set_option maxRecDepth 20000 in
theorem ggX6_move_X6_in : GoodIn wsX6_move wsX6_in := goodIn_r _ [14] (by decide +kernel) (by decide +kernel)
set_option maxRecDepth 20000 in
theorem gX6_move_X6_in : GoodIn wsX6_move (va_wsS RX6 63 yX6_in wsX6_in) := goodIn_app (goodIn_of _ (by decide +kernel)) ggX6_move_X6_in
set_option maxRecDepth 20000 in
theorem ggX6_move_X6_isCut : GoodIn wsX6_move wsX6_isCut := goodIn_r _ [21, 22, 23, 24, 12, 13, 10, 14, 39, 40, 41, 42, 43, 44, 45, 46, 47, 48, 49, 50, 51, 52, 53, 54, 55, 56, 57, 58, 59, 60] (by decide +kernel) (by decide +kernel)
set_option maxRecDepth 20000 in
theorem gX6_move_X6_isCut : GoodIn wsX6_move (wsV RX6 81 RX6 yX6_isCut wsX6_isCut) := goodIn_app (goodIn_of _ (by decide +kernel)) ggX6_move_X6_isCut
set_option maxRecDepth 20000 in
theorem ggX6_move_X6_makes : GoodIn wsX6_move wsX6_makes := goodIn_r _ [28, 2, 4, 5, 6, 3, 39, 40, 41, 42, 43, 44, 45, 46, 47, 48, 49, 50, 51, 52, 53, 54, 55, 56, 57, 58, 59, 60] (by decide +kernel) (by decide +kernel)
set_option maxRecDepth 20000 in
theorem gX6_move_X6_makes : GoodIn wsX6_move (wsV RX6 100 RX6 yX6_makes wsX6_makes) := goodIn_app (goodIn_of _ (by decide +kernel)) ggX6_move_X6_makes
set_option maxRecDepth 20000 in
theorem ggX6_move_X6_changes : GoodIn wsX6_move wsX6_changes := goodIn_r _ [32, 3, 33, 34, 35, 36, 37, 38, 39, 40, 41, 42, 43, 44, 45, 46, 47, 48, 49, 50, 51, 52, 53, 54, 55, 56, 57, 58, 59, 60] (by decide +kernel) (by decide +kernel)
set_option maxRecDepth 20000 in
theorem gX6_move_X6_changes : GoodIn wsX6_move (wsV RX6 104 RX6 yX6_changes wsX6_changes) := goodIn_app (goodIn_of _ (by decide +kernel)) ggX6_move_X6_changes
theorem dX6_move_0 : decode cX6_move 0 = .ok (.aload_n 0, 1) := by decide +kernel
theorem dX6_move_1 : decode cX6_move 1 = .ok (.aload_n 0, 1) := by decide +kernel
theorem dX6_move_2 : decode cX6_move 2 = .ok (.iload_n 1, 1) := by decide +kernel
theorem dX6_move_3 : decode cX6_move 3 = .ok (.invokevirtual 108, 3) := by decide +kernel
theorem dX6_move_6 : decode cX6_move 6 = .ok (.ifCond .eq 10, 3) := by decide +kernel
theorem dX6_move_9 : decode cX6_move 9 = .ok (.iload_n 2, 1) := by decide +kernel
theorem dX6_move_10 : decode cX6_move 10 = .ok (.invokestatic 73, 3) := by decide +kernel
theorem dX6_move_13 : decode cX6_move 13 = .ok (.ifCond .ne 7, 3) := by decide +kernel
theorem dX6_move_16 : decode cX6_move 16 = .ok (.iconst 1, 1) := by decide +kernel
theorem dX6_move_17 : decode cX6_move 17 = .ok (.goto 4, 3) := by decide +kernel
theorem dX6_move_20 : decode cX6_move 20 = .ok (.iconst 0, 1) := by decide +kernel
theorem dX6_move_21 : decode cX6_move 21 = .ok (.putfield 60, 3) := by decide +kernel
theorem dX6_move_24 : decode cX6_move 24 = .ok (.aload_n 0, 1) := by decide +kernel
theorem dX6_move_25 : decode cX6_move 25 = .ok (.getfield 60, 3) := by decide +kernel
theorem dX6_move_28 : decode cX6_move 28 = .ok (.ifCond .ne 77, 3) := by decide +kernel
theorem dX6_move_31 : decode cX6_move 31 = .ok (.aload_n 0, 1) := by decide +kernel
theorem dX6_move_32 : decode cX6_move 32 = .ok (.aload_n 0, 1) := by decide +kernel
theorem dX6_move_33 : decode cX6_move 33 = .ok (.getfield 24, 3) := by decide +kernel
theorem dX6_move_36 : decode cX6_move 36 = .ok (.iload_n 1, 1) := by decide +kernel
theorem dX6_move_37 : decode cX6_move 37 = .ok (.iaload, 1) := by decide +kernel
theorem dX6_move_38 : decode cX6_move 38 = .ok (.iload_n 2, 1) := by decide +kernel
theorem dX6_move_39 : decode cX6_move 39 = .ok (.if_icmp .eq 14, 3) := by decide +kernel
theorem dX6_move_42 : decode cX6_move 42 = .ok (.iload_n 3, 1) := by decide +kernel
theorem dX6_move_43 : decode cX6_move 43 = .ok (.iconst 1, 1) := by decide +kernel
theorem dX6_move_44 : decode cX6_move 44 = .ok (.sipush 1000, 3) := by decide +kernel
theorem dX6_move_47 : decode cX6_move 47 = .ok (.invokestatic 63, 3) := by decide +kernel
theorem dX6_move_50 : decode cX6_move 50 = .ok (.ifCond .ne 7, 3) := by decide +kernel
theorem dX6_move_53 : decode cX6_move 53 = .ok (.iconst 2, 1) := by decide +kernel
theorem dX6_move_54 : decode cX6_move 54 = .ok (.goto 48, 3) := by decide +kernel
theorem dX6_move_57 : decode cX6_move 57 = .ok (.aload_n 0, 1) := by decide +kernel
theorem dX6_move_58 : decode cX6_move 58 = .ok (.aload_n 0, 1) := by decide +kernel
theorem dX6_move_59 : decode cX6_move 59 = .ok (.getfield 24, 3) := by decide +kernel
theorem dX6_move_62 : decode cX6_move 62 = .ok (.iload_n 1, 1) := by decide +kernel
theorem dX6_move_63 : decode cX6_move 63 = .ok (.iaload, 1) := by decide +kernel
theorem dX6_move_64 : decode cX6_move 64 = .ok (.invokevirtual 81, 3) := by decide +kernel
theorem dX6_move_67 : decode cX6_move 67 = .ok (.ifCond .ne 30, 3) := by decide +kernel
theorem dX6_move_70 : decode cX6_move 70 = .ok (.aload_n 0, 1) := by decide +kernel
theorem dX6_move_71 : decode cX6_move 71 = .ok (.iload_n 2, 1) := by decide +kernel
theorem dX6_move_72 : decode cX6_move 72 = .ok (.invokevirtual 81, 3) := by decide +kernel
theorem dX6_move_75 : decode cX6_move 75 = .ok (.ifCond .ne 22, 3) := by decide +kernel
theorem dX6_move_78 : decode cX6_move 78 = .ok (.aload_n 0, 1) := by decide +kernel
theorem dX6_move_79 : decode cX6_move 79 = .ok (.getfield 30, 3) := by decide +kernel
theorem dX6_move_82 : decode cX6_move 82 = .ok (.iload_n 1, 1) := by decide +kernel
theorem dX6_move_83 : decode cX6_move 83 = .ok (.iaload, 1) := by decide +kernel
theorem dX6_move_84 : decode cX6_move 84 = .ok (.iload_n 3, 1) := by decide +kernel
theorem dX6_move_85 : decode cX6_move 85 = .ok (.if_icmp .lt 12, 3) := by decide +kernel
theorem dX6_move_88 : decode cX6_move 88 = .ok (.aload_n 0, 1) := by decide +kernel
theorem dX6_move_89 : decode cX6_move 89 = .ok (.getfield 67, 3) := by decide +kernel
theorem dX6_move_92 : decode cX6_move 92 = .ok (.bipush 40, 2) := by decide +kernel
theorem dX6_move_94 : decode cX6_move 94 = .ok (.if_icmp .ne 7, 3) := by decide +kernel
theorem dX6_move_97 : decode cX6_move 97 = .ok (.iconst 3, 1) := by decide +kernel
theorem dX6_move_98 : decode cX6_move 98 = .ok (.goto 4, 3) := by decide +kernel
theorem dX6_move_101 : decode cX6_move 101 = .ok (.iconst 0, 1) := by decide +kernel
theorem dX6_move_102 : decode cX6_move 102 = .ok (.putfield 60, 3) := by decide +kernel
theorem dX6_move_105 : decode cX6_move 105 = .ok (.aload_n 0, 1) := by decide +kernel
theorem dX6_move_106 : decode cX6_move 106 = .ok (.getfield 60, 3) := by decide +kernel
theorem dX6_move_109 : decode cX6_move 109 = .ok (.ifCond .le 5, 3) := by decide +kernel
theorem dX6_move_112 : decode cX6_move 112 = .ok (.iconst 0, 1) := by decide +kernel
theorem dX6_move_113 : decode cX6_move 113 = .ok (.ireturn, 1) := by decide +kernel
theorem dX6_move_114 : decode cX6_move 114 = .ok (.aload_n 0, 1) := by decide +kernel
theorem dX6_move_115 : decode cX6_move 115 = .ok (.iload_n 2, 1) := by decide +kernel
theorem dX6_move_116 : decode cX6_move 116 = .ok (.aload_n 0, 1) := by decide +kernel
theorem dX6_move_117 : decode cX6_move 117 = .ok (.getfield 27, 3) := by decide +kernel
theorem dX6_move_120 : decode cX6_move 120 = .ok (.iload_n 1, 1) := by decide +kernel
theorem dX6_move_121 : decode cX6_move 121 = .ok (.iaload, 1) := by decide +kernel
theorem dX6_move_122 : decode cX6_move 122 = .ok (.aload_n 0, 1) := by decide +kernel
theorem dX6_move_123 : decode cX6_move 123 = .ok (.getfield 33, 3) := by decide +kernel
theorem dX6_move_126 : decode cX6_move 126 = .ok (.iload_n 1, 1) := by decide +kernel
theorem dX6_move_127 : decode cX6_move 127 = .ok (.iaload, 1) := by decide +kernel
theorem dX6_move_128 : decode cX6_move 128 = .ok (.invokevirtual 100, 3) := by decide +kernel
theorem dX6_move_131 : decode cX6_move 131 = .ok (.istore 4, 2) := by decide +kernel
theorem dX6_move_133 : decode cX6_move 133 = .ok (.aload_n 0, 1) := by decide +kernel
theorem dX6_move_134 : decode cX6_move 134 = .ok (.iload_n 1, 1) := by decide +kernel
theorem dX6_move_135 : decode cX6_move 135 = .ok (.iload_n 3, 1) := by decide +kernel
theorem dX6_move_136 : decode cX6_move 136 = .ok (.ineg, 1) := by decide +kernel
theorem dX6_move_137 : decode cX6_move 137 = .ok (.iconst 1, 1) := by decide +kernel
theorem dX6_move_138 : decode cX6_move 138 = .ok (.invokevirtual 104, 3) := by decide +kernel
theorem dX6_move_141 : decode cX6_move 141 = .ok (.aload_n 0, 1) := by decide +kernel
theorem dX6_move_142 : decode cX6_move 142 = .ok (.iload 4, 2) := by decide +kernel
theorem dX6_move_144 : decode cX6_move 144 = .ok (.iload_n 3, 1) := by decide +kernel
theorem dX6_move_145 : decode cX6_move 145 = .ok (.iconst 1, 1) := by decide +kernel
theorem dX6_move_146 : decode cX6_move 146 = .ok (.invokevirtual 104, 3) := by decide +kernel
theorem dX6_move_149 : decode cX6_move 149 = .ok (.iload 4, 2) := by decide +kernel
theorem dX6_move_151 : decode cX6_move 151 = .ok (.ireturn, 1) := by decide +kernel
set_option maxRecDepth 20000 in
theorem ggX6_count_X6_isLot : GoodIn wsX6_count wsX6_isLot := goodIn_r _ [8, 9, 10, 11, 7, 12, 30, 31, 32, 33, 34, 35, 36, 37, 38, 39, 40, 41, 42, 43, 44, 45, 46, 47, 48, 49, 50, 51] (by decide +kernel) (by decide +kernel)
set_option maxRecDepth 20000 in
theorem gX6_count_X6_isLot : GoodIn wsX6_count (wsV RX6 108 RX6 yX6_isLot wsX6_isLot) := goodIn_app (goodIn_of _ (by decide +kernel)) ggX6_count_X6_isLot
set_option maxRecDepth 20000 in
theorem ggX6_count_X6_in : GoodIn wsX6_count wsX6_in := goodIn_r _ [12] (by decide +kernel) (by decide +kernel)
set_option maxRecDepth 20000 in
theorem gX6_count_X6_in : GoodIn wsX6_count (va_wsS RX6 63 yX6_in wsX6_in) := goodIn_app (goodIn_of _ (by decide +kernel)) ggX6_count_X6_in
set_option maxRecDepth 20000 in
theorem ggX6_count_X6_isCut : GoodIn wsX6_count wsX6_isCut := goodIn_r _ [16, 17, 18, 19, 10, 11, 7, 12, 30, 31, 32, 33, 34, 35, 36, 37, 38, 39, 40, 41, 42, 43, 44, 45, 46, 47, 48, 49, 50, 51] (by decide +kernel) (by decide +kernel)
set_option maxRecDepth 20000 in
theorem gX6_count_X6_isCut : GoodIn wsX6_count (wsV RX6 81 RX6 yX6_isCut wsX6_isCut) := goodIn_app (goodIn_of _ (by decide +kernel)) ggX6_count_X6_isCut
set_option maxRecDepth 20000 in
theorem ggX6_count_X6_changes : GoodIn wsX6_count wsX6_changes := goodIn_r _ [23, 3, 24, 25, 26, 27, 28, 29, 30, 31, 32, 33, 34, 35, 36, 37, 38, 39, 40, 41, 42, 43, 44, 45, 46, 47, 48, 49, 50, 51] (by decide +kernel) (by decide +kernel)
set_option maxRecDepth 20000 in
theorem gX6_count_X6_changes : GoodIn wsX6_count (wsV RX6 104 RX6 yX6_changes wsX6_changes) := goodIn_app (goodIn_of _ (by decide +kernel)) ggX6_count_X6_changes
theorem dX6_count_0 : decode cX6_count 0 = .ok (.aload_n 0, 1) := by decide +kernel
theorem dX6_count_1 : decode cX6_count 1 = .ok (.aload_n 0, 1) := by decide +kernel
theorem dX6_count_2 : decode cX6_count 2 = .ok (.iload_n 1, 1) := by decide +kernel
theorem dX6_count_3 : decode cX6_count 3 = .ok (.invokevirtual 108, 3) := by decide +kernel
theorem dX6_count_6 : decode cX6_count 6 = .ok (.ifCond .ne 7, 3) := by decide +kernel
theorem dX6_count_9 : decode cX6_count 9 = .ok (.iconst 1, 1) := by decide +kernel
theorem dX6_count_10 : decode cX6_count 10 = .ok (.goto 36, 3) := by decide +kernel
theorem dX6_count_13 : decode cX6_count 13 = .ok (.iload_n 2, 1) := by decide +kernel
theorem dX6_count_14 : decode cX6_count 14 = .ok (.iconst 0, 1) := by decide +kernel
theorem dX6_count_15 : decode cX6_count 15 = .ok (.sipush 1000, 3) := by decide +kernel
theorem dX6_count_18 : decode cX6_count 18 = .ok (.invokestatic 63, 3) := by decide +kernel
theorem dX6_count_21 : decode cX6_count 21 = .ok (.ifCond .ne 7, 3) := by decide +kernel
theorem dX6_count_24 : decode cX6_count 24 = .ok (.iconst 2, 1) := by decide +kernel
theorem dX6_count_25 : decode cX6_count 25 = .ok (.goto 21, 3) := by decide +kernel
theorem dX6_count_28 : decode cX6_count 28 = .ok (.aload_n 0, 1) := by decide +kernel
theorem dX6_count_29 : decode cX6_count 29 = .ok (.aload_n 0, 1) := by decide +kernel
theorem dX6_count_30 : decode cX6_count 30 = .ok (.getfield 24, 3) := by decide +kernel
theorem dX6_count_33 : decode cX6_count 33 = .ok (.iload_n 1, 1) := by decide +kernel
theorem dX6_count_34 : decode cX6_count 34 = .ok (.iaload, 1) := by decide +kernel
theorem dX6_count_35 : decode cX6_count 35 = .ok (.invokevirtual 81, 3) := by decide +kernel
theorem dX6_count_38 : decode cX6_count 38 = .ok (.ifCond .eq 7, 3) := by decide +kernel
theorem dX6_count_41 : decode cX6_count 41 = .ok (.iconst 3, 1) := by decide +kernel
theorem dX6_count_42 : decode cX6_count 42 = .ok (.goto 4, 3) := by decide +kernel
theorem dX6_count_45 : decode cX6_count 45 = .ok (.iconst 0, 1) := by decide +kernel
theorem dX6_count_46 : decode cX6_count 46 = .ok (.putfield 60, 3) := by decide +kernel
theorem dX6_count_49 : decode cX6_count 49 = .ok (.aload_n 0, 1) := by decide +kernel
theorem dX6_count_50 : decode cX6_count 50 = .ok (.getfield 60, 3) := by decide +kernel
theorem dX6_count_53 : decode cX6_count 53 = .ok (.ifCond .le 5, 3) := by decide +kernel
theorem dX6_count_56 : decode cX6_count 56 = .ok (.iconst 0, 1) := by decide +kernel
theorem dX6_count_57 : decode cX6_count 57 = .ok (.ireturn, 1) := by decide +kernel
theorem dX6_count_58 : decode cX6_count 58 = .ok (.iload_n 2, 1) := by decide +kernel
theorem dX6_count_59 : decode cX6_count 59 = .ok (.aload_n 0, 1) := by decide +kernel
theorem dX6_count_60 : decode cX6_count 60 = .ok (.getfield 30, 3) := by decide +kernel
theorem dX6_count_63 : decode cX6_count 63 = .ok (.iload_n 1, 1) := by decide +kernel
theorem dX6_count_64 : decode cX6_count 64 = .ok (.iaload, 1) := by decide +kernel
theorem dX6_count_65 : decode cX6_count 65 = .ok (.isub, 1) := by decide +kernel
theorem dX6_count_66 : decode cX6_count 66 = .ok (.istore_n 3, 1) := by decide +kernel
theorem dX6_count_67 : decode cX6_count 67 = .ok (.aload_n 0, 1) := by decide +kernel
theorem dX6_count_68 : decode cX6_count 68 = .ok (.iload_n 1, 1) := by decide +kernel
theorem dX6_count_69 : decode cX6_count 69 = .ok (.iload_n 3, 1) := by decide +kernel
theorem dX6_count_70 : decode cX6_count 70 = .ok (.iconst 5, 1) := by decide +kernel
theorem dX6_count_71 : decode cX6_count 71 = .ok (.invokevirtual 104, 3) := by decide +kernel
theorem dX6_count_74 : decode cX6_count 74 = .ok (.iload_n 3, 1) := by decide +kernel
theorem dX6_count_75 : decode cX6_count 75 = .ok (.ireturn, 1) := by decide +kernel
set_option maxRecDepth 20000 in
theorem ggX6_setPeople_X6_in : GoodIn wsX6_setPeople wsX6_in := goodIn_r _ [6] (by decide +kernel) (by decide +kernel)
set_option maxRecDepth 20000 in
theorem gX6_setPeople_X6_in : GoodIn wsX6_setPeople (va_wsS RX6 63 yX6_in wsX6_in) := goodIn_app (goodIn_of _ (by decide +kernel)) ggX6_setPeople_X6_in
theorem dX6_setPeople_0 : decode cX6_setPeople 0 = .ok (.aload_n 0, 1) := by decide +kernel
theorem dX6_setPeople_1 : decode cX6_setPeople 1 = .ok (.iload_n 1, 1) := by decide +kernel
theorem dX6_setPeople_2 : decode cX6_setPeople 2 = .ok (.iconst 0, 1) := by decide +kernel
theorem dX6_setPeople_3 : decode cX6_setPeople 3 = .ok (.iconst 2, 1) := by decide +kernel
theorem dX6_setPeople_4 : decode cX6_setPeople 4 = .ok (.invokestatic 63, 3) := by decide +kernel
theorem dX6_setPeople_7 : decode cX6_setPeople 7 = .ok (.ifCond .ne 7, 3) := by decide +kernel
theorem dX6_setPeople_10 : decode cX6_setPeople 10 = .ok (.iconst 1, 1) := by decide +kernel
theorem dX6_setPeople_11 : decode cX6_setPeople 11 = .ok (.goto 18, 3) := by decide +kernel
theorem dX6_setPeople_14 : decode cX6_setPeople 14 = .ok (.iload_n 2, 1) := by decide +kernel
theorem dX6_setPeople_15 : decode cX6_setPeople 15 = .ok (.iconst 0, 1) := by decide +kernel
theorem dX6_setPeople_16 : decode cX6_setPeople 16 = .ok (.bipush 20, 2) := by decide +kernel
theorem dX6_setPeople_18 : decode cX6_setPeople 18 = .ok (.invokestatic 63, 3) := by decide +kernel
theorem dX6_setPeople_21 : decode cX6_setPeople 21 = .ok (.ifCond .eq 7, 3) := by decide +kernel
theorem dX6_setPeople_24 : decode cX6_setPeople 24 = .ok (.iconst 0, 1) := by decide +kernel
theorem dX6_setPeople_25 : decode cX6_setPeople 25 = .ok (.goto 4, 3) := by decide +kernel
theorem dX6_setPeople_28 : decode cX6_setPeople 28 = .ok (.iconst 2, 1) := by decide +kernel
theorem dX6_setPeople_29 : decode cX6_setPeople 29 = .ok (.putfield 60, 3) := by decide +kernel
theorem dX6_setPeople_32 : decode cX6_setPeople 32 = .ok (.aload_n 0, 1) := by decide +kernel
theorem dX6_setPeople_33 : decode cX6_setPeople 33 = .ok (.getfield 60, 3) := by decide +kernel
theorem dX6_setPeople_36 : decode cX6_setPeople 36 = .ok (.ifCond .le 5, 3) := by decide +kernel
theorem dX6_setPeople_39 : decode cX6_setPeople 39 = .ok (.iconst 0, 1) := by decide +kernel
theorem dX6_setPeople_40 : decode cX6_setPeople 40 = .ok (.ireturn, 1) := by decide +kernel
theorem dX6_setPeople_41 : decode cX6_setPeople 41 = .ok (.aload_n 0, 1) := by decide +kernel
theorem dX6_setPeople_42 : decode cX6_setPeople 42 = .ok (.getfield 36, 3) := by decide +kernel
theorem dX6_setPeople_45 : decode cX6_setPeople 45 = .ok (.iload_n 1, 1) := by decide +kernel
theorem dX6_setPeople_46 : decode cX6_setPeople 46 = .ok (.iaload, 1) := by decide +kernel
theorem dX6_setPeople_47 : decode cX6_setPeople 47 = .ok (.istore_n 3, 1) := by decide +kernel
theorem dX6_setPeople_48 : decode cX6_setPeople 48 = .ok (.aload_n 0, 1) := by decide +kernel
theorem dX6_setPeople_49 : decode cX6_setPeople 49 = .ok (.getfield 36, 3) := by decide +kernel
theorem dX6_setPeople_52 : decode cX6_setPeople 52 = .ok (.iload_n 1, 1) := by decide +kernel
theorem dX6_setPeople_53 : decode cX6_setPeople 53 = .ok (.iload_n 2, 1) := by decide +kernel
theorem dX6_setPeople_54 : decode cX6_setPeople 54 = .ok (.iastore, 1) := by decide +kernel
theorem dX6_setPeople_55 : decode cX6_setPeople 55 = .ok (.iload_n 3, 1) := by decide +kernel
theorem dX6_setPeople_56 : decode cX6_setPeople 56 = .ok (.ireturn, 1) := by decide +kernel
theorem dX6_allNeed_0 : decode cX6_allNeed 0 = .ok (.iconst 0, 1) := by decide +kernel
theorem dX6_allNeed_1 : decode cX6_allNeed 1 = .ok (.istore_n 1, 1) := by decide +kernel
theorem dX6_allNeed_2 : decode cX6_allNeed 2 = .ok (.iconst 0, 1) := by decide +kernel
theorem dX6_allNeed_3 : decode cX6_allNeed 3 = .ok (.istore_n 2, 1) := by decide +kernel
theorem dX6_allNeed_4 : decode cX6_allNeed 4 = .ok (.iload_n 2, 1) := by decide +kernel
theorem dX6_allNeed_5 : decode cX6_allNeed 5 = .ok (.iconst 3, 1) := by decide +kernel
theorem dX6_allNeed_6 : decode cX6_allNeed 6 = .ok (.if_icmp .ge 22, 3) := by decide +kernel
theorem dX6_allNeed_9 : decode cX6_allNeed 9 = .ok (.iload_n 1, 1) := by decide +kernel
theorem dX6_allNeed_10 : decode cX6_allNeed 10 = .ok (.aload_n 0, 1) := by decide +kernel
theorem dX6_allNeed_11 : decode cX6_allNeed 11 = .ok (.getfield 36, 3) := by decide +kernel
theorem dX6_allNeed_14 : decode cX6_allNeed 14 = .ok (.iload_n 2, 1) := by decide +kernel
theorem dX6_allNeed_15 : decode cX6_allNeed 15 = .ok (.iaload, 1) := by decide +kernel
theorem dX6_allNeed_16 : decode cX6_allNeed 16 = .ok (.iconst 2, 1) := by decide +kernel
theorem dX6_allNeed_17 : decode cX6_allNeed 17 = .ok (.iload_n 2, 1) := by decide +kernel
theorem dX6_allNeed_18 : decode cX6_allNeed 18 = .ok (.iadd, 1) := by decide +kernel
theorem dX6_allNeed_19 : decode cX6_allNeed 19 = .ok (.imul, 1) := by decide +kernel
theorem dX6_allNeed_20 : decode cX6_allNeed 20 = .ok (.iadd, 1) := by decide +kernel
theorem dX6_allNeed_21 : decode cX6_allNeed 21 = .ok (.istore_n 1, 1) := by decide +kernel
theorem dX6_allNeed_22 : decode cX6_allNeed 22 = .ok (.iinc 2 1, 3) := by decide +kernel
theorem dX6_allNeed_25 : decode cX6_allNeed 25 = .ok (.goto (-21), 3) := by decide +kernel
theorem dX6_allNeed_28 : decode cX6_allNeed 28 = .ok (.iload_n 1, 1) := by decide +kernel
theorem dX6_allNeed_29 : decode cX6_allNeed 29 = .ok (.ireturn, 1) := by decide +kernel
theorem dX6_isFoodHere_0 : decode cX6_isFoodHere 0 = .ok (.aload_n 0, 1) := by decide +kernel
theorem dX6_isFoodHere_1 : decode cX6_isFoodHere 1 = .ok (.getfield 24, 3) := by decide +kernel
theorem dX6_isFoodHere_4 : decode cX6_isFoodHere 4 = .ok (.iload_n 1, 1) := by decide +kernel
theorem dX6_isFoodHere_5 : decode cX6_isFoodHere 5 = .ok (.iaload, 1) := by decide +kernel
theorem dX6_isFoodHere_6 : decode cX6_isFoodHere 6 = .ok (.ifCond .ne 17, 3) := by decide +kernel
theorem dX6_isFoodHere_9 : decode cX6_isFoodHere 9 = .ok (.aload_n 0, 1) := by decide +kernel
theorem dX6_isFoodHere_10 : decode cX6_isFoodHere 10 = .ok (.getfield 27, 3) := by decide +kernel
theorem dX6_isFoodHere_13 : decode cX6_isFoodHere 13 = .ok (.iload_n 1, 1) := by decide +kernel
theorem dX6_isFoodHere_14 : decode cX6_isFoodHere 14 = .ok (.iaload, 1) := by decide +kernel
theorem dX6_isFoodHere_15 : decode cX6_isFoodHere 15 = .ok (.iconst 3, 1) := by decide +kernel
theorem dX6_isFoodHere_16 : decode cX6_isFoodHere 16 = .ok (.if_icmp .ge 7, 3) := by decide +kernel
theorem dX6_isFoodHere_19 : decode cX6_isFoodHere 19 = .ok (.iconst 1, 1) := by decide +kernel
theorem dX6_isFoodHere_20 : decode cX6_isFoodHere 20 = .ok (.goto 4, 3) := by decide +kernel
theorem dX6_isFoodHere_23 : decode cX6_isFoodHere 23 = .ok (.iconst 0, 1) := by decide +kernel
theorem dX6_isFoodHere_24 : decode cX6_isFoodHere 24 = .ok (.ireturn, 1) := by decide +kernel
set_option maxRecDepth 20000 in
theorem ggX6_allFood_X6_isFoodHere : GoodIn wsX6_allFood wsX6_isFoodHere := goodIn_r _ [7, 8, 9, 10, 11, 12, 13, 14, 15, 16, 17, 18, 19, 20, 21, 22, 23, 24, 25, 26, 27, 28, 29, 30, 31] (by decide +kernel) (by decide +kernel)
set_option maxRecDepth 20000 in
theorem gX6_allFood_X6_isFoodHere : GoodIn wsX6_allFood (wsV RX6 111 RX6 yX6_isFoodHere wsX6_isFoodHere) := goodIn_app (goodIn_of _ (by decide +kernel)) ggX6_allFood_X6_isFoodHere
theorem dX6_allFood_0 : decode cX6_allFood 0 = .ok (.iconst 0, 1) := by decide +kernel
theorem dX6_allFood_1 : decode cX6_allFood 1 = .ok (.istore_n 1, 1) := by decide +kernel
theorem dX6_allFood_2 : decode cX6_allFood 2 = .ok (.iconst 0, 1) := by decide +kernel
theorem dX6_allFood_3 : decode cX6_allFood 3 = .ok (.istore_n 2, 1) := by decide +kernel
theorem dX6_allFood_4 : decode cX6_allFood 4 = .ok (.iload_n 2, 1) := by decide +kernel
theorem dX6_allFood_5 : decode cX6_allFood 5 = .ok (.aload_n 0, 1) := by decide +kernel
theorem dX6_allFood_6 : decode cX6_allFood 6 = .ok (.getfield 67, 3) := by decide +kernel
theorem dX6_allFood_9 : decode cX6_allFood 9 = .ok (.if_icmp .ge 30, 3) := by decide +kernel
theorem dX6_allFood_12 : decode cX6_allFood 12 = .ok (.iload_n 1, 1) := by decide +kernel
theorem dX6_allFood_13 : decode cX6_allFood 13 = .ok (.aload_n 0, 1) := by decide +kernel
theorem dX6_allFood_14 : decode cX6_allFood 14 = .ok (.iload_n 2, 1) := by decide +kernel
theorem dX6_allFood_15 : decode cX6_allFood 15 = .ok (.invokevirtual 111, 3) := by decide +kernel
theorem dX6_allFood_18 : decode cX6_allFood 18 = .ok (.ifCond .eq 12, 3) := by decide +kernel
theorem dX6_allFood_21 : decode cX6_allFood 21 = .ok (.aload_n 0, 1) := by decide +kernel
theorem dX6_allFood_22 : decode cX6_allFood 22 = .ok (.getfield 30, 3) := by decide +kernel
theorem dX6_allFood_25 : decode cX6_allFood 25 = .ok (.iload_n 2, 1) := by decide +kernel
theorem dX6_allFood_26 : decode cX6_allFood 26 = .ok (.iaload, 1) := by decide +kernel
theorem dX6_allFood_27 : decode cX6_allFood 27 = .ok (.goto 4, 3) := by decide +kernel
theorem dX6_allFood_30 : decode cX6_allFood 30 = .ok (.iconst 0, 1) := by decide +kernel
theorem dX6_allFood_31 : decode cX6_allFood 31 = .ok (.iadd, 1) := by decide +kernel
theorem dX6_allFood_32 : decode cX6_allFood 32 = .ok (.istore_n 1, 1) := by decide +kernel
theorem dX6_allFood_33 : decode cX6_allFood 33 = .ok (.iinc 2 1, 3) := by decide +kernel
theorem dX6_allFood_36 : decode cX6_allFood 36 = .ok (.goto (-32), 3) := by decide +kernel
theorem dX6_allFood_39 : decode cX6_allFood 39 = .ok (.iload_n 1, 1) := by decide +kernel
theorem dX6_allFood_40 : decode cX6_allFood 40 = .ok (.ireturn, 1) := by decide +kernel
theorem dX6_shares_0 : decode cX6_shares 0 = .ok (.iload_n 2, 1) := by decide +kernel
theorem dX6_shares_1 : decode cX6_shares 1 = .ok (.istore_n 3, 1) := by decide +kernel
theorem dX6_shares_2 : decode cX6_shares 2 = .ok (.iconst 0, 1) := by decide +kernel
theorem dX6_shares_3 : decode cX6_shares 3 = .ok (.istore 4, 2) := by decide +kernel
theorem dX6_shares_5 : decode cX6_shares 5 = .ok (.iload 4, 2) := by decide +kernel
theorem dX6_shares_7 : decode cX6_shares 7 = .ok (.iconst 3, 1) := by decide +kernel
theorem dX6_shares_8 : decode cX6_shares 8 = .ok (.if_icmp .ge 64, 3) := by decide +kernel
theorem dX6_shares_11 : decode cX6_shares 11 = .ok (.aload_n 0, 1) := by decide +kernel
theorem dX6_shares_12 : decode cX6_shares 12 = .ok (.getfield 54, 3) := by decide +kernel
theorem dX6_shares_15 : decode cX6_shares 15 = .ok (.iload 4, 2) := by decide +kernel
theorem dX6_shares_17 : decode cX6_shares 17 = .ok (.aload_n 0, 1) := by decide +kernel
theorem dX6_shares_18 : decode cX6_shares 18 = .ok (.getfield 36, 3) := by decide +kernel
theorem dX6_shares_21 : decode cX6_shares 21 = .ok (.iload 4, 2) := by decide +kernel
theorem dX6_shares_23 : decode cX6_shares 23 = .ok (.iaload, 1) := by decide +kernel
theorem dX6_shares_24 : decode cX6_shares 24 = .ok (.iconst 2, 1) := by decide +kernel
theorem dX6_shares_25 : decode cX6_shares 25 = .ok (.iload 4, 2) := by decide +kernel
theorem dX6_shares_27 : decode cX6_shares 27 = .ok (.iadd, 1) := by decide +kernel
theorem dX6_shares_28 : decode cX6_shares 28 = .ok (.imul, 1) := by decide +kernel
theorem dX6_shares_29 : decode cX6_shares 29 = .ok (.iastore, 1) := by decide +kernel
theorem dX6_shares_30 : decode cX6_shares 30 = .ok (.aload_n 0, 1) := by decide +kernel
theorem dX6_shares_31 : decode cX6_shares 31 = .ok (.getfield 57, 3) := by decide +kernel
theorem dX6_shares_34 : decode cX6_shares 34 = .ok (.iload 4, 2) := by decide +kernel
theorem dX6_shares_36 : decode cX6_shares 36 = .ok (.iload_n 1, 1) := by decide +kernel
theorem dX6_shares_37 : decode cX6_shares 37 = .ok (.ifCond .ne 7, 3) := by decide +kernel
theorem dX6_shares_40 : decode cX6_shares 40 = .ok (.iconst 0, 1) := by decide +kernel
theorem dX6_shares_41 : decode cX6_shares 41 = .ok (.goto 14, 3) := by decide +kernel
theorem dX6_shares_44 : decode cX6_shares 44 = .ok (.iload_n 2, 1) := by decide +kernel
theorem dX6_shares_45 : decode cX6_shares 45 = .ok (.aload_n 0, 1) := by decide +kernel
theorem dX6_shares_46 : decode cX6_shares 46 = .ok (.getfield 54, 3) := by decide +kernel
theorem dX6_shares_49 : decode cX6_shares 49 = .ok (.iload 4, 2) := by decide +kernel
theorem dX6_shares_51 : decode cX6_shares 51 = .ok (.iaload, 1) := by decide +kernel
theorem dX6_shares_52 : decode cX6_shares 52 = .ok (.imul, 1) := by decide +kernel
theorem dX6_shares_53 : decode cX6_shares 53 = .ok (.iload_n 1, 1) := by decide +kernel
theorem dX6_shares_54 : decode cX6_shares 54 = .ok (.idiv, 1) := by decide +kernel
theorem dX6_shares_55 : decode cX6_shares 55 = .ok (.iastore, 1) := by decide +kernel
theorem dX6_shares_56 : decode cX6_shares 56 = .ok (.iload_n 3, 1) := by decide +kernel
theorem dX6_shares_57 : decode cX6_shares 57 = .ok (.aload_n 0, 1) := by decide +kernel
theorem dX6_shares_58 : decode cX6_shares 58 = .ok (.getfield 57, 3) := by decide +kernel
theorem dX6_shares_61 : decode cX6_shares 61 = .ok (.iload 4, 2) := by decide +kernel
theorem dX6_shares_63 : decode cX6_shares 63 = .ok (.iaload, 1) := by decide +kernel
theorem dX6_shares_64 : decode cX6_shares 64 = .ok (.isub, 1) := by decide +kernel
theorem dX6_shares_65 : decode cX6_shares 65 = .ok (.istore_n 3, 1) := by decide +kernel
theorem dX6_shares_66 : decode cX6_shares 66 = .ok (.iinc 4 1, 3) := by decide +kernel
theorem dX6_shares_69 : decode cX6_shares 69 = .ok (.goto (-64), 3) := by decide +kernel
theorem dX6_shares_72 : decode cX6_shares 72 = .ok (.iconst 2, 1) := by decide +kernel
theorem dX6_shares_73 : decode cX6_shares 73 = .ok (.istore 4, 2) := by decide +kernel
theorem dX6_shares_75 : decode cX6_shares 75 = .ok (.iload 4, 2) := by decide +kernel
theorem dX6_shares_77 : decode cX6_shares 77 = .ok (.ifCond .lt 91, 3) := by decide +kernel
theorem dX6_shares_80 : decode cX6_shares 80 = .ok (.aload_n 0, 1) := by decide +kernel
theorem dX6_shares_81 : decode cX6_shares 81 = .ok (.getfield 54, 3) := by decide +kernel
theorem dX6_shares_84 : decode cX6_shares 84 = .ok (.iload 4, 2) := by decide +kernel
theorem dX6_shares_86 : decode cX6_shares 86 = .ok (.iaload, 1) := by decide +kernel
theorem dX6_shares_87 : decode cX6_shares 87 = .ok (.aload_n 0, 1) := by decide +kernel
theorem dX6_shares_88 : decode cX6_shares 88 = .ok (.getfield 57, 3) := by decide +kernel
theorem dX6_shares_91 : decode cX6_shares 91 = .ok (.iload 4, 2) := by decide +kernel
theorem dX6_shares_93 : decode cX6_shares 93 = .ok (.iaload, 1) := by decide +kernel
theorem dX6_shares_94 : decode cX6_shares 94 = .ok (.isub, 1) := by decide +kernel
theorem dX6_shares_95 : decode cX6_shares 95 = .ok (.iload_n 3, 1) := by decide +kernel
theorem dX6_shares_96 : decode cX6_shares 96 = .ok (.if_icmp .ge 21, 3) := by decide +kernel
theorem dX6_shares_99 : decode cX6_shares 99 = .ok (.aload_n 0, 1) := by decide +kernel
theorem dX6_shares_100 : decode cX6_shares 100 = .ok (.getfield 54, 3) := by decide +kernel
theorem dX6_shares_103 : decode cX6_shares 103 = .ok (.iload 4, 2) := by decide +kernel
theorem dX6_shares_105 : decode cX6_shares 105 = .ok (.iaload, 1) := by decide +kernel
theorem dX6_shares_106 : decode cX6_shares 106 = .ok (.aload_n 0, 1) := by decide +kernel
theorem dX6_shares_107 : decode cX6_shares 107 = .ok (.getfield 57, 3) := by decide +kernel
theorem dX6_shares_110 : decode cX6_shares 110 = .ok (.iload 4, 2) := by decide +kernel
theorem dX6_shares_112 : decode cX6_shares 112 = .ok (.iaload, 1) := by decide +kernel
theorem dX6_shares_113 : decode cX6_shares 113 = .ok (.isub, 1) := by decide +kernel
theorem dX6_shares_114 : decode cX6_shares 114 = .ok (.goto 4, 3) := by decide +kernel
theorem dX6_shares_117 : decode cX6_shares 117 = .ok (.iload_n 3, 1) := by decide +kernel
theorem dX6_shares_118 : decode cX6_shares 118 = .ok (.istore 5, 2) := by decide +kernel
theorem dX6_shares_120 : decode cX6_shares 120 = .ok (.aload_n 0, 1) := by decide +kernel
theorem dX6_shares_121 : decode cX6_shares 121 = .ok (.getfield 57, 3) := by decide +kernel
theorem dX6_shares_124 : decode cX6_shares 124 = .ok (.iload 4, 2) := by decide +kernel
theorem dX6_shares_126 : decode cX6_shares 126 = .ok (.dup2, 1) := by decide +kernel
theorem dX6_shares_127 : decode cX6_shares 127 = .ok (.iaload, 1) := by decide +kernel
theorem dX6_shares_128 : decode cX6_shares 128 = .ok (.iload 5, 2) := by decide +kernel
theorem dX6_shares_130 : decode cX6_shares 130 = .ok (.iadd, 1) := by decide +kernel
theorem dX6_shares_131 : decode cX6_shares 131 = .ok (.iastore, 1) := by decide +kernel
theorem dX6_shares_132 : decode cX6_shares 132 = .ok (.iload_n 3, 1) := by decide +kernel
theorem dX6_shares_133 : decode cX6_shares 133 = .ok (.iload 5, 2) := by decide +kernel
theorem dX6_shares_135 : decode cX6_shares 135 = .ok (.isub, 1) := by decide +kernel
theorem dX6_shares_136 : decode cX6_shares 136 = .ok (.istore_n 3, 1) := by decide +kernel
theorem dX6_shares_137 : decode cX6_shares 137 = .ok (.aload_n 0, 1) := by decide +kernel
theorem dX6_shares_138 : decode cX6_shares 138 = .ok (.getfield 39, 3) := by decide +kernel
theorem dX6_shares_141 : decode cX6_shares 141 = .ok (.iload 4, 2) := by decide +kernel
theorem dX6_shares_143 : decode cX6_shares 143 = .ok (.dup2, 1) := by decide +kernel
theorem dX6_shares_144 : decode cX6_shares 144 = .ok (.iaload, 1) := by decide +kernel
theorem dX6_shares_145 : decode cX6_shares 145 = .ok (.aload_n 0, 1) := by decide +kernel
theorem dX6_shares_146 : decode cX6_shares 146 = .ok (.getfield 54, 3) := by decide +kernel
theorem dX6_shares_149 : decode cX6_shares 149 = .ok (.iload 4, 2) := by decide +kernel
theorem dX6_shares_151 : decode cX6_shares 151 = .ok (.iaload, 1) := by decide +kernel
theorem dX6_shares_152 : decode cX6_shares 152 = .ok (.aload_n 0, 1) := by decide +kernel
theorem dX6_shares_153 : decode cX6_shares 153 = .ok (.getfield 57, 3) := by decide +kernel
theorem dX6_shares_156 : decode cX6_shares 156 = .ok (.iload 4, 2) := by decide +kernel
theorem dX6_shares_158 : decode cX6_shares 158 = .ok (.iaload, 1) := by decide +kernel
theorem dX6_shares_159 : decode cX6_shares 159 = .ok (.isub, 1) := by decide +kernel
theorem dX6_shares_160 : decode cX6_shares 160 = .ok (.iadd, 1) := by decide +kernel
theorem dX6_shares_161 : decode cX6_shares 161 = .ok (.iastore, 1) := by decide +kernel
theorem dX6_shares_162 : decode cX6_shares 162 = .ok (.iinc 4 (-1), 3) := by decide +kernel
theorem dX6_shares_165 : decode cX6_shares 165 = .ok (.goto (-90), 3) := by decide +kernel
theorem dX6_shares_168 : decode cX6_shares 168 = .ok (.return_, 1) := by decide +kernel
set_option maxRecDepth 20000 in
theorem ggX6_nextLot_X6_isFoodHere : GoodIn wsX6_nextLot wsX6_isFoodHere := goodIn_r _ [8, 9, 10, 11, 12, 13, 14, 15, 16, 17, 18, 19, 20, 21, 22, 23, 24, 25, 26, 27, 28, 29, 30, 31, 32] (by decide +kernel) (by decide +kernel)
set_option maxRecDepth 20000 in
theorem gX6_nextLot_X6_isFoodHere : GoodIn wsX6_nextLot (wsV RX6 111 RX6 yX6_isFoodHere wsX6_isFoodHere) := goodIn_app (goodIn_of _ (by decide +kernel)) ggX6_nextLot_X6_isFoodHere
theorem dX6_nextLot_0 : decode cX6_nextLot 0 = .ok (.iconst (-1), 1) := by decide +kernel
theorem dX6_nextLot_1 : decode cX6_nextLot 1 = .ok (.istore_n 1, 1) := by decide +kernel
theorem dX6_nextLot_2 : decode cX6_nextLot 2 = .ok (.iconst 0, 1) := by decide +kernel
theorem dX6_nextLot_3 : decode cX6_nextLot 3 = .ok (.istore_n 2, 1) := by decide +kernel
theorem dX6_nextLot_4 : decode cX6_nextLot 4 = .ok (.iload_n 2, 1) := by decide +kernel
theorem dX6_nextLot_5 : decode cX6_nextLot 5 = .ok (.aload_n 0, 1) := by decide +kernel
theorem dX6_nextLot_6 : decode cX6_nextLot 6 = .ok (.getfield 67, 3) := by decide +kernel
theorem dX6_nextLot_9 : decode cX6_nextLot 9 = .ok (.if_icmp .ge 62, 3) := by decide +kernel
theorem dX6_nextLot_12 : decode cX6_nextLot 12 = .ok (.aload_n 0, 1) := by decide +kernel
theorem dX6_nextLot_13 : decode cX6_nextLot 13 = .ok (.iload_n 2, 1) := by decide +kernel
theorem dX6_nextLot_14 : decode cX6_nextLot 14 = .ok (.invokevirtual 111, 3) := by decide +kernel
theorem dX6_nextLot_17 : decode cX6_nextLot 17 = .ok (.ifCond .eq 36, 3) := by decide +kernel
theorem dX6_nextLot_20 : decode cX6_nextLot 20 = .ok (.aload_n 0, 1) := by decide +kernel
theorem dX6_nextLot_21 : decode cX6_nextLot 21 = .ok (.getfield 30, 3) := by decide +kernel
theorem dX6_nextLot_24 : decode cX6_nextLot 24 = .ok (.iload_n 2, 1) := by decide +kernel
theorem dX6_nextLot_25 : decode cX6_nextLot 25 = .ok (.iaload, 1) := by decide +kernel
theorem dX6_nextLot_26 : decode cX6_nextLot 26 = .ok (.ifCond .le 27, 3) := by decide +kernel
theorem dX6_nextLot_29 : decode cX6_nextLot 29 = .ok (.iload_n 1, 1) := by decide +kernel
theorem dX6_nextLot_30 : decode cX6_nextLot 30 = .ok (.iconst (-1), 1) := by decide +kernel
theorem dX6_nextLot_31 : decode cX6_nextLot 31 = .ok (.if_icmp .eq 18, 3) := by decide +kernel
theorem dX6_nextLot_34 : decode cX6_nextLot 34 = .ok (.aload_n 0, 1) := by decide +kernel
theorem dX6_nextLot_35 : decode cX6_nextLot 35 = .ok (.getfield 33, 3) := by decide +kernel
theorem dX6_nextLot_38 : decode cX6_nextLot 38 = .ok (.iload_n 2, 1) := by decide +kernel
theorem dX6_nextLot_39 : decode cX6_nextLot 39 = .ok (.iaload, 1) := by decide +kernel
theorem dX6_nextLot_40 : decode cX6_nextLot 40 = .ok (.aload_n 0, 1) := by decide +kernel
theorem dX6_nextLot_41 : decode cX6_nextLot 41 = .ok (.getfield 33, 3) := by decide +kernel
theorem dX6_nextLot_44 : decode cX6_nextLot 44 = .ok (.iload_n 1, 1) := by decide +kernel
theorem dX6_nextLot_45 : decode cX6_nextLot 45 = .ok (.iaload, 1) := by decide +kernel
theorem dX6_nextLot_46 : decode cX6_nextLot 46 = .ok (.if_icmp .ge 7, 3) := by decide +kernel
theorem dX6_nextLot_49 : decode cX6_nextLot 49 = .ok (.iconst 1, 1) := by decide +kernel
theorem dX6_nextLot_50 : decode cX6_nextLot 50 = .ok (.goto 4, 3) := by decide +kernel
theorem dX6_nextLot_53 : decode cX6_nextLot 53 = .ok (.iconst 0, 1) := by decide +kernel
theorem dX6_nextLot_54 : decode cX6_nextLot 54 = .ok (.istore_n 3, 1) := by decide +kernel
theorem dX6_nextLot_55 : decode cX6_nextLot 55 = .ok (.iload_n 3, 1) := by decide +kernel
theorem dX6_nextLot_56 : decode cX6_nextLot 56 = .ok (.ifCond .eq 7, 3) := by decide +kernel
theorem dX6_nextLot_59 : decode cX6_nextLot 59 = .ok (.iload_n 2, 1) := by decide +kernel
theorem dX6_nextLot_60 : decode cX6_nextLot 60 = .ok (.goto 4, 3) := by decide +kernel
theorem dX6_nextLot_63 : decode cX6_nextLot 63 = .ok (.iload_n 1, 1) := by decide +kernel
theorem dX6_nextLot_64 : decode cX6_nextLot 64 = .ok (.istore_n 1, 1) := by decide +kernel
theorem dX6_nextLot_65 : decode cX6_nextLot 65 = .ok (.iinc 2 1, 3) := by decide +kernel
theorem dX6_nextLot_68 : decode cX6_nextLot 68 = .ok (.goto (-64), 3) := by decide +kernel
theorem dX6_nextLot_71 : decode cX6_nextLot 71 = .ok (.iload_n 1, 1) := by decide +kernel
theorem dX6_nextLot_72 : decode cX6_nextLot 72 = .ok (.ireturn, 1) := by decide +kernel
set_option maxRecDepth 20000 in
theorem ggX6_eats_X6_allNeed : GoodIn wsX6_eats wsX6_allNeed := goodIn_r _ [6, 7, 41, 42, 43, 44, 45, 46, 47, 48, 49, 50, 51, 52, 53, 54, 55, 56, 57, 58, 59, 60, 61, 62] (by decide +kernel) (by decide +kernel)
set_option maxRecDepth 20000 in
theorem gX6_eats_X6_allNeed : GoodIn wsX6_eats (wsV RX6 114 RX6 yX6_allNeed wsX6_allNeed) := goodIn_app (goodIn_of _ (by decide +kernel)) ggX6_eats_X6_allNeed
set_option maxRecDepth 20000 in
theorem ggX6_eats_X6_allFood : GoodIn wsX6_eats wsX6_allFood := goodIn_r _ [11, 12, 1, 13, 14, 15, 5, 16, 17, 18, 41, 42, 43, 44, 45, 46, 47, 48, 49, 50, 51, 52, 53, 54, 55, 56, 57, 58, 59, 60, 61, 62] (by decide +kernel) (by decide +kernel)
set_option maxRecDepth 20000 in
theorem gX6_eats_X6_allFood : GoodIn wsX6_eats (wsV RX6 118 RX6 yX6_allFood wsX6_allFood) := goodIn_app (goodIn_of _ (by decide +kernel)) ggX6_eats_X6_allFood
set_option maxRecDepth 20000 in
theorem ggX6_eats_X6_shares : GoodIn wsX6_eats wsX6_shares := goodIn_r _ [22, 23, 7, 24, 25, 41, 42, 43, 44, 45, 46, 47, 48, 49, 50, 51, 52, 53, 54, 55, 56, 57, 58, 59, 60, 61, 62] (by decide +kernel) (by decide +kernel)
set_option maxRecDepth 20000 in
theorem gX6_eats_X6_shares : GoodIn wsX6_eats (wsV RX6 121 RX6 yX6_shares wsX6_shares) := goodIn_app (goodIn_of _ (by decide +kernel)) ggX6_eats_X6_shares
set_option maxRecDepth 20000 in
theorem ggX6_eats_X6_nextLot : GoodIn wsX6_eats wsX6_nextLot := goodIn_r _ [29, 12, 1, 30, 13, 14, 15, 5, 16, 17, 18, 41, 42, 43, 44, 45, 46, 47, 48, 49, 50, 51, 52, 53, 54, 55, 56, 57, 58, 59, 60, 61, 62] (by decide +kernel) (by decide +kernel)
set_option maxRecDepth 20000 in
theorem gX6_eats_X6_nextLot : GoodIn wsX6_eats (wsV RX6 125 RX6 yX6_nextLot wsX6_nextLot) := goodIn_app (goodIn_of _ (by decide +kernel)) ggX6_eats_X6_nextLot
set_option maxRecDepth 20000 in
theorem ggX6_eats_X6_changes : GoodIn wsX6_eats wsX6_changes := goodIn_r _ [34, 1, 35, 36, 37, 38, 39, 40, 41, 42, 43, 44, 45, 46, 47, 48, 49, 50, 51, 52, 53, 54, 55, 56, 57, 58, 59, 60, 61, 62] (by decide +kernel) (by decide +kernel)
set_option maxRecDepth 20000 in
theorem gX6_eats_X6_changes : GoodIn wsX6_eats (wsV RX6 104 RX6 yX6_changes wsX6_changes) := goodIn_app (goodIn_of _ (by decide +kernel)) ggX6_eats_X6_changes
theorem dX6_eats_0 : decode cX6_eats 0 = .ok (.aload_n 0, 1) := by decide +kernel
theorem dX6_eats_1 : decode cX6_eats 1 = .ok (.invokevirtual 114, 3) := by decide +kernel
theorem dX6_eats_4 : decode cX6_eats 4 = .ok (.istore_n 1, 1) := by decide +kernel
theorem dX6_eats_5 : decode cX6_eats 5 = .ok (.aload_n 0, 1) := by decide +kernel
theorem dX6_eats_6 : decode cX6_eats 6 = .ok (.invokevirtual 118, 3) := by decide +kernel
theorem dX6_eats_9 : decode cX6_eats 9 = .ok (.istore_n 2, 1) := by decide +kernel
theorem dX6_eats_10 : decode cX6_eats 10 = .ok (.iload_n 1, 1) := by decide +kernel
theorem dX6_eats_11 : decode cX6_eats 11 = .ok (.iload_n 2, 1) := by decide +kernel
theorem dX6_eats_12 : decode cX6_eats 12 = .ok (.if_icmp .ge 7, 3) := by decide +kernel
theorem dX6_eats_15 : decode cX6_eats 15 = .ok (.iload_n 1, 1) := by decide +kernel
theorem dX6_eats_16 : decode cX6_eats 16 = .ok (.goto 4, 3) := by decide +kernel
theorem dX6_eats_19 : decode cX6_eats 19 = .ok (.iload_n 2, 1) := by decide +kernel
theorem dX6_eats_20 : decode cX6_eats 20 = .ok (.istore_n 3, 1) := by decide +kernel
theorem dX6_eats_21 : decode cX6_eats 21 = .ok (.aload_n 0, 1) := by decide +kernel
theorem dX6_eats_22 : decode cX6_eats 22 = .ok (.iload_n 1, 1) := by decide +kernel
theorem dX6_eats_23 : decode cX6_eats 23 = .ok (.iload_n 3, 1) := by decide +kernel
theorem dX6_eats_24 : decode cX6_eats 24 = .ok (.invokevirtual 121, 3) := by decide +kernel
theorem dX6_eats_27 : decode cX6_eats 27 = .ok (.iload_n 3, 1) := by decide +kernel
theorem dX6_eats_28 : decode cX6_eats 28 = .ok (.istore 4, 2) := by decide +kernel
theorem dX6_eats_30 : decode cX6_eats 30 = .ok (.iload 4, 2) := by decide +kernel
theorem dX6_eats_32 : decode cX6_eats 32 = .ok (.ifCond .le 55, 3) := by decide +kernel
theorem dX6_eats_35 : decode cX6_eats 35 = .ok (.aload_n 0, 1) := by decide +kernel
theorem dX6_eats_36 : decode cX6_eats 36 = .ok (.invokevirtual 125, 3) := by decide +kernel
theorem dX6_eats_39 : decode cX6_eats 39 = .ok (.istore 5, 2) := by decide +kernel
theorem dX6_eats_41 : decode cX6_eats 41 = .ok (.aload_n 0, 1) := by decide +kernel
theorem dX6_eats_42 : decode cX6_eats 42 = .ok (.getfield 30, 3) := by decide +kernel
theorem dX6_eats_45 : decode cX6_eats 45 = .ok (.iload 5, 2) := by decide +kernel
theorem dX6_eats_47 : decode cX6_eats 47 = .ok (.iaload, 1) := by decide +kernel
theorem dX6_eats_48 : decode cX6_eats 48 = .ok (.iload 4, 2) := by decide +kernel
theorem dX6_eats_50 : decode cX6_eats 50 = .ok (.if_icmp .ge 13, 3) := by decide +kernel
theorem dX6_eats_53 : decode cX6_eats 53 = .ok (.aload_n 0, 1) := by decide +kernel
theorem dX6_eats_54 : decode cX6_eats 54 = .ok (.getfield 30, 3) := by decide +kernel
theorem dX6_eats_57 : decode cX6_eats 57 = .ok (.iload 5, 2) := by decide +kernel
theorem dX6_eats_59 : decode cX6_eats 59 = .ok (.iaload, 1) := by decide +kernel
theorem dX6_eats_60 : decode cX6_eats 60 = .ok (.goto 5, 3) := by decide +kernel
theorem dX6_eats_63 : decode cX6_eats 63 = .ok (.iload 4, 2) := by decide +kernel
theorem dX6_eats_65 : decode cX6_eats 65 = .ok (.istore 6, 2) := by decide +kernel
theorem dX6_eats_67 : decode cX6_eats 67 = .ok (.aload_n 0, 1) := by decide +kernel
theorem dX6_eats_68 : decode cX6_eats 68 = .ok (.iload 5, 2) := by decide +kernel
theorem dX6_eats_70 : decode cX6_eats 70 = .ok (.iload 6, 2) := by decide +kernel
theorem dX6_eats_72 : decode cX6_eats 72 = .ok (.ineg, 1) := by decide +kernel
theorem dX6_eats_73 : decode cX6_eats 73 = .ok (.iconst 3, 1) := by decide +kernel
theorem dX6_eats_74 : decode cX6_eats 74 = .ok (.invokevirtual 104, 3) := by decide +kernel
theorem dX6_eats_77 : decode cX6_eats 77 = .ok (.iload 4, 2) := by decide +kernel
theorem dX6_eats_79 : decode cX6_eats 79 = .ok (.iload 6, 2) := by decide +kernel
theorem dX6_eats_81 : decode cX6_eats 81 = .ok (.isub, 1) := by decide +kernel
theorem dX6_eats_82 : decode cX6_eats 82 = .ok (.istore 4, 2) := by decide +kernel
theorem dX6_eats_84 : decode cX6_eats 84 = .ok (.goto (-54), 3) := by decide +kernel
theorem dX6_eats_87 : decode cX6_eats 87 = .ok (.iload_n 3, 1) := by decide +kernel
theorem dX6_eats_88 : decode cX6_eats 88 = .ok (.ireturn, 1) := by decide +kernel
set_option maxRecDepth 20000 in
theorem ggX6_passes_X6_changes : GoodIn wsX6_passes wsX6_changes := goodIn_r _ [12, 4, 13, 14, 15, 16, 17, 18, 56, 57, 58, 59, 60, 61, 62, 63, 64, 65, 66, 67, 68, 69, 70, 71, 72, 73, 74, 75, 76, 77] (by decide +kernel) (by decide +kernel)
set_option maxRecDepth 20000 in
theorem gX6_passes_X6_changes : GoodIn wsX6_passes (wsV RX6 104 RX6 yX6_changes wsX6_changes) := goodIn_app (goodIn_of _ (by decide +kernel)) ggX6_passes_X6_changes
set_option maxRecDepth 20000 in
theorem ggX6_passes_X6_isFrost : GoodIn wsX6_passes wsX6_isFrost := goodIn_r _ [22, 23, 3, 24, 25, 26, 11, 27, 56, 57, 58, 59, 60, 61, 62, 63, 64, 65, 66, 67, 68, 69, 70, 71, 72, 73, 74, 75, 76, 77] (by decide +kernel) (by decide +kernel)
set_option maxRecDepth 20000 in
theorem gX6_passes_X6_isFrost : GoodIn wsX6_passes (wsV RX6 87 RX6 yX6_isFrost wsX6_isFrost) := goodIn_app (goodIn_of _ (by decide +kernel)) ggX6_passes_X6_isFrost
set_option maxRecDepth 20000 in
theorem ggX6_passes_X6_eats : GoodIn wsX6_passes wsX6_eats := goodIn_r _ [31, 4, 32, 33, 34, 11, 35, 36, 37, 38, 39, 40, 1, 41, 42, 43, 44, 7, 5, 45, 46, 47, 48, 49, 50, 51, 52, 53, 54, 55, 2, 8, 9, 10, 12, 13, 14, 15, 16, 17, 18, 56, 57, 58, 59, 60, 61, 62, 63, 64, 65, 66, 67, 68, 69, 70, 71, 72, 73, 74, 75, 76, 77] (by decide +kernel) (by decide +kernel)
set_option maxRecDepth 20000 in
theorem gX6_passes_X6_eats : GoodIn wsX6_passes (wsV RX6 128 RX6 yX6_eats wsX6_eats) := goodIn_app (goodIn_of _ (by decide +kernel)) ggX6_passes_X6_eats
theorem dX6_passes_0 : decode cX6_passes 0 = .ok (.iconst 0, 1) := by decide +kernel
theorem dX6_passes_1 : decode cX6_passes 1 = .ok (.istore_n 1, 1) := by decide +kernel
theorem dX6_passes_2 : decode cX6_passes 2 = .ok (.iload_n 1, 1) := by decide +kernel
theorem dX6_passes_3 : decode cX6_passes 3 = .ok (.aload_n 0, 1) := by decide +kernel
theorem dX6_passes_4 : decode cX6_passes 4 = .ok (.getfield 67, 3) := by decide +kernel
theorem dX6_passes_7 : decode cX6_passes 7 = .ok (.if_icmp .ge 39, 3) := by decide +kernel
theorem dX6_passes_10 : decode cX6_passes 10 = .ok (.aload_n 0, 1) := by decide +kernel
theorem dX6_passes_11 : decode cX6_passes 11 = .ok (.iload_n 1, 1) := by decide +kernel
theorem dX6_passes_12 : decode cX6_passes 12 = .ok (.aload_n 0, 1) := by decide +kernel
theorem dX6_passes_13 : decode cX6_passes 13 = .ok (.getfield 33, 3) := by decide +kernel
theorem dX6_passes_16 : decode cX6_passes 16 = .ok (.iload_n 1, 1) := by decide +kernel
theorem dX6_passes_17 : decode cX6_passes 17 = .ok (.iaload, 1) := by decide +kernel
theorem dX6_passes_18 : decode cX6_passes 18 = .ok (.aload_n 0, 1) := by decide +kernel
theorem dX6_passes_19 : decode cX6_passes 19 = .ok (.getfield 70, 3) := by decide +kernel
theorem dX6_passes_22 : decode cX6_passes 22 = .ok (.if_icmp .ge 13, 3) := by decide +kernel
theorem dX6_passes_25 : decode cX6_passes 25 = .ok (.aload_n 0, 1) := by decide +kernel
theorem dX6_passes_26 : decode cX6_passes 26 = .ok (.getfield 30, 3) := by decide +kernel
theorem dX6_passes_29 : decode cX6_passes 29 = .ok (.iload_n 1, 1) := by decide +kernel
theorem dX6_passes_30 : decode cX6_passes 30 = .ok (.iaload, 1) := by decide +kernel
theorem dX6_passes_31 : decode cX6_passes 31 = .ok (.ineg, 1) := by decide +kernel
theorem dX6_passes_32 : decode cX6_passes 32 = .ok (.goto 4, 3) := by decide +kernel
theorem dX6_passes_35 : decode cX6_passes 35 = .ok (.iconst 0, 1) := by decide +kernel
theorem dX6_passes_36 : decode cX6_passes 36 = .ok (.iconst 4, 1) := by decide +kernel
theorem dX6_passes_37 : decode cX6_passes 37 = .ok (.invokevirtual 104, 3) := by decide +kernel
theorem dX6_passes_40 : decode cX6_passes 40 = .ok (.iinc 1 1, 3) := by decide +kernel
theorem dX6_passes_43 : decode cX6_passes 43 = .ok (.goto (-41), 3) := by decide +kernel
theorem dX6_passes_46 : decode cX6_passes 46 = .ok (.iconst 0, 1) := by decide +kernel
theorem dX6_passes_47 : decode cX6_passes 47 = .ok (.istore_n 1, 1) := by decide +kernel
theorem dX6_passes_48 : decode cX6_passes 48 = .ok (.iload_n 1, 1) := by decide +kernel
theorem dX6_passes_49 : decode cX6_passes 49 = .ok (.aload_n 0, 1) := by decide +kernel
theorem dX6_passes_50 : decode cX6_passes 50 = .ok (.getfield 67, 3) := by decide +kernel
theorem dX6_passes_53 : decode cX6_passes 53 = .ok (.if_icmp .ge 73, 3) := by decide +kernel
theorem dX6_passes_56 : decode cX6_passes 56 = .ok (.aload_n 0, 1) := by decide +kernel
theorem dX6_passes_57 : decode cX6_passes 57 = .ok (.invokevirtual 87, 3) := by decide +kernel
theorem dX6_passes_60 : decode cX6_passes 60 = .ok (.ifCond .eq 66, 3) := by decide +kernel
theorem dX6_passes_63 : decode cX6_passes 63 = .ok (.aload_n 0, 1) := by decide +kernel
theorem dX6_passes_64 : decode cX6_passes 64 = .ok (.getfield 27, 3) := by decide +kernel
theorem dX6_passes_67 : decode cX6_passes 67 = .ok (.iload_n 1, 1) := by decide +kernel
theorem dX6_passes_68 : decode cX6_passes 68 = .ok (.iaload, 1) := by decide +kernel
theorem dX6_passes_69 : decode cX6_passes 69 = .ok (.iconst 2, 1) := by decide +kernel
theorem dX6_passes_70 : decode cX6_passes 70 = .ok (.if_icmp .ge 21, 3) := by decide +kernel
theorem dX6_passes_73 : decode cX6_passes 73 = .ok (.aload_n 0, 1) := by decide +kernel
theorem dX6_passes_74 : decode cX6_passes 74 = .ok (.getfield 7, 3) := by decide +kernel
theorem dX6_passes_77 : decode cX6_passes 77 = .ok (.aload_n 0, 1) := by decide +kernel
theorem dX6_passes_78 : decode cX6_passes 78 = .ok (.getfield 24, 3) := by decide +kernel
theorem dX6_passes_81 : decode cX6_passes 81 = .ok (.iload_n 1, 1) := by decide +kernel
theorem dX6_passes_82 : decode cX6_passes 82 = .ok (.iaload, 1) := by decide +kernel
theorem dX6_passes_83 : decode cX6_passes 83 = .ok (.baload, 1) := by decide +kernel
theorem dX6_passes_84 : decode cX6_passes 84 = .ok (.ifCond .ne 7, 3) := by decide +kernel
theorem dX6_passes_87 : decode cX6_passes 87 = .ok (.iconst 1, 1) := by decide +kernel
theorem dX6_passes_88 : decode cX6_passes 88 = .ok (.goto 4, 3) := by decide +kernel
theorem dX6_passes_91 : decode cX6_passes 91 = .ok (.iconst 0, 1) := by decide +kernel
theorem dX6_passes_92 : decode cX6_passes 92 = .ok (.istore_n 2, 1) := by decide +kernel
theorem dX6_passes_93 : decode cX6_passes 93 = .ok (.aload_n 0, 1) := by decide +kernel
theorem dX6_passes_94 : decode cX6_passes 94 = .ok (.iload_n 1, 1) := by decide +kernel
theorem dX6_passes_95 : decode cX6_passes 95 = .ok (.iload_n 2, 1) := by decide +kernel
theorem dX6_passes_96 : decode cX6_passes 96 = .ok (.ifCond .eq 19, 3) := by decide +kernel
theorem dX6_passes_99 : decode cX6_passes 99 = .ok (.aload_n 0, 1) := by decide +kernel
theorem dX6_passes_100 : decode cX6_passes 100 = .ok (.getfield 30, 3) := by decide +kernel
theorem dX6_passes_103 : decode cX6_passes 103 = .ok (.iload_n 1, 1) := by decide +kernel
theorem dX6_passes_104 : decode cX6_passes 104 = .ok (.iaload, 1) := by decide +kernel
theorem dX6_passes_105 : decode cX6_passes 105 = .ok (.bipush 9, 2) := by decide +kernel
theorem dX6_passes_107 : decode cX6_passes 107 = .ok (.iadd, 1) := by decide +kernel
theorem dX6_passes_108 : decode cX6_passes 108 = .ok (.bipush 10, 2) := by decide +kernel
theorem dX6_passes_110 : decode cX6_passes 110 = .ok (.idiv, 1) := by decide +kernel
theorem dX6_passes_111 : decode cX6_passes 111 = .ok (.ineg, 1) := by decide +kernel
theorem dX6_passes_112 : decode cX6_passes 112 = .ok (.goto 4, 3) := by decide +kernel
theorem dX6_passes_115 : decode cX6_passes 115 = .ok (.iconst 0, 1) := by decide +kernel
theorem dX6_passes_116 : decode cX6_passes 116 = .ok (.iconst 2, 1) := by decide +kernel
theorem dX6_passes_117 : decode cX6_passes 117 = .ok (.invokevirtual 104, 3) := by decide +kernel
theorem dX6_passes_120 : decode cX6_passes 120 = .ok (.iinc 1 1, 3) := by decide +kernel
theorem dX6_passes_123 : decode cX6_passes 123 = .ok (.goto (-75), 3) := by decide +kernel
theorem dX6_passes_126 : decode cX6_passes 126 = .ok (.aload_n 0, 1) := by decide +kernel
theorem dX6_passes_127 : decode cX6_passes 127 = .ok (.invokevirtual 128, 3) := by decide +kernel
theorem dX6_passes_130 : decode cX6_passes 130 = .ok (.istore_n 1, 1) := by decide +kernel
theorem dX6_passes_131 : decode cX6_passes 131 = .ok (.aload_n 0, 1) := by decide +kernel
theorem dX6_passes_132 : decode cX6_passes 132 = .ok (.dup, 1) := by decide +kernel
theorem dX6_passes_133 : decode cX6_passes 133 = .ok (.getfield 70, 3) := by decide +kernel
theorem dX6_passes_136 : decode cX6_passes 136 = .ok (.iconst 1, 1) := by decide +kernel
theorem dX6_passes_137 : decode cX6_passes 137 = .ok (.iadd, 1) := by decide +kernel
theorem dX6_passes_138 : decode cX6_passes 138 = .ok (.putfield 70, 3) := by decide +kernel
theorem dX6_passes_141 : decode cX6_passes 141 = .ok (.iload_n 1, 1) := by decide +kernel
theorem dX6_passes_142 : decode cX6_passes 142 = .ok (.ireturn, 1) := by decide +kernel
set_option maxRecDepth 20000 in
theorem ggX6_pass_X6_in : GoodIn wsX6_pass wsX6_in := goodIn_r _ [6] (by decide +kernel) (by decide +kernel)
set_option maxRecDepth 20000 in
theorem gX6_pass_X6_in : GoodIn wsX6_pass (va_wsS RX6 63 yX6_in wsX6_in) := goodIn_app (goodIn_of _ (by decide +kernel)) ggX6_pass_X6_in
set_option maxRecDepth 20000 in
theorem ggX6_pass_X6_passes : GoodIn wsX6_pass wsX6_passes := goodIn_r _ [10, 11, 12, 1, 13, 14, 15, 16, 17, 18, 19, 5, 20, 21, 22, 23, 24, 25, 26, 27, 28, 29, 30, 31, 32, 3, 4, 6, 33, 34, 35, 36, 37, 38, 39, 40, 41, 42, 43, 44, 45, 46, 47, 48, 49, 50, 51, 52, 53, 54, 55, 56, 57, 58, 59, 60, 61, 62, 63, 64, 65, 66, 67, 68, 69, 70, 71, 72, 73, 74, 75, 76, 77, 78, 79, 80, 81, 82] (by decide +kernel) (by decide +kernel)
set_option maxRecDepth 20000 in
theorem gX6_pass_X6_passes : GoodIn wsX6_pass (wsV RX6 131 RX6 yX6_passes wsX6_passes) := goodIn_app (goodIn_of _ (by decide +kernel)) ggX6_pass_X6_passes
theorem dX6_pass_0 : decode cX6_pass 0 = .ok (.aload_n 0, 1) := by decide +kernel
theorem dX6_pass_1 : decode cX6_pass 1 = .ok (.iload_n 1, 1) := by decide +kernel
theorem dX6_pass_2 : decode cX6_pass 2 = .ok (.iconst 1, 1) := by decide +kernel
theorem dX6_pass_3 : decode cX6_pass 3 = .ok (.bipush 60, 2) := by decide +kernel
theorem dX6_pass_5 : decode cX6_pass 5 = .ok (.invokestatic 63, 3) := by decide +kernel
theorem dX6_pass_8 : decode cX6_pass 8 = .ok (.ifCond .ne 7, 3) := by decide +kernel
theorem dX6_pass_11 : decode cX6_pass 11 = .ok (.iconst 1, 1) := by decide +kernel
theorem dX6_pass_12 : decode cX6_pass 12 = .ok (.goto 20, 3) := by decide +kernel
theorem dX6_pass_15 : decode cX6_pass 15 = .ok (.aload_n 0, 1) := by decide +kernel
theorem dX6_pass_16 : decode cX6_pass 16 = .ok (.getfield 70, 3) := by decide +kernel
theorem dX6_pass_19 : decode cX6_pass 19 = .ok (.iload_n 1, 1) := by decide +kernel
theorem dX6_pass_20 : decode cX6_pass 20 = .ok (.iadd, 1) := by decide +kernel
theorem dX6_pass_21 : decode cX6_pass 21 = .ok (.sipush 1500, 3) := by decide +kernel
theorem dX6_pass_24 : decode cX6_pass 24 = .ok (.if_icmp .le 7, 3) := by decide +kernel
theorem dX6_pass_27 : decode cX6_pass 27 = .ok (.iconst 2, 1) := by decide +kernel
theorem dX6_pass_28 : decode cX6_pass 28 = .ok (.goto 4, 3) := by decide +kernel
theorem dX6_pass_31 : decode cX6_pass 31 = .ok (.iconst 0, 1) := by decide +kernel
theorem dX6_pass_32 : decode cX6_pass 32 = .ok (.putfield 60, 3) := by decide +kernel
theorem dX6_pass_35 : decode cX6_pass 35 = .ok (.iconst 0, 1) := by decide +kernel
theorem dX6_pass_36 : decode cX6_pass 36 = .ok (.istore_n 2, 1) := by decide +kernel
theorem dX6_pass_37 : decode cX6_pass 37 = .ok (.iconst 0, 1) := by decide +kernel
theorem dX6_pass_38 : decode cX6_pass 38 = .ok (.istore_n 3, 1) := by decide +kernel
theorem dX6_pass_39 : decode cX6_pass 39 = .ok (.iload_n 3, 1) := by decide +kernel
theorem dX6_pass_40 : decode cX6_pass 40 = .ok (.iload_n 1, 1) := by decide +kernel
theorem dX6_pass_41 : decode cX6_pass 41 = .ok (.if_icmp .ge 23, 3) := by decide +kernel
theorem dX6_pass_44 : decode cX6_pass 44 = .ok (.aload_n 0, 1) := by decide +kernel
theorem dX6_pass_45 : decode cX6_pass 45 = .ok (.getfield 60, 3) := by decide +kernel
theorem dX6_pass_48 : decode cX6_pass 48 = .ok (.ifCond .ne 16, 3) := by decide +kernel
theorem dX6_pass_51 : decode cX6_pass 51 = .ok (.iload_n 2, 1) := by decide +kernel
theorem dX6_pass_52 : decode cX6_pass 52 = .ok (.aload_n 0, 1) := by decide +kernel
theorem dX6_pass_53 : decode cX6_pass 53 = .ok (.invokevirtual 131, 3) := by decide +kernel
theorem dX6_pass_56 : decode cX6_pass 56 = .ok (.iadd, 1) := by decide +kernel
theorem dX6_pass_57 : decode cX6_pass 57 = .ok (.istore_n 2, 1) := by decide +kernel
theorem dX6_pass_58 : decode cX6_pass 58 = .ok (.iinc 3 1, 3) := by decide +kernel
theorem dX6_pass_61 : decode cX6_pass 61 = .ok (.goto (-22), 3) := by decide +kernel
theorem dX6_pass_64 : decode cX6_pass 64 = .ok (.iload_n 2, 1) := by decide +kernel
theorem dX6_pass_65 : decode cX6_pass 65 = .ok (.ireturn, 1) := by decide +kernel
theorem dX6_nextCrew_0 : decode cX6_nextCrew 0 = .ok (.aload_n 0, 1) := by decide +kernel
theorem dX6_nextCrew_1 : decode cX6_nextCrew 1 = .ok (.aload_n 0, 1) := by decide +kernel
theorem dX6_nextCrew_2 : decode cX6_nextCrew 2 = .ok (.getfield 94, 3) := by decide +kernel
theorem dX6_nextCrew_5 : decode cX6_nextCrew 5 = .ok (.bipush 19, 2) := by decide +kernel
theorem dX6_nextCrew_7 : decode cX6_nextCrew 7 = .ok (.if_icmp .ne 7, 3) := by decide +kernel
theorem dX6_nextCrew_10 : decode cX6_nextCrew 10 = .ok (.iconst 1, 1) := by decide +kernel
theorem dX6_nextCrew_11 : decode cX6_nextCrew 11 = .ok (.goto 4, 3) := by decide +kernel
theorem dX6_nextCrew_14 : decode cX6_nextCrew 14 = .ok (.iconst 0, 1) := by decide +kernel
theorem dX6_nextCrew_15 : decode cX6_nextCrew 15 = .ok (.putfield 60, 3) := by decide +kernel
theorem dX6_nextCrew_18 : decode cX6_nextCrew 18 = .ok (.aload_n 0, 1) := by decide +kernel
theorem dX6_nextCrew_19 : decode cX6_nextCrew 19 = .ok (.getfield 60, 3) := by decide +kernel
theorem dX6_nextCrew_22 : decode cX6_nextCrew 22 = .ok (.ifCond .le 5, 3) := by decide +kernel
theorem dX6_nextCrew_25 : decode cX6_nextCrew 25 = .ok (.iconst 0, 1) := by decide +kernel
theorem dX6_nextCrew_26 : decode cX6_nextCrew 26 = .ok (.ireturn, 1) := by decide +kernel
theorem dX6_nextCrew_27 : decode cX6_nextCrew 27 = .ok (.aload_n 0, 1) := by decide +kernel
theorem dX6_nextCrew_28 : decode cX6_nextCrew 28 = .ok (.dup, 1) := by decide +kernel
theorem dX6_nextCrew_29 : decode cX6_nextCrew 29 = .ok (.getfield 94, 3) := by decide +kernel
theorem dX6_nextCrew_32 : decode cX6_nextCrew 32 = .ok (.iconst 1, 1) := by decide +kernel
theorem dX6_nextCrew_33 : decode cX6_nextCrew 33 = .ok (.iadd, 1) := by decide +kernel
theorem dX6_nextCrew_34 : decode cX6_nextCrew 34 = .ok (.putfield 94, 3) := by decide +kernel
theorem dX6_nextCrew_37 : decode cX6_nextCrew 37 = .ok (.aload_n 0, 1) := by decide +kernel
theorem dX6_nextCrew_38 : decode cX6_nextCrew 38 = .ok (.getfield 94, 3) := by decide +kernel
theorem dX6_nextCrew_41 : decode cX6_nextCrew 41 = .ok (.ireturn, 1) := by decide +kernel
theorem dX6_today_0 : decode cX6_today 0 = .ok (.aload_n 0, 1) := by decide +kernel
theorem dX6_today_1 : decode cX6_today 1 = .ok (.iconst 0, 1) := by decide +kernel
theorem dX6_today_2 : decode cX6_today 2 = .ok (.putfield 60, 3) := by decide +kernel
theorem dX6_today_5 : decode cX6_today 5 = .ok (.aload_n 0, 1) := by decide +kernel
theorem dX6_today_6 : decode cX6_today 6 = .ok (.getfield 70, 3) := by decide +kernel
theorem dX6_today_9 : decode cX6_today 9 = .ok (.ireturn, 1) := by decide +kernel
set_option maxRecDepth 20000 in
theorem ggX6_hunger_X6_in : GoodIn wsX6_hunger wsX6_in := goodIn_r _ [6] (by decide +kernel) (by decide +kernel)
set_option maxRecDepth 20000 in
theorem gX6_hunger_X6_in : GoodIn wsX6_hunger (va_wsS RX6 63 yX6_in wsX6_in) := goodIn_app (goodIn_of _ (by decide +kernel)) ggX6_hunger_X6_in
theorem dX6_hunger_0 : decode cX6_hunger 0 = .ok (.aload_n 0, 1) := by decide +kernel
theorem dX6_hunger_1 : decode cX6_hunger 1 = .ok (.iload_n 1, 1) := by decide +kernel
theorem dX6_hunger_2 : decode cX6_hunger 2 = .ok (.iconst 0, 1) := by decide +kernel
theorem dX6_hunger_3 : decode cX6_hunger 3 = .ok (.iconst 2, 1) := by decide +kernel
theorem dX6_hunger_4 : decode cX6_hunger 4 = .ok (.invokestatic 63, 3) := by decide +kernel
theorem dX6_hunger_7 : decode cX6_hunger 7 = .ok (.ifCond .eq 7, 3) := by decide +kernel
theorem dX6_hunger_10 : decode cX6_hunger 10 = .ok (.iconst 0, 1) := by decide +kernel
theorem dX6_hunger_11 : decode cX6_hunger 11 = .ok (.goto 4, 3) := by decide +kernel
theorem dX6_hunger_14 : decode cX6_hunger 14 = .ok (.iconst 1, 1) := by decide +kernel
theorem dX6_hunger_15 : decode cX6_hunger 15 = .ok (.putfield 60, 3) := by decide +kernel
theorem dX6_hunger_18 : decode cX6_hunger 18 = .ok (.aload_n 0, 1) := by decide +kernel
theorem dX6_hunger_19 : decode cX6_hunger 19 = .ok (.getfield 60, 3) := by decide +kernel
theorem dX6_hunger_22 : decode cX6_hunger 22 = .ok (.ifCond .le 7, 3) := by decide +kernel
theorem dX6_hunger_25 : decode cX6_hunger 25 = .ok (.iconst 0, 1) := by decide +kernel
theorem dX6_hunger_26 : decode cX6_hunger 26 = .ok (.goto 9, 3) := by decide +kernel
theorem dX6_hunger_29 : decode cX6_hunger 29 = .ok (.aload_n 0, 1) := by decide +kernel
theorem dX6_hunger_30 : decode cX6_hunger 30 = .ok (.getfield 39, 3) := by decide +kernel
theorem dX6_hunger_33 : decode cX6_hunger 33 = .ok (.iload_n 1, 1) := by decide +kernel
theorem dX6_hunger_34 : decode cX6_hunger 34 = .ok (.iaload, 1) := by decide +kernel
theorem dX6_hunger_35 : decode cX6_hunger 35 = .ok (.ireturn, 1) := by decide +kernel
theorem dX6_lots_0 : decode cX6_lots 0 = .ok (.aload_n 0, 1) := by decide +kernel
theorem dX6_lots_1 : decode cX6_lots 1 = .ok (.iconst 0, 1) := by decide +kernel
theorem dX6_lots_2 : decode cX6_lots 2 = .ok (.putfield 60, 3) := by decide +kernel
theorem dX6_lots_5 : decode cX6_lots 5 = .ok (.aload_n 0, 1) := by decide +kernel
theorem dX6_lots_6 : decode cX6_lots 6 = .ok (.getfield 67, 3) := by decide +kernel
theorem dX6_lots_9 : decode cX6_lots 9 = .ok (.ireturn, 1) := by decide +kernel
set_option maxRecDepth 20000 in
theorem ggX6_asks_X6_isLot : GoodIn wsX6_asks wsX6_isLot := goodIn_r _ [6, 7, 8, 9, 5, 10, 11, 12, 13, 14, 15, 16, 17, 18, 19, 20, 21, 22, 23, 24, 25, 26, 27, 28, 29, 30, 31, 32] (by decide +kernel) (by decide +kernel)
set_option maxRecDepth 20000 in
theorem gX6_asks_X6_isLot : GoodIn wsX6_asks (wsV RX6 108 RX6 yX6_isLot wsX6_isLot) := goodIn_app (goodIn_of _ (by decide +kernel)) ggX6_asks_X6_isLot
theorem dX6_asks_0 : decode cX6_asks 0 = .ok (.aload_n 0, 1) := by decide +kernel
theorem dX6_asks_1 : decode cX6_asks 1 = .ok (.aload_n 0, 1) := by decide +kernel
theorem dX6_asks_2 : decode cX6_asks 2 = .ok (.iload_n 1, 1) := by decide +kernel
theorem dX6_asks_3 : decode cX6_asks 3 = .ok (.invokevirtual 108, 3) := by decide +kernel
theorem dX6_asks_6 : decode cX6_asks 6 = .ok (.ifCond .eq 7, 3) := by decide +kernel
theorem dX6_asks_9 : decode cX6_asks 9 = .ok (.iconst 0, 1) := by decide +kernel
theorem dX6_asks_10 : decode cX6_asks 10 = .ok (.goto 4, 3) := by decide +kernel
theorem dX6_asks_13 : decode cX6_asks 13 = .ok (.iconst 1, 1) := by decide +kernel
theorem dX6_asks_14 : decode cX6_asks 14 = .ok (.putfield 60, 3) := by decide +kernel
theorem dX6_asks_17 : decode cX6_asks 17 = .ok (.aload_n 0, 1) := by decide +kernel
theorem dX6_asks_18 : decode cX6_asks 18 = .ok (.getfield 60, 3) := by decide +kernel
theorem dX6_asks_21 : decode cX6_asks 21 = .ok (.ifCond .ne 7, 3) := by decide +kernel
theorem dX6_asks_24 : decode cX6_asks 24 = .ok (.iconst 1, 1) := by decide +kernel
theorem dX6_asks_25 : decode cX6_asks 25 = .ok (.goto 4, 3) := by decide +kernel
theorem dX6_asks_28 : decode cX6_asks 28 = .ok (.iconst 0, 1) := by decide +kernel
theorem dX6_asks_29 : decode cX6_asks 29 = .ok (.ireturn, 1) := by decide +kernel
set_option maxRecDepth 20000 in
theorem ggX6_amount_X6_asks : GoodIn wsX6_amount wsX6_asks := goodIn_r _ [6, 7, 8, 9, 10, 5, 11, 12, 13, 14, 15, 16, 17, 18, 19, 20, 21, 22, 23, 24, 25, 26, 27, 28, 29, 30, 31, 32, 33, 34, 35, 36, 37] (by decide +kernel) (by decide +kernel)
set_option maxRecDepth 20000 in
theorem gX6_amount_X6_asks : GoodIn wsX6_amount (wsV RX6 134 RX6 yX6_asks wsX6_asks) := goodIn_app (goodIn_of _ (by decide +kernel)) ggX6_amount_X6_asks
theorem dX6_amount_0 : decode cX6_amount 0 = .ok (.aload_n 0, 1) := by decide +kernel
theorem dX6_amount_1 : decode cX6_amount 1 = .ok (.iload_n 1, 1) := by decide +kernel
theorem dX6_amount_2 : decode cX6_amount 2 = .ok (.invokevirtual 134, 3) := by decide +kernel
theorem dX6_amount_5 : decode cX6_amount 5 = .ok (.ifCond .eq 12, 3) := by decide +kernel
theorem dX6_amount_8 : decode cX6_amount 8 = .ok (.aload_n 0, 1) := by decide +kernel
theorem dX6_amount_9 : decode cX6_amount 9 = .ok (.getfield 30, 3) := by decide +kernel
theorem dX6_amount_12 : decode cX6_amount 12 = .ok (.iload_n 1, 1) := by decide +kernel
theorem dX6_amount_13 : decode cX6_amount 13 = .ok (.iaload, 1) := by decide +kernel
theorem dX6_amount_14 : decode cX6_amount 14 = .ok (.goto 4, 3) := by decide +kernel
theorem dX6_amount_17 : decode cX6_amount 17 = .ok (.iconst 0, 1) := by decide +kernel
theorem dX6_amount_18 : decode cX6_amount 18 = .ok (.ireturn, 1) := by decide +kernel
set_option maxRecDepth 20000 in
theorem ggX6_about_X6_asks : GoodIn wsX6_about wsX6_asks := goodIn_r _ [7, 8, 9, 10, 11, 6, 12, 13, 14, 15, 16, 17, 18, 19, 20, 21, 22, 23, 24, 25, 26, 27, 28, 29, 30, 31, 32, 33, 34, 35, 36, 37, 38] (by decide +kernel) (by decide +kernel)
set_option maxRecDepth 20000 in
theorem gX6_about_X6_asks : GoodIn wsX6_about (wsV RX6 134 RX6 yX6_asks wsX6_asks) := goodIn_app (goodIn_of _ (by decide +kernel)) ggX6_about_X6_asks
theorem dX6_about_0 : decode cX6_about 0 = .ok (.aload_n 0, 1) := by decide +kernel
theorem dX6_about_1 : decode cX6_about 1 = .ok (.iload_n 1, 1) := by decide +kernel
theorem dX6_about_2 : decode cX6_about 2 = .ok (.invokevirtual 134, 3) := by decide +kernel
theorem dX6_about_5 : decode cX6_about 5 = .ok (.ifCond .eq 22, 3) := by decide +kernel
theorem dX6_about_8 : decode cX6_about 8 = .ok (.bipush 10, 2) := by decide +kernel
theorem dX6_about_10 : decode cX6_about 10 = .ok (.aload_n 0, 1) := by decide +kernel
theorem dX6_about_11 : decode cX6_about 11 = .ok (.getfield 24, 3) := by decide +kernel
theorem dX6_about_14 : decode cX6_about 14 = .ok (.iload_n 1, 1) := by decide +kernel
theorem dX6_about_15 : decode cX6_about 15 = .ok (.iaload, 1) := by decide +kernel
theorem dX6_about_16 : decode cX6_about 16 = .ok (.imul, 1) := by decide +kernel
theorem dX6_about_17 : decode cX6_about 17 = .ok (.aload_n 0, 1) := by decide +kernel
theorem dX6_about_18 : decode cX6_about 18 = .ok (.getfield 27, 3) := by decide +kernel
theorem dX6_about_21 : decode cX6_about 21 = .ok (.iload_n 1, 1) := by decide +kernel
theorem dX6_about_22 : decode cX6_about 22 = .ok (.iaload, 1) := by decide +kernel
theorem dX6_about_23 : decode cX6_about 23 = .ok (.iadd, 1) := by decide +kernel
theorem dX6_about_24 : decode cX6_about 24 = .ok (.goto 4, 3) := by decide +kernel
theorem dX6_about_27 : decode cX6_about 27 = .ok (.iconst 0, 1) := by decide +kernel
theorem dX6_about_28 : decode cX6_about 28 = .ok (.ireturn, 1) := by decide +kernel
set_option maxRecDepth 20000 in
theorem ggX6_stock_X6_isDepot : GoodIn wsX6_stock wsX6_isDepot := goodIn_r _ [9, 10, 11, 8, 12] (by decide +kernel) (by decide +kernel)
set_option maxRecDepth 20000 in
theorem gX6_stock_X6_isDepot : GoodIn wsX6_stock (va_wsS RX6 73 yX6_isDepot wsX6_isDepot) := goodIn_app (goodIn_of _ (by decide +kernel)) ggX6_stock_X6_isDepot
set_option maxRecDepth 20000 in
theorem ggX6_stock_X6_isGood : GoodIn wsX6_stock wsX6_isGood := goodIn_r _ [15, 10, 11, 8, 12] (by decide +kernel) (by decide +kernel)
set_option maxRecDepth 20000 in
theorem gX6_stock_X6_isGood : GoodIn wsX6_stock (va_wsS RX6 97 yX6_isGood wsX6_isGood) := goodIn_app (goodIn_of _ (by decide +kernel)) ggX6_stock_X6_isGood
theorem dX6_stock_0 : decode cX6_stock 0 = .ok (.aload_n 0, 1) := by decide +kernel
theorem dX6_stock_1 : decode cX6_stock 1 = .ok (.iload_n 1, 1) := by decide +kernel
theorem dX6_stock_2 : decode cX6_stock 2 = .ok (.invokestatic 73, 3) := by decide +kernel
theorem dX6_stock_5 : decode cX6_stock 5 = .ok (.ifCond .eq 14, 3) := by decide +kernel
theorem dX6_stock_8 : decode cX6_stock 8 = .ok (.iload_n 2, 1) := by decide +kernel
theorem dX6_stock_9 : decode cX6_stock 9 = .ok (.invokestatic 97, 3) := by decide +kernel
theorem dX6_stock_12 : decode cX6_stock 12 = .ok (.ifCond .eq 7, 3) := by decide +kernel
theorem dX6_stock_15 : decode cX6_stock 15 = .ok (.iconst 0, 1) := by decide +kernel
theorem dX6_stock_16 : decode cX6_stock 16 = .ok (.goto 4, 3) := by decide +kernel
theorem dX6_stock_19 : decode cX6_stock 19 = .ok (.iconst 1, 1) := by decide +kernel
theorem dX6_stock_20 : decode cX6_stock 20 = .ok (.putfield 60, 3) := by decide +kernel
theorem dX6_stock_23 : decode cX6_stock 23 = .ok (.iconst 0, 1) := by decide +kernel
theorem dX6_stock_24 : decode cX6_stock 24 = .ok (.istore_n 3, 1) := by decide +kernel
theorem dX6_stock_25 : decode cX6_stock 25 = .ok (.iconst 0, 1) := by decide +kernel
theorem dX6_stock_26 : decode cX6_stock 26 = .ok (.istore 4, 2) := by decide +kernel
theorem dX6_stock_28 : decode cX6_stock 28 = .ok (.iload 4, 2) := by decide +kernel
theorem dX6_stock_30 : decode cX6_stock 30 = .ok (.aload_n 0, 1) := by decide +kernel
theorem dX6_stock_31 : decode cX6_stock 31 = .ok (.getfield 67, 3) := by decide +kernel
theorem dX6_stock_34 : decode cX6_stock 34 = .ok (.if_icmp .ge 52, 3) := by decide +kernel
theorem dX6_stock_37 : decode cX6_stock 37 = .ok (.aload_n 0, 1) := by decide +kernel
theorem dX6_stock_38 : decode cX6_stock 38 = .ok (.getfield 60, 3) := by decide +kernel
theorem dX6_stock_41 : decode cX6_stock 41 = .ok (.ifCond .ne 45, 3) := by decide +kernel
theorem dX6_stock_44 : decode cX6_stock 44 = .ok (.iload_n 3, 1) := by decide +kernel
theorem dX6_stock_45 : decode cX6_stock 45 = .ok (.aload_n 0, 1) := by decide +kernel
theorem dX6_stock_46 : decode cX6_stock 46 = .ok (.getfield 24, 3) := by decide +kernel
theorem dX6_stock_49 : decode cX6_stock 49 = .ok (.iload 4, 2) := by decide +kernel
theorem dX6_stock_51 : decode cX6_stock 51 = .ok (.iaload, 1) := by decide +kernel
theorem dX6_stock_52 : decode cX6_stock 52 = .ok (.iload_n 1, 1) := by decide +kernel
theorem dX6_stock_53 : decode cX6_stock 53 = .ok (.if_icmp .ne 24, 3) := by decide +kernel
theorem dX6_stock_56 : decode cX6_stock 56 = .ok (.aload_n 0, 1) := by decide +kernel
theorem dX6_stock_57 : decode cX6_stock 57 = .ok (.getfield 27, 3) := by decide +kernel
theorem dX6_stock_60 : decode cX6_stock 60 = .ok (.iload 4, 2) := by decide +kernel
theorem dX6_stock_62 : decode cX6_stock 62 = .ok (.iaload, 1) := by decide +kernel
theorem dX6_stock_63 : decode cX6_stock 63 = .ok (.iload_n 2, 1) := by decide +kernel
theorem dX6_stock_64 : decode cX6_stock 64 = .ok (.if_icmp .ne 13, 3) := by decide +kernel
theorem dX6_stock_67 : decode cX6_stock 67 = .ok (.aload_n 0, 1) := by decide +kernel
theorem dX6_stock_68 : decode cX6_stock 68 = .ok (.getfield 30, 3) := by decide +kernel
theorem dX6_stock_71 : decode cX6_stock 71 = .ok (.iload 4, 2) := by decide +kernel
theorem dX6_stock_73 : decode cX6_stock 73 = .ok (.iaload, 1) := by decide +kernel
theorem dX6_stock_74 : decode cX6_stock 74 = .ok (.goto 4, 3) := by decide +kernel
theorem dX6_stock_77 : decode cX6_stock 77 = .ok (.iconst 0, 1) := by decide +kernel
theorem dX6_stock_78 : decode cX6_stock 78 = .ok (.iadd, 1) := by decide +kernel
theorem dX6_stock_79 : decode cX6_stock 79 = .ok (.istore_n 3, 1) := by decide +kernel
theorem dX6_stock_80 : decode cX6_stock 80 = .ok (.iinc 4 1, 3) := by decide +kernel
theorem dX6_stock_83 : decode cX6_stock 83 = .ok (.goto (-55), 3) := by decide +kernel
theorem dX6_stock_86 : decode cX6_stock 86 = .ok (.iload_n 3, 1) := by decide +kernel
theorem dX6_stock_87 : decode cX6_stock 87 = .ok (.ireturn, 1) := by decide +kernel
set_option maxRecDepth 20000 in
theorem ggX6_stockByJournal_X6_isDepot : GoodIn wsX6_stockByJournal wsX6_isDepot := goodIn_r _ [10, 11, 12, 9, 13] (by decide +kernel) (by decide +kernel)
set_option maxRecDepth 20000 in
theorem gX6_stockByJournal_X6_isDepot : GoodIn wsX6_stockByJournal (va_wsS RX6 73 yX6_isDepot wsX6_isDepot) := goodIn_app (goodIn_of _ (by decide +kernel)) ggX6_stockByJournal_X6_isDepot
set_option maxRecDepth 20000 in
theorem ggX6_stockByJournal_X6_isGood : GoodIn wsX6_stockByJournal wsX6_isGood := goodIn_r _ [16, 11, 12, 9, 13] (by decide +kernel) (by decide +kernel)
set_option maxRecDepth 20000 in
theorem gX6_stockByJournal_X6_isGood : GoodIn wsX6_stockByJournal (va_wsS RX6 97 yX6_isGood wsX6_isGood) := goodIn_app (goodIn_of _ (by decide +kernel)) ggX6_stockByJournal_X6_isGood
theorem dX6_stockByJournal_0 : decode cX6_stockByJournal 0 = .ok (.aload_n 0, 1) := by decide +kernel
theorem dX6_stockByJournal_1 : decode cX6_stockByJournal 1 = .ok (.iload_n 1, 1) := by decide +kernel
theorem dX6_stockByJournal_2 : decode cX6_stockByJournal 2 = .ok (.invokestatic 73, 3) := by decide +kernel
theorem dX6_stockByJournal_5 : decode cX6_stockByJournal 5 = .ok (.ifCond .eq 14, 3) := by decide +kernel
theorem dX6_stockByJournal_8 : decode cX6_stockByJournal 8 = .ok (.iload_n 2, 1) := by decide +kernel
theorem dX6_stockByJournal_9 : decode cX6_stockByJournal 9 = .ok (.invokestatic 97, 3) := by decide +kernel
theorem dX6_stockByJournal_12 : decode cX6_stockByJournal 12 = .ok (.ifCond .eq 7, 3) := by decide +kernel
theorem dX6_stockByJournal_15 : decode cX6_stockByJournal 15 = .ok (.iconst 0, 1) := by decide +kernel
theorem dX6_stockByJournal_16 : decode cX6_stockByJournal 16 = .ok (.goto 4, 3) := by decide +kernel
theorem dX6_stockByJournal_19 : decode cX6_stockByJournal 19 = .ok (.iconst 1, 1) := by decide +kernel
theorem dX6_stockByJournal_20 : decode cX6_stockByJournal 20 = .ok (.putfield 60, 3) := by decide +kernel
theorem dX6_stockByJournal_23 : decode cX6_stockByJournal 23 = .ok (.iconst 0, 1) := by decide +kernel
theorem dX6_stockByJournal_24 : decode cX6_stockByJournal 24 = .ok (.istore_n 3, 1) := by decide +kernel
theorem dX6_stockByJournal_25 : decode cX6_stockByJournal 25 = .ok (.iconst 0, 1) := by decide +kernel
theorem dX6_stockByJournal_26 : decode cX6_stockByJournal 26 = .ok (.istore 4, 2) := by decide +kernel
theorem dX6_stockByJournal_28 : decode cX6_stockByJournal 28 = .ok (.iload 4, 2) := by decide +kernel
theorem dX6_stockByJournal_30 : decode cX6_stockByJournal 30 = .ok (.aload_n 0, 1) := by decide +kernel
theorem dX6_stockByJournal_31 : decode cX6_stockByJournal 31 = .ok (.getfield 91, 3) := by decide +kernel
theorem dX6_stockByJournal_34 : decode cX6_stockByJournal 34 = .ok (.if_icmp .ge 61, 3) := by decide +kernel
theorem dX6_stockByJournal_37 : decode cX6_stockByJournal 37 = .ok (.aload_n 0, 1) := by decide +kernel
theorem dX6_stockByJournal_38 : decode cX6_stockByJournal 38 = .ok (.getfield 60, 3) := by decide +kernel
theorem dX6_stockByJournal_41 : decode cX6_stockByJournal 41 = .ok (.ifCond .ne 54, 3) := by decide +kernel
theorem dX6_stockByJournal_44 : decode cX6_stockByJournal 44 = .ok (.aload_n 0, 1) := by decide +kernel
theorem dX6_stockByJournal_45 : decode cX6_stockByJournal 45 = .ok (.getfield 45, 3) := by decide +kernel
theorem dX6_stockByJournal_48 : decode cX6_stockByJournal 48 = .ok (.iload 4, 2) := by decide +kernel
theorem dX6_stockByJournal_50 : decode cX6_stockByJournal 50 = .ok (.iaload, 1) := by decide +kernel
theorem dX6_stockByJournal_51 : decode cX6_stockByJournal 51 = .ok (.istore 5, 2) := by decide +kernel
theorem dX6_stockByJournal_53 : decode cX6_stockByJournal 53 = .ok (.iload_n 3, 1) := by decide +kernel
theorem dX6_stockByJournal_54 : decode cX6_stockByJournal 54 = .ok (.aload_n 0, 1) := by decide +kernel
theorem dX6_stockByJournal_55 : decode cX6_stockByJournal 55 = .ok (.getfield 24, 3) := by decide +kernel
theorem dX6_stockByJournal_58 : decode cX6_stockByJournal 58 = .ok (.iload 5, 2) := by decide +kernel
theorem dX6_stockByJournal_60 : decode cX6_stockByJournal 60 = .ok (.iaload, 1) := by decide +kernel
theorem dX6_stockByJournal_61 : decode cX6_stockByJournal 61 = .ok (.iload_n 1, 1) := by decide +kernel
theorem dX6_stockByJournal_62 : decode cX6_stockByJournal 62 = .ok (.if_icmp .ne 24, 3) := by decide +kernel
theorem dX6_stockByJournal_65 : decode cX6_stockByJournal 65 = .ok (.aload_n 0, 1) := by decide +kernel
theorem dX6_stockByJournal_66 : decode cX6_stockByJournal 66 = .ok (.getfield 27, 3) := by decide +kernel
theorem dX6_stockByJournal_69 : decode cX6_stockByJournal 69 = .ok (.iload 5, 2) := by decide +kernel
theorem dX6_stockByJournal_71 : decode cX6_stockByJournal 71 = .ok (.iaload, 1) := by decide +kernel
theorem dX6_stockByJournal_72 : decode cX6_stockByJournal 72 = .ok (.iload_n 2, 1) := by decide +kernel
theorem dX6_stockByJournal_73 : decode cX6_stockByJournal 73 = .ok (.if_icmp .ne 13, 3) := by decide +kernel
theorem dX6_stockByJournal_76 : decode cX6_stockByJournal 76 = .ok (.aload_n 0, 1) := by decide +kernel
theorem dX6_stockByJournal_77 : decode cX6_stockByJournal 77 = .ok (.getfield 48, 3) := by decide +kernel
theorem dX6_stockByJournal_80 : decode cX6_stockByJournal 80 = .ok (.iload 4, 2) := by decide +kernel
theorem dX6_stockByJournal_82 : decode cX6_stockByJournal 82 = .ok (.iaload, 1) := by decide +kernel
theorem dX6_stockByJournal_83 : decode cX6_stockByJournal 83 = .ok (.goto 4, 3) := by decide +kernel
theorem dX6_stockByJournal_86 : decode cX6_stockByJournal 86 = .ok (.iconst 0, 1) := by decide +kernel
theorem dX6_stockByJournal_87 : decode cX6_stockByJournal 87 = .ok (.iadd, 1) := by decide +kernel
theorem dX6_stockByJournal_88 : decode cX6_stockByJournal 88 = .ok (.istore_n 3, 1) := by decide +kernel
theorem dX6_stockByJournal_89 : decode cX6_stockByJournal 89 = .ok (.iinc 4 1, 3) := by decide +kernel
theorem dX6_stockByJournal_92 : decode cX6_stockByJournal 92 = .ok (.goto (-64), 3) := by decide +kernel
theorem dX6_stockByJournal_95 : decode cX6_stockByJournal 95 = .ok (.iload_n 3, 1) := by decide +kernel
theorem dX6_stockByJournal_96 : decode cX6_stockByJournal 96 = .ok (.ireturn, 1) := by decide +kernel
set_option maxRecDepth 20000 in
theorem ggX6_enoughFor_X6_allNeed : GoodIn wsX6_enoughFor wsX6_allNeed := goodIn_r _ [6, 7, 20, 21, 22, 23, 24, 25, 26, 27, 28, 29, 30, 31, 32, 33, 34, 35, 36, 37, 38, 39, 40, 41] (by decide +kernel) (by decide +kernel)
set_option maxRecDepth 20000 in
theorem gX6_enoughFor_X6_allNeed : GoodIn wsX6_enoughFor (wsV RX6 114 RX6 yX6_allNeed wsX6_allNeed) := goodIn_app (goodIn_of _ (by decide +kernel)) ggX6_enoughFor_X6_allNeed
set_option maxRecDepth 20000 in
theorem ggX6_enoughFor_X6_allFood : GoodIn wsX6_enoughFor wsX6_allFood := goodIn_r _ [11, 12, 13, 14, 15, 16, 5, 17, 18, 19, 20, 21, 22, 23, 24, 25, 26, 27, 28, 29, 30, 31, 32, 33, 34, 35, 36, 37, 38, 39, 40, 41] (by decide +kernel) (by decide +kernel)
set_option maxRecDepth 20000 in
theorem gX6_enoughFor_X6_allFood : GoodIn wsX6_enoughFor (wsV RX6 118 RX6 yX6_allFood wsX6_allFood) := goodIn_app (goodIn_of _ (by decide +kernel)) ggX6_enoughFor_X6_allFood
theorem dX6_enoughFor_0 : decode cX6_enoughFor 0 = .ok (.aload_n 0, 1) := by decide +kernel
theorem dX6_enoughFor_1 : decode cX6_enoughFor 1 = .ok (.iconst 0, 1) := by decide +kernel
theorem dX6_enoughFor_2 : decode cX6_enoughFor 2 = .ok (.putfield 60, 3) := by decide +kernel
theorem dX6_enoughFor_5 : decode cX6_enoughFor 5 = .ok (.aload_n 0, 1) := by decide +kernel
theorem dX6_enoughFor_6 : decode cX6_enoughFor 6 = .ok (.invokevirtual 114, 3) := by decide +kernel
theorem dX6_enoughFor_9 : decode cX6_enoughFor 9 = .ok (.istore_n 1, 1) := by decide +kernel
theorem dX6_enoughFor_10 : decode cX6_enoughFor 10 = .ok (.iload_n 1, 1) := by decide +kernel
theorem dX6_enoughFor_11 : decode cX6_enoughFor 11 = .ok (.ifCond .ne 7, 3) := by decide +kernel
theorem dX6_enoughFor_14 : decode cX6_enoughFor 14 = .ok (.iconst (-1), 1) := by decide +kernel
theorem dX6_enoughFor_15 : decode cX6_enoughFor 15 = .ok (.goto 9, 3) := by decide +kernel
theorem dX6_enoughFor_18 : decode cX6_enoughFor 18 = .ok (.aload_n 0, 1) := by decide +kernel
theorem dX6_enoughFor_19 : decode cX6_enoughFor 19 = .ok (.invokevirtual 118, 3) := by decide +kernel
theorem dX6_enoughFor_22 : decode cX6_enoughFor 22 = .ok (.iload_n 1, 1) := by decide +kernel
theorem dX6_enoughFor_23 : decode cX6_enoughFor 23 = .ok (.idiv, 1) := by decide +kernel
theorem dX6_enoughFor_24 : decode cX6_enoughFor 24 = .ok (.ireturn, 1) := by decide +kernel
theorem dX6_entries_0 : decode cX6_entries 0 = .ok (.aload_n 0, 1) := by decide +kernel
theorem dX6_entries_1 : decode cX6_entries 1 = .ok (.iconst 0, 1) := by decide +kernel
theorem dX6_entries_2 : decode cX6_entries 2 = .ok (.putfield 60, 3) := by decide +kernel
theorem dX6_entries_5 : decode cX6_entries 5 = .ok (.aload_n 0, 1) := by decide +kernel
theorem dX6_entries_6 : decode cX6_entries 6 = .ok (.getfield 91, 3) := by decide +kernel
theorem dX6_entries_9 : decode cX6_entries 9 = .ok (.ireturn, 1) := by decide +kernel
set_option maxRecDepth 20000 in
theorem ggX6_isEntry_X6_in : GoodIn wsX6_isEntry wsX6_in := goodIn_r _ [5] (by decide +kernel) (by decide +kernel)
set_option maxRecDepth 20000 in
theorem gX6_isEntry_X6_in : GoodIn wsX6_isEntry (va_wsS RX6 63 yX6_in wsX6_in) := goodIn_app (goodIn_of _ (by decide +kernel)) ggX6_isEntry_X6_in
theorem dX6_isEntry_0 : decode cX6_isEntry 0 = .ok (.iload_n 1, 1) := by decide +kernel
theorem dX6_isEntry_1 : decode cX6_isEntry 1 = .ok (.iconst 0, 1) := by decide +kernel
theorem dX6_isEntry_2 : decode cX6_isEntry 2 = .ok (.aload_n 0, 1) := by decide +kernel
theorem dX6_isEntry_3 : decode cX6_isEntry 3 = .ok (.getfield 91, 3) := by decide +kernel
theorem dX6_isEntry_6 : decode cX6_isEntry 6 = .ok (.iconst 1, 1) := by decide +kernel
theorem dX6_isEntry_7 : decode cX6_isEntry 7 = .ok (.isub, 1) := by decide +kernel
theorem dX6_isEntry_8 : decode cX6_isEntry 8 = .ok (.invokestatic 63, 3) := by decide +kernel
theorem dX6_isEntry_11 : decode cX6_isEntry 11 = .ok (.ireturn, 1) := by decide +kernel
set_option maxRecDepth 20000 in
theorem ggX6_changeOf_X6_isEntry : GoodIn wsX6_changeOf wsX6_isEntry := goodIn_r _ [7, 8, 9, 10, 6, 11, 12, 13, 14, 15, 16, 17, 18, 19, 20, 21, 22, 23, 24, 25, 26, 27, 28, 29, 30, 31, 32, 33] (by decide +kernel) (by decide +kernel)
set_option maxRecDepth 20000 in
theorem gX6_changeOf_X6_isEntry : GoodIn wsX6_changeOf (wsV RX6 137 RX6 yX6_isEntry wsX6_isEntry) := goodIn_app (goodIn_of _ (by decide +kernel)) ggX6_changeOf_X6_isEntry
theorem dX6_changeOf_0 : decode cX6_changeOf 0 = .ok (.aload_n 0, 1) := by decide +kernel
theorem dX6_changeOf_1 : decode cX6_changeOf 1 = .ok (.aload_n 0, 1) := by decide +kernel
theorem dX6_changeOf_2 : decode cX6_changeOf 2 = .ok (.iload_n 1, 1) := by decide +kernel
theorem dX6_changeOf_3 : decode cX6_changeOf 3 = .ok (.invokevirtual 137, 3) := by decide +kernel
theorem dX6_changeOf_6 : decode cX6_changeOf 6 = .ok (.ifCond .eq 7, 3) := by decide +kernel
theorem dX6_changeOf_9 : decode cX6_changeOf 9 = .ok (.iconst 0, 1) := by decide +kernel
theorem dX6_changeOf_10 : decode cX6_changeOf 10 = .ok (.goto 4, 3) := by decide +kernel
theorem dX6_changeOf_13 : decode cX6_changeOf 13 = .ok (.iconst 1, 1) := by decide +kernel
theorem dX6_changeOf_14 : decode cX6_changeOf 14 = .ok (.putfield 60, 3) := by decide +kernel
theorem dX6_changeOf_17 : decode cX6_changeOf 17 = .ok (.aload_n 0, 1) := by decide +kernel
theorem dX6_changeOf_18 : decode cX6_changeOf 18 = .ok (.getfield 60, 3) := by decide +kernel
theorem dX6_changeOf_21 : decode cX6_changeOf 21 = .ok (.ifCond .le 7, 3) := by decide +kernel
theorem dX6_changeOf_24 : decode cX6_changeOf 24 = .ok (.iconst 0, 1) := by decide +kernel
theorem dX6_changeOf_25 : decode cX6_changeOf 25 = .ok (.goto 9, 3) := by decide +kernel
theorem dX6_changeOf_28 : decode cX6_changeOf 28 = .ok (.aload_n 0, 1) := by decide +kernel
theorem dX6_changeOf_29 : decode cX6_changeOf 29 = .ok (.getfield 48, 3) := by decide +kernel
theorem dX6_changeOf_32 : decode cX6_changeOf 32 = .ok (.iload_n 1, 1) := by decide +kernel
theorem dX6_changeOf_33 : decode cX6_changeOf 33 = .ok (.iaload, 1) := by decide +kernel
theorem dX6_changeOf_34 : decode cX6_changeOf 34 = .ok (.ireturn, 1) := by decide +kernel
set_option maxRecDepth 20000 in
theorem ggX6_lotOf_X6_isEntry : GoodIn wsX6_lotOf wsX6_isEntry := goodIn_r _ [8, 9, 10, 11, 7, 12, 13, 14, 15, 16, 17, 18, 19, 20, 21, 22, 23, 24, 25, 26, 27, 28, 29, 30, 31, 32, 33, 34] (by decide +kernel) (by decide +kernel)
set_option maxRecDepth 20000 in
theorem gX6_lotOf_X6_isEntry : GoodIn wsX6_lotOf (wsV RX6 137 RX6 yX6_isEntry wsX6_isEntry) := goodIn_app (goodIn_of _ (by decide +kernel)) ggX6_lotOf_X6_isEntry
theorem dX6_lotOf_0 : decode cX6_lotOf 0 = .ok (.aload_n 0, 1) := by decide +kernel
theorem dX6_lotOf_1 : decode cX6_lotOf 1 = .ok (.aload_n 0, 1) := by decide +kernel
theorem dX6_lotOf_2 : decode cX6_lotOf 2 = .ok (.iload_n 1, 1) := by decide +kernel
theorem dX6_lotOf_3 : decode cX6_lotOf 3 = .ok (.invokevirtual 137, 3) := by decide +kernel
theorem dX6_lotOf_6 : decode cX6_lotOf 6 = .ok (.ifCond .eq 7, 3) := by decide +kernel
theorem dX6_lotOf_9 : decode cX6_lotOf 9 = .ok (.iconst 0, 1) := by decide +kernel
theorem dX6_lotOf_10 : decode cX6_lotOf 10 = .ok (.goto 4, 3) := by decide +kernel
theorem dX6_lotOf_13 : decode cX6_lotOf 13 = .ok (.iconst 1, 1) := by decide +kernel
theorem dX6_lotOf_14 : decode cX6_lotOf 14 = .ok (.putfield 60, 3) := by decide +kernel
theorem dX6_lotOf_17 : decode cX6_lotOf 17 = .ok (.aload_n 0, 1) := by decide +kernel
theorem dX6_lotOf_18 : decode cX6_lotOf 18 = .ok (.getfield 60, 3) := by decide +kernel
theorem dX6_lotOf_21 : decode cX6_lotOf 21 = .ok (.ifCond .le 7, 3) := by decide +kernel
theorem dX6_lotOf_24 : decode cX6_lotOf 24 = .ok (.iconst 0, 1) := by decide +kernel
theorem dX6_lotOf_25 : decode cX6_lotOf 25 = .ok (.goto 19, 3) := by decide +kernel
theorem dX6_lotOf_28 : decode cX6_lotOf 28 = .ok (.bipush 10, 2) := by decide +kernel
theorem dX6_lotOf_30 : decode cX6_lotOf 30 = .ok (.aload_n 0, 1) := by decide +kernel
theorem dX6_lotOf_31 : decode cX6_lotOf 31 = .ok (.getfield 45, 3) := by decide +kernel
theorem dX6_lotOf_34 : decode cX6_lotOf 34 = .ok (.iload_n 1, 1) := by decide +kernel
theorem dX6_lotOf_35 : decode cX6_lotOf 35 = .ok (.iaload, 1) := by decide +kernel
theorem dX6_lotOf_36 : decode cX6_lotOf 36 = .ok (.imul, 1) := by decide +kernel
theorem dX6_lotOf_37 : decode cX6_lotOf 37 = .ok (.aload_n 0, 1) := by decide +kernel
theorem dX6_lotOf_38 : decode cX6_lotOf 38 = .ok (.getfield 51, 3) := by decide +kernel
theorem dX6_lotOf_41 : decode cX6_lotOf 41 = .ok (.iload_n 1, 1) := by decide +kernel
theorem dX6_lotOf_42 : decode cX6_lotOf 42 = .ok (.iaload, 1) := by decide +kernel
theorem dX6_lotOf_43 : decode cX6_lotOf 43 = .ok (.iadd, 1) := by decide +kernel
theorem dX6_lotOf_44 : decode cX6_lotOf 44 = .ok (.ireturn, 1) := by decide +kernel
set_option maxRecDepth 20000 in
theorem ggX6_changed_X6_in : GoodIn wsX6_changed wsX6_in := goodIn_r _ [9] (by decide +kernel) (by decide +kernel)
set_option maxRecDepth 20000 in
theorem gX6_changed_X6_in : GoodIn wsX6_changed (va_wsS RX6 63 yX6_in wsX6_in) := goodIn_app (goodIn_of _ (by decide +kernel)) ggX6_changed_X6_in
theorem dX6_changed_0 : decode cX6_changed 0 = .ok (.aload_n 0, 1) := by decide +kernel
theorem dX6_changed_1 : decode cX6_changed 1 = .ok (.iload_n 1, 1) := by decide +kernel
theorem dX6_changed_2 : decode cX6_changed 2 = .ok (.ifCond .lt 16, 3) := by decide +kernel
theorem dX6_changed_5 : decode cX6_changed 5 = .ok (.iload_n 2, 1) := by decide +kernel
theorem dX6_changed_6 : decode cX6_changed 6 = .ok (.iconst 0, 1) := by decide +kernel
theorem dX6_changed_7 : decode cX6_changed 7 = .ok (.iconst 5, 1) := by decide +kernel
theorem dX6_changed_8 : decode cX6_changed 8 = .ok (.invokestatic 63, 3) := by decide +kernel
theorem dX6_changed_11 : decode cX6_changed 11 = .ok (.ifCond .eq 7, 3) := by decide +kernel
theorem dX6_changed_14 : decode cX6_changed 14 = .ok (.iconst 0, 1) := by decide +kernel
theorem dX6_changed_15 : decode cX6_changed 15 = .ok (.goto 4, 3) := by decide +kernel
theorem dX6_changed_18 : decode cX6_changed 18 = .ok (.iconst 1, 1) := by decide +kernel
theorem dX6_changed_19 : decode cX6_changed 19 = .ok (.putfield 60, 3) := by decide +kernel
theorem dX6_changed_22 : decode cX6_changed 22 = .ok (.iconst 0, 1) := by decide +kernel
theorem dX6_changed_23 : decode cX6_changed 23 = .ok (.istore_n 3, 1) := by decide +kernel
theorem dX6_changed_24 : decode cX6_changed 24 = .ok (.iconst 0, 1) := by decide +kernel
theorem dX6_changed_25 : decode cX6_changed 25 = .ok (.istore 4, 2) := by decide +kernel
theorem dX6_changed_27 : decode cX6_changed 27 = .ok (.iload 4, 2) := by decide +kernel
theorem dX6_changed_29 : decode cX6_changed 29 = .ok (.aload_n 0, 1) := by decide +kernel
theorem dX6_changed_30 : decode cX6_changed 30 = .ok (.getfield 91, 3) := by decide +kernel
theorem dX6_changed_33 : decode cX6_changed 33 = .ok (.if_icmp .ge 52, 3) := by decide +kernel
theorem dX6_changed_36 : decode cX6_changed 36 = .ok (.aload_n 0, 1) := by decide +kernel
theorem dX6_changed_37 : decode cX6_changed 37 = .ok (.getfield 60, 3) := by decide +kernel
theorem dX6_changed_40 : decode cX6_changed 40 = .ok (.ifCond .ne 45, 3) := by decide +kernel
theorem dX6_changed_43 : decode cX6_changed 43 = .ok (.iload_n 3, 1) := by decide +kernel
theorem dX6_changed_44 : decode cX6_changed 44 = .ok (.aload_n 0, 1) := by decide +kernel
theorem dX6_changed_45 : decode cX6_changed 45 = .ok (.getfield 42, 3) := by decide +kernel
theorem dX6_changed_48 : decode cX6_changed 48 = .ok (.iload 4, 2) := by decide +kernel
theorem dX6_changed_50 : decode cX6_changed 50 = .ok (.iaload, 1) := by decide +kernel
theorem dX6_changed_51 : decode cX6_changed 51 = .ok (.iload_n 1, 1) := by decide +kernel
theorem dX6_changed_52 : decode cX6_changed 52 = .ok (.if_icmp .ne 24, 3) := by decide +kernel
theorem dX6_changed_55 : decode cX6_changed 55 = .ok (.aload_n 0, 1) := by decide +kernel
theorem dX6_changed_56 : decode cX6_changed 56 = .ok (.getfield 51, 3) := by decide +kernel
theorem dX6_changed_59 : decode cX6_changed 59 = .ok (.iload 4, 2) := by decide +kernel
theorem dX6_changed_61 : decode cX6_changed 61 = .ok (.iaload, 1) := by decide +kernel
theorem dX6_changed_62 : decode cX6_changed 62 = .ok (.iload_n 2, 1) := by decide +kernel
theorem dX6_changed_63 : decode cX6_changed 63 = .ok (.if_icmp .ne 13, 3) := by decide +kernel
theorem dX6_changed_66 : decode cX6_changed 66 = .ok (.aload_n 0, 1) := by decide +kernel
theorem dX6_changed_67 : decode cX6_changed 67 = .ok (.getfield 48, 3) := by decide +kernel
theorem dX6_changed_70 : decode cX6_changed 70 = .ok (.iload 4, 2) := by decide +kernel
theorem dX6_changed_72 : decode cX6_changed 72 = .ok (.iaload, 1) := by decide +kernel
theorem dX6_changed_73 : decode cX6_changed 73 = .ok (.goto 4, 3) := by decide +kernel
theorem dX6_changed_76 : decode cX6_changed 76 = .ok (.iconst 0, 1) := by decide +kernel
theorem dX6_changed_77 : decode cX6_changed 77 = .ok (.iadd, 1) := by decide +kernel
theorem dX6_changed_78 : decode cX6_changed 78 = .ok (.istore_n 3, 1) := by decide +kernel
theorem dX6_changed_79 : decode cX6_changed 79 = .ok (.iinc 4 1, 3) := by decide +kernel
theorem dX6_changed_82 : decode cX6_changed 82 = .ok (.goto (-55), 3) := by decide +kernel
theorem dX6_changed_85 : decode cX6_changed 85 = .ok (.iload_n 3, 1) := by decide +kernel
theorem dX6_changed_86 : decode cX6_changed 86 = .ok (.ireturn, 1) := by decide +kernel
end
section
theorem dJ9_max_7cf53_0 : decode cJ9_max_7cf53 0 = .ok (.iload_n 0, 1) := by decide +kernel
theorem dJ9_max_7cf53_1 : decode cJ9_max_7cf53 1 = .ok (.iload_n 1, 1) := by decide +kernel
theorem dJ9_max_7cf53_2 : decode cJ9_max_7cf53 2 = .ok (.if_icmp .lt 7, 3) := by decide +kernel
theorem dJ9_max_7cf53_5 : decode cJ9_max_7cf53 5 = .ok (.iload_n 0, 1) := by decide +kernel
theorem dJ9_max_7cf53_6 : decode cJ9_max_7cf53 6 = .ok (.goto 4, 3) := by decide +kernel
theorem dJ9_max_7cf53_9 : decode cJ9_max_7cf53 9 = .ok (.iload_n 1, 1) := by decide +kernel
theorem dJ9_max_7cf53_10 : decode cJ9_max_7cf53 10 = .ok (.ireturn, 1) := by decide +kernel
theorem dJ9_min_7cf53_0 : decode cJ9_min_7cf53 0 = .ok (.iload_n 0, 1) := by decide +kernel
theorem dJ9_min_7cf53_1 : decode cJ9_min_7cf53 1 = .ok (.iload_n 1, 1) := by decide +kernel
theorem dJ9_min_7cf53_2 : decode cJ9_min_7cf53 2 = .ok (.if_icmp .gt 7, 3) := by decide +kernel
theorem dJ9_min_7cf53_5 : decode cJ9_min_7cf53 5 = .ok (.iload_n 0, 1) := by decide +kernel
theorem dJ9_min_7cf53_6 : decode cJ9_min_7cf53 6 = .ok (.goto 4, 3) := by decide +kernel
theorem dJ9_min_7cf53_9 : decode cJ9_min_7cf53 9 = .ok (.iload_n 1, 1) := by decide +kernel
theorem dJ9_min_7cf53_10 : decode cJ9_min_7cf53 10 = .ok (.ireturn, 1) := by decide +kernel
theorem dJxa1e45_init_da8c8_0 : decode cJxa1e45_init_da8c8 0 = .ok (.aload_n 0, 1) := by decide +kernel
theorem dJxa1e45_init_da8c8_1 : decode cJxa1e45_init_da8c8 1 = .ok (.invokespecial 1, 3) := by decide +kernel
theorem dJxa1e45_init_da8c8_4 : decode cJxa1e45_init_da8c8 4 = .ok (.return_, 1) := by decide +kernel
set_option maxRecDepth 20000 in
theorem ggJxc12de_init_da8c8_Jxa1e45_init_da8c8 : GoodIn wsJxc12de_init_da8c8 wsJxa1e45_init_da8c8 := goodIn_r _ [5, 6, 7, 8] (by decide +kernel) (by decide +kernel)
set_option maxRecDepth 20000 in
theorem gJxc12de_init_da8c8_Jxa1e45_init_da8c8 : GoodIn wsJxc12de_init_da8c8 (wsJxa1e45_init_da8c8) := ggJxc12de_init_da8c8_Jxa1e45_init_da8c8
theorem dJxc12de_init_da8c8_0 : decode cJxc12de_init_da8c8 0 = .ok (.aload_n 0, 1) := by decide +kernel
theorem dJxc12de_init_da8c8_1 : decode cJxc12de_init_da8c8 1 = .ok (.invokespecial 1, 3) := by decide +kernel
theorem dJxc12de_init_da8c8_4 : decode cJxc12de_init_da8c8 4 = .ok (.aload_n 0, 1) := by decide +kernel
theorem dJxc12de_init_da8c8_5 : decode cJxc12de_init_da8c8 5 = .ok (.iconst 0, 1) := by decide +kernel
theorem dJxc12de_init_da8c8_6 : decode cJxc12de_init_da8c8 6 = .ok (.putfield 7, 3) := by decide +kernel
theorem dJxc12de_init_da8c8_9 : decode cJxc12de_init_da8c8 9 = .ok (.return_, 1) := by decide +kernel
set_option maxRecDepth 20000 in
theorem ggJx4a65c_init_da8c8_Jxc12de_init_da8c8 : GoodIn wsJx4a65c_init_da8c8 wsJxc12de_init_da8c8 := goodIn_r _ [6, 7, 8, 9, 10, 11, 12, 13, 14, 15, 16, 17] (by decide +kernel) (by decide +kernel)
set_option maxRecDepth 20000 in
theorem gJx4a65c_init_da8c8_Jxc12de_init_da8c8 : GoodIn wsJx4a65c_init_da8c8 (wsJxc12de_init_da8c8) := ggJx4a65c_init_da8c8_Jxc12de_init_da8c8
theorem dJx4a65c_init_da8c8_0 : decode cJx4a65c_init_da8c8 0 = .ok (.aload_n 0, 1) := by decide +kernel
theorem dJx4a65c_init_da8c8_1 : decode cJx4a65c_init_da8c8 1 = .ok (.invokespecial 1, 3) := by decide +kernel
theorem dJx4a65c_init_da8c8_4 : decode cJx4a65c_init_da8c8 4 = .ok (.aload_n 0, 1) := by decide +kernel
theorem dJx4a65c_init_da8c8_5 : decode cJx4a65c_init_da8c8 5 = .ok (.getstatic 39, 3) := by decide +kernel
theorem dJx4a65c_init_da8c8_8 : decode cJx4a65c_init_da8c8 8 = .ok (.putfield 9, 3) := by decide +kernel
theorem dJx4a65c_init_da8c8_11 : decode cJx4a65c_init_da8c8 11 = .ok (.return_, 1) := by decide +kernel
set_option maxRecDepth 20000 in
theorem ggJx4a65c_grow_92f84_J8_newLength_cabcc : GoodIn wsJx4a65c_grow_92f84 wsJ8_newLength_cabcc := goodIn_r _ [11, 12, 4, 5, 6, 13, 14, 15, 10, 16] (by decide +kernel) (by decide +kernel)
set_option maxRecDepth 20000 in
theorem gJx4a65c_grow_92f84_J8_newLength_cabcc : GoodIn wsJx4a65c_grow_92f84 (va_wsS RJx4a65c 73 yJ8_newLength_cabcc wsJ8_newLength_cabcc) := goodIn_app (goodIn_of _ (by decide +kernel)) ggJx4a65c_grow_92f84_J8_newLength_cabcc
set_option maxRecDepth 20000 in
theorem ggJx4a65c_grow_92f84_J7_copyOf_1904c : GoodIn wsJx4a65c_grow_92f84 wsJ7_copyOf_1904c := goodIn_r _ [20, 21, 22, 23, 24, 25, 26, 19, 27, 28, 29, 30, 31, 5, 32, 33, 34, 35, 36] (by decide +kernel) (by decide +kernel)
set_option maxRecDepth 20000 in
theorem gJx4a65c_grow_92f84_J7_copyOf_1904c : GoodIn wsJx4a65c_grow_92f84 (va_wsS RJx4a65c 66 yJ7_copyOf_1904c wsJ7_copyOf_1904c) := goodIn_app (goodIn_of _ (by decide +kernel)) ggJx4a65c_grow_92f84_J7_copyOf_1904c
theorem dJx4a65c_grow_92f84_0 : decode cJx4a65c_grow_92f84 0 = .ok (.aload_n 0, 1) := by decide +kernel
theorem dJx4a65c_grow_92f84_1 : decode cJx4a65c_grow_92f84 1 = .ok (.getfield 9, 3) := by decide +kernel
theorem dJx4a65c_grow_92f84_4 : decode cJx4a65c_grow_92f84 4 = .ok (.arraylength, 1) := by decide +kernel
theorem dJx4a65c_grow_92f84_5 : decode cJx4a65c_grow_92f84 5 = .ok (.istore_n 2, 1) := by decide +kernel
theorem dJx4a65c_grow_92f84_6 : decode cJx4a65c_grow_92f84 6 = .ok (.iload_n 2, 1) := by decide +kernel
theorem dJx4a65c_grow_92f84_7 : decode cJx4a65c_grow_92f84 7 = .ok (.ifCond .gt 13, 3) := by decide +kernel
theorem dJx4a65c_grow_92f84_10 : decode cJx4a65c_grow_92f84 10 = .ok (.aload_n 0, 1) := by decide +kernel
theorem dJx4a65c_grow_92f84_11 : decode cJx4a65c_grow_92f84 11 = .ok (.getfield 9, 3) := by decide +kernel
theorem dJx4a65c_grow_92f84_14 : decode cJx4a65c_grow_92f84 14 = .ok (.getstatic 39, 3) := by decide +kernel
theorem dJx4a65c_grow_92f84_17 : decode cJx4a65c_grow_92f84 17 = .ok (.if_acmp .eq 28, 3) := by decide +kernel
theorem dJx4a65c_grow_92f84_20 : decode cJx4a65c_grow_92f84 20 = .ok (.iload_n 2, 1) := by decide +kernel
theorem dJx4a65c_grow_92f84_21 : decode cJx4a65c_grow_92f84 21 = .ok (.iload_n 1, 1) := by decide +kernel
theorem dJx4a65c_grow_92f84_22 : decode cJx4a65c_grow_92f84 22 = .ok (.iload_n 2, 1) := by decide +kernel
theorem dJx4a65c_grow_92f84_23 : decode cJx4a65c_grow_92f84 23 = .ok (.isub, 1) := by decide +kernel
theorem dJx4a65c_grow_92f84_24 : decode cJx4a65c_grow_92f84 24 = .ok (.iload_n 2, 1) := by decide +kernel
theorem dJx4a65c_grow_92f84_25 : decode cJx4a65c_grow_92f84 25 = .ok (.iconst 1, 1) := by decide +kernel
theorem dJx4a65c_grow_92f84_26 : decode cJx4a65c_grow_92f84 26 = .ok (.ishr, 1) := by decide +kernel
theorem dJx4a65c_grow_92f84_27 : decode cJx4a65c_grow_92f84 27 = .ok (.invokestatic 73, 3) := by decide +kernel
theorem dJx4a65c_grow_92f84_30 : decode cJx4a65c_grow_92f84 30 = .ok (.istore_n 3, 1) := by decide +kernel
theorem dJx4a65c_grow_92f84_31 : decode cJx4a65c_grow_92f84 31 = .ok (.aload_n 0, 1) := by decide +kernel
theorem dJx4a65c_grow_92f84_32 : decode cJx4a65c_grow_92f84 32 = .ok (.aload_n 0, 1) := by decide +kernel
theorem dJx4a65c_grow_92f84_33 : decode cJx4a65c_grow_92f84 33 = .ok (.getfield 9, 3) := by decide +kernel
theorem dJx4a65c_grow_92f84_36 : decode cJx4a65c_grow_92f84 36 = .ok (.iload_n 3, 1) := by decide +kernel
theorem dJx4a65c_grow_92f84_37 : decode cJx4a65c_grow_92f84 37 = .ok (.invokestatic 66, 3) := by decide +kernel
theorem dJx4a65c_grow_92f84_40 : decode cJx4a65c_grow_92f84 40 = .ok (.dup_x1, 1) := by decide +kernel
theorem dJx4a65c_grow_92f84_41 : decode cJx4a65c_grow_92f84 41 = .ok (.putfield 9, 3) := by decide +kernel
theorem dJx4a65c_grow_92f84_44 : decode cJx4a65c_grow_92f84 44 = .ok (.areturn, 1) := by decide +kernel
theorem dJx4a65c_grow_92f84_45 : decode cJx4a65c_grow_92f84 45 = .ok (.aload_n 0, 1) := by decide +kernel
theorem dJx4a65c_grow_92f84_46 : decode cJx4a65c_grow_92f84 46 = .ok (.bipush 10, 2) := by decide +kernel
theorem dJx4a65c_grow_92f84_48 : decode cJx4a65c_grow_92f84 48 = .ok (.iload_n 1, 1) := by decide +kernel
theorem dJx4a65c_grow_92f84_49 : decode cJx4a65c_grow_92f84 49 = .ok (.invokestatic 79, 3) := by decide +kernel
theorem dJx4a65c_grow_92f84_52 : decode cJx4a65c_grow_92f84 52 = .ok (.anewarray 7, 3) := by decide +kernel
theorem dJx4a65c_grow_92f84_55 : decode cJx4a65c_grow_92f84 55 = .ok (.dup_x1, 1) := by decide +kernel
theorem dJx4a65c_grow_92f84_56 : decode cJx4a65c_grow_92f84 56 = .ok (.putfield 9, 3) := by decide +kernel
theorem dJx4a65c_grow_92f84_59 : decode cJx4a65c_grow_92f84 59 = .ok (.areturn, 1) := by decide +kernel
set_option maxRecDepth 20000 in
theorem ggJx4a65c_grow_d5877_Jx4a65c_grow_92f84 : GoodIn wsJx4a65c_grow_d5877 wsJx4a65c_grow_92f84 := goodIn_r _ [6, 7, 8, 9, 10, 11, 12, 13, 14, 15, 16, 17, 18, 19, 20, 21, 22, 23, 24, 25, 26, 27, 28, 29, 30, 31, 32, 33, 34, 35, 36, 37, 38, 39, 40, 41, 42, 43, 44, 45] (by decide +kernel) (by decide +kernel)
set_option maxRecDepth 20000 in
theorem gJx4a65c_grow_d5877_Jx4a65c_grow_92f84 : GoodIn wsJx4a65c_grow_d5877 (wsV RJx4a65c 69 RJx4a65c yJx4a65c_grow_92f84 wsJx4a65c_grow_92f84) := goodIn_app (goodIn_of _ (by decide +kernel)) ggJx4a65c_grow_d5877_Jx4a65c_grow_92f84
theorem dJx4a65c_grow_d5877_0 : decode cJx4a65c_grow_d5877 0 = .ok (.aload_n 0, 1) := by decide +kernel
theorem dJx4a65c_grow_d5877_1 : decode cJx4a65c_grow_d5877 1 = .ok (.aload_n 0, 1) := by decide +kernel
theorem dJx4a65c_grow_d5877_2 : decode cJx4a65c_grow_d5877 2 = .ok (.getfield 48, 3) := by decide +kernel
theorem dJx4a65c_grow_d5877_5 : decode cJx4a65c_grow_d5877 5 = .ok (.iconst 1, 1) := by decide +kernel
theorem dJx4a65c_grow_d5877_6 : decode cJx4a65c_grow_d5877 6 = .ok (.iadd, 1) := by decide +kernel
theorem dJx4a65c_grow_d5877_7 : decode cJx4a65c_grow_d5877 7 = .ok (.invokevirtual 69, 3) := by decide +kernel
theorem dJx4a65c_grow_d5877_10 : decode cJx4a65c_grow_d5877 10 = .ok (.areturn, 1) := by decide +kernel
theorem dJx4a65c_size_8abf5_0 : decode cJx4a65c_size_8abf5 0 = .ok (.aload_n 0, 1) := by decide +kernel
theorem dJx4a65c_size_8abf5_1 : decode cJx4a65c_size_8abf5 1 = .ok (.getfield 48, 3) := by decide +kernel
theorem dJx4a65c_size_8abf5_4 : decode cJx4a65c_size_8abf5 4 = .ok (.ireturn, 1) := by decide +kernel
theorem dJx4a65c_elementData_915e3_0 : decode cJx4a65c_elementData_915e3 0 = .ok (.aload_n 0, 1) := by decide +kernel
theorem dJx4a65c_elementData_915e3_1 : decode cJx4a65c_elementData_915e3 1 = .ok (.getfield 9, 3) := by decide +kernel
theorem dJx4a65c_elementData_915e3_4 : decode cJx4a65c_elementData_915e3 4 = .ok (.iload_n 1, 1) := by decide +kernel
theorem dJx4a65c_elementData_915e3_5 : decode cJx4a65c_elementData_915e3 5 = .ok (.aaload, 1) := by decide +kernel
theorem dJx4a65c_elementData_915e3_6 : decode cJx4a65c_elementData_915e3 6 = .ok (.areturn, 1) := by decide +kernel
set_option maxRecDepth 20000 in
theorem ggJx4a65c_get_915e3_J15_checkIndex_7cf53 : GoodIn wsJx4a65c_get_915e3 wsJ15_checkIndex_7cf53 := goodIn_r _ [5, 6, 7, 8, 9] (by decide +kernel) (by decide +kernel)
set_option maxRecDepth 20000 in
theorem gJx4a65c_get_915e3_J15_checkIndex_7cf53 : GoodIn wsJx4a65c_get_915e3 (va_wsS RJx4a65c 118 yJ15_checkIndex_7cf53 wsJ15_checkIndex_7cf53) := goodIn_app (goodIn_of _ (by decide +kernel)) ggJx4a65c_get_915e3_J15_checkIndex_7cf53
set_option maxRecDepth 20000 in
theorem ggJx4a65c_get_915e3_Jx4a65c_elementData_915e3 : GoodIn wsJx4a65c_get_915e3 wsJx4a65c_elementData_915e3 := goodIn_r _ [14, 15, 16, 17, 18] (by decide +kernel) (by decide +kernel)
set_option maxRecDepth 20000 in
theorem gJx4a65c_get_915e3_Jx4a65c_elementData_915e3 : GoodIn wsJx4a65c_get_915e3 (wsV RJx4a65c 123 RJx4a65c yJx4a65c_elementData_915e3 wsJx4a65c_elementData_915e3) := goodIn_app (goodIn_of _ (by decide +kernel)) ggJx4a65c_get_915e3_Jx4a65c_elementData_915e3
theorem dJx4a65c_get_915e3_0 : decode cJx4a65c_get_915e3 0 = .ok (.iload_n 1, 1) := by decide +kernel
theorem dJx4a65c_get_915e3_1 : decode cJx4a65c_get_915e3 1 = .ok (.aload_n 0, 1) := by decide +kernel
theorem dJx4a65c_get_915e3_2 : decode cJx4a65c_get_915e3 2 = .ok (.getfield 48, 3) := by decide +kernel
theorem dJx4a65c_get_915e3_5 : decode cJx4a65c_get_915e3 5 = .ok (.invokestatic 118, 3) := by decide +kernel
theorem dJx4a65c_get_915e3_8 : decode cJx4a65c_get_915e3 8 = .ok (.pop, 1) := by decide +kernel
theorem dJx4a65c_get_915e3_9 : decode cJx4a65c_get_915e3 9 = .ok (.aload_n 0, 1) := by decide +kernel
theorem dJx4a65c_get_915e3_10 : decode cJx4a65c_get_915e3 10 = .ok (.iload_n 1, 1) := by decide +kernel
theorem dJx4a65c_get_915e3_11 : decode cJx4a65c_get_915e3 11 = .ok (.invokevirtual 123, 3) := by decide +kernel
theorem dJx4a65c_get_915e3_14 : decode cJx4a65c_get_915e3 14 = .ok (.areturn, 1) := by decide +kernel
set_option maxRecDepth 20000 in
theorem ggJx4a65c_add_72be8_Jx4a65c_grow_d5877 : GoodIn wsJx4a65c_add_72be8 wsJx4a65c_grow_d5877 := goodIn_r _ [6, 1, 7, 8, 9, 5, 10, 11, 12, 13, 14, 15, 16, 17, 18, 19, 20, 21, 22, 23, 24, 25, 26, 27, 28, 29, 30, 31, 32, 33, 34, 35, 36, 37, 38, 39, 40, 41, 42, 43, 44, 45, 46, 47, 48, 49] (by decide +kernel) (by decide +kernel)
set_option maxRecDepth 20000 in
theorem gJx4a65c_add_72be8_Jx4a65c_grow_d5877 : GoodIn wsJx4a65c_add_72be8 (wsV RJx4a65c 129 RJx4a65c yJx4a65c_grow_d5877 wsJx4a65c_grow_d5877) := goodIn_app (goodIn_of _ (by decide +kernel)) ggJx4a65c_add_72be8_Jx4a65c_grow_d5877
theorem dJx4a65c_add_72be8_0 : decode cJx4a65c_add_72be8 0 = .ok (.iload_n 3, 1) := by decide +kernel
theorem dJx4a65c_add_72be8_1 : decode cJx4a65c_add_72be8 1 = .ok (.aload_n 2, 1) := by decide +kernel
theorem dJx4a65c_add_72be8_2 : decode cJx4a65c_add_72be8 2 = .ok (.arraylength, 1) := by decide +kernel
theorem dJx4a65c_add_72be8_3 : decode cJx4a65c_add_72be8 3 = .ok (.if_icmp .ne 8, 3) := by decide +kernel
theorem dJx4a65c_add_72be8_6 : decode cJx4a65c_add_72be8 6 = .ok (.aload_n 0, 1) := by decide +kernel
theorem dJx4a65c_add_72be8_7 : decode cJx4a65c_add_72be8 7 = .ok (.invokevirtual 129, 3) := by decide +kernel
theorem dJx4a65c_add_72be8_10 : decode cJx4a65c_add_72be8 10 = .ok (.astore_n 2, 1) := by decide +kernel
theorem dJx4a65c_add_72be8_11 : decode cJx4a65c_add_72be8 11 = .ok (.aload_n 2, 1) := by decide +kernel
theorem dJx4a65c_add_72be8_12 : decode cJx4a65c_add_72be8 12 = .ok (.iload_n 3, 1) := by decide +kernel
theorem dJx4a65c_add_72be8_13 : decode cJx4a65c_add_72be8 13 = .ok (.aload_n 1, 1) := by decide +kernel
theorem dJx4a65c_add_72be8_14 : decode cJx4a65c_add_72be8 14 = .ok (.aastore, 1) := by decide +kernel
theorem dJx4a65c_add_72be8_15 : decode cJx4a65c_add_72be8 15 = .ok (.aload_n 0, 1) := by decide +kernel
theorem dJx4a65c_add_72be8_16 : decode cJx4a65c_add_72be8 16 = .ok (.iload_n 3, 1) := by decide +kernel
theorem dJx4a65c_add_72be8_17 : decode cJx4a65c_add_72be8 17 = .ok (.iconst 1, 1) := by decide +kernel
theorem dJx4a65c_add_72be8_18 : decode cJx4a65c_add_72be8 18 = .ok (.iadd, 1) := by decide +kernel
theorem dJx4a65c_add_72be8_19 : decode cJx4a65c_add_72be8 19 = .ok (.putfield 48, 3) := by decide +kernel
theorem dJx4a65c_add_72be8_22 : decode cJx4a65c_add_72be8 22 = .ok (.return_, 1) := by decide +kernel
set_option maxRecDepth 20000 in
theorem ggJx4a65c_add_9ea2d_Jx4a65c_add_72be8 : GoodIn wsJx4a65c_add_9ea2d wsJx4a65c_add_72be8 := goodIn_r _ [9, 4, 10, 11, 12, 8, 13, 14, 15, 16, 17, 3, 18, 19, 20, 21, 22, 23, 24, 25, 26, 27, 28, 29, 30, 31, 32, 33, 34, 35, 36, 37, 38, 39, 40, 41, 42, 43, 44, 45, 46, 47, 48, 49, 50, 51, 52, 53, 54, 55] (by decide +kernel) (by decide +kernel)
set_option maxRecDepth 20000 in
theorem gJx4a65c_add_9ea2d_Jx4a65c_add_72be8 : GoodIn wsJx4a65c_add_9ea2d (wsV RJx4a65c 131 RJx4a65c yJx4a65c_add_72be8 wsJx4a65c_add_72be8) := goodIn_app (goodIn_of _ (by decide +kernel)) ggJx4a65c_add_9ea2d_Jx4a65c_add_72be8
theorem dJx4a65c_add_9ea2d_0 : decode cJx4a65c_add_9ea2d 0 = .ok (.aload_n 0, 1) := by decide +kernel
theorem dJx4a65c_add_9ea2d_1 : decode cJx4a65c_add_9ea2d 1 = .ok (.dup, 1) := by decide +kernel
theorem dJx4a65c_add_9ea2d_2 : decode cJx4a65c_add_9ea2d 2 = .ok (.getfield 63, 3) := by decide +kernel
theorem dJx4a65c_add_9ea2d_5 : decode cJx4a65c_add_9ea2d 5 = .ok (.iconst 1, 1) := by decide +kernel
theorem dJx4a65c_add_9ea2d_6 : decode cJx4a65c_add_9ea2d 6 = .ok (.iadd, 1) := by decide +kernel
theorem dJx4a65c_add_9ea2d_7 : decode cJx4a65c_add_9ea2d 7 = .ok (.putfield 63, 3) := by decide +kernel
theorem dJx4a65c_add_9ea2d_10 : decode cJx4a65c_add_9ea2d 10 = .ok (.aload_n 0, 1) := by decide +kernel
theorem dJx4a65c_add_9ea2d_11 : decode cJx4a65c_add_9ea2d 11 = .ok (.aload_n 1, 1) := by decide +kernel
theorem dJx4a65c_add_9ea2d_12 : decode cJx4a65c_add_9ea2d 12 = .ok (.aload_n 0, 1) := by decide +kernel
theorem dJx4a65c_add_9ea2d_13 : decode cJx4a65c_add_9ea2d 13 = .ok (.getfield 9, 3) := by decide +kernel
theorem dJx4a65c_add_9ea2d_16 : decode cJx4a65c_add_9ea2d 16 = .ok (.aload_n 0, 1) := by decide +kernel
theorem dJx4a65c_add_9ea2d_17 : decode cJx4a65c_add_9ea2d 17 = .ok (.getfield 48, 3) := by decide +kernel
theorem dJx4a65c_add_9ea2d_20 : decode cJx4a65c_add_9ea2d 20 = .ok (.invokevirtual 131, 3) := by decide +kernel
theorem dJx4a65c_add_9ea2d_23 : decode cJx4a65c_add_9ea2d 23 = .ok (.iconst 1, 1) := by decide +kernel
theorem dJx4a65c_add_9ea2d_24 : decode cJx4a65c_add_9ea2d 24 = .ok (.ireturn, 1) := by decide +kernel
set_option maxRecDepth 20000 in
theorem ggJ7_copyOf_1904c_J7_copyOf_6403c : GoodIn wsJ7_copyOf_1904c wsJ7_copyOf_6403c := goodIn_r _ [8, 9, 10, 11, 12, 13, 14, 15, 16, 17, 18] (by decide +kernel) (by decide +kernel)
set_option maxRecDepth 20000 in
theorem gJ7_copyOf_1904c_J7_copyOf_6403c : GoodIn wsJ7_copyOf_1904c (va_wsS RJ7 300 yJ7_copyOf_6403c wsJ7_copyOf_6403c) := goodIn_app (goodIn_of _ (by decide +kernel)) ggJ7_copyOf_1904c_J7_copyOf_6403c
theorem dJ7_copyOf_1904c_0 : decode cJ7_copyOf_1904c 0 = .ok (.aload_n 0, 1) := by decide +kernel
theorem dJ7_copyOf_1904c_1 : decode cJ7_copyOf_1904c 1 = .ok (.iload_n 1, 1) := by decide +kernel
theorem dJ7_copyOf_1904c_2 : decode cJ7_copyOf_1904c 2 = .ok (.aload_n 0, 1) := by decide +kernel
theorem dJ7_copyOf_1904c_3 : decode cJ7_copyOf_1904c 3 = .ok (.invokevirtual 86, 3) := by decide +kernel
theorem dJ7_copyOf_1904c_6 : decode cJ7_copyOf_1904c 6 = .ok (.invokestatic 300, 3) := by decide +kernel
theorem dJ7_copyOf_1904c_9 : decode cJ7_copyOf_1904c 9 = .ok (.areturn, 1) := by decide +kernel
theorem dJ7_copyOf_6403c_0 : decode cJ7_copyOf_6403c 0 = .ok (.aload_n 2, 1) := by decide +kernel
theorem dJ7_copyOf_6403c_1 : decode cJ7_copyOf_6403c 1 = .ok (.ldc 110, 2) := by decide +kernel
theorem dJ7_copyOf_6403c_3 : decode cJ7_copyOf_6403c 3 = .ok (.if_acmp .ne 10, 3) := by decide +kernel
theorem dJ7_copyOf_6403c_6 : decode cJ7_copyOf_6403c 6 = .ok (.iload_n 1, 1) := by decide +kernel
theorem dJ7_copyOf_6403c_7 : decode cJ7_copyOf_6403c 7 = .ok (.anewarray 2, 3) := by decide +kernel
theorem dJ7_copyOf_6403c_10 : decode cJ7_copyOf_6403c 10 = .ok (.goto 14, 3) := by decide +kernel
theorem dJ7_copyOf_6403c_13 : decode cJ7_copyOf_6403c 13 = .ok (.aload_n 2, 1) := by decide +kernel
theorem dJ7_copyOf_6403c_14 : decode cJ7_copyOf_6403c 14 = .ok (.invokevirtual 90, 3) := by decide +kernel
theorem dJ7_copyOf_6403c_17 : decode cJ7_copyOf_6403c 17 = .ok (.iload_n 1, 1) := by decide +kernel
theorem dJ7_copyOf_6403c_18 : decode cJ7_copyOf_6403c 18 = .ok (.invokestatic 95, 3) := by decide +kernel
theorem dJ7_copyOf_6403c_21 : decode cJ7_copyOf_6403c 21 = .ok (.checkcast 110, 3) := by decide +kernel
theorem dJ7_copyOf_6403c_24 : decode cJ7_copyOf_6403c 24 = .ok (.astore_n 3, 1) := by decide +kernel
theorem dJ7_copyOf_6403c_25 : decode cJ7_copyOf_6403c 25 = .ok (.aload_n 0, 1) := by decide +kernel
theorem dJ7_copyOf_6403c_26 : decode cJ7_copyOf_6403c 26 = .ok (.iconst 0, 1) := by decide +kernel
theorem dJ7_copyOf_6403c_27 : decode cJ7_copyOf_6403c 27 = .ok (.aload_n 3, 1) := by decide +kernel
theorem dJ7_copyOf_6403c_28 : decode cJ7_copyOf_6403c 28 = .ok (.iconst 0, 1) := by decide +kernel
theorem dJ7_copyOf_6403c_29 : decode cJ7_copyOf_6403c 29 = .ok (.aload_n 0, 1) := by decide +kernel
theorem dJ7_copyOf_6403c_30 : decode cJ7_copyOf_6403c 30 = .ok (.arraylength, 1) := by decide +kernel
theorem dJ7_copyOf_6403c_31 : decode cJ7_copyOf_6403c 31 = .ok (.iload_n 1, 1) := by decide +kernel
theorem dJ7_copyOf_6403c_32 : decode cJ7_copyOf_6403c 32 = .ok (.invokestatic 304, 3) := by decide +kernel
theorem dJ7_copyOf_6403c_35 : decode cJ7_copyOf_6403c 35 = .ok (.invokestatic 150, 3) := by decide +kernel
theorem dJ7_copyOf_6403c_38 : decode cJ7_copyOf_6403c 38 = .ok (.aload_n 3, 1) := by decide +kernel
theorem dJ7_copyOf_6403c_39 : decode cJ7_copyOf_6403c 39 = .ok (.areturn, 1) := by decide +kernel
set_option maxRecDepth 20000 in
theorem ggJ15_checkIndex_7cf53_J3_checkIndex_8e157 : GoodIn wsJ15_checkIndex_7cf53 wsJ3_checkIndex_8e157 := goodIn_r _ [4] (by decide +kernel) (by decide +kernel)
set_option maxRecDepth 20000 in
theorem gJ15_checkIndex_7cf53_J3_checkIndex_8e157 : GoodIn wsJ15_checkIndex_7cf53 (va_wsS RJ15 105 yJ3_checkIndex_8e157 wsJ3_checkIndex_8e157) := goodIn_app (goodIn_of _ (by decide +kernel)) ggJ15_checkIndex_7cf53_J3_checkIndex_8e157
theorem dJ15_checkIndex_7cf53_0 : decode cJ15_checkIndex_7cf53 0 = .ok (.iload_n 0, 1) := by decide +kernel
theorem dJ15_checkIndex_7cf53_1 : decode cJ15_checkIndex_7cf53 1 = .ok (.iload_n 1, 1) := by decide +kernel
theorem dJ15_checkIndex_7cf53_2 : decode cJ15_checkIndex_7cf53 2 = .ok (.aconst_null, 1) := by decide +kernel
theorem dJ15_checkIndex_7cf53_3 : decode cJ15_checkIndex_7cf53 3 = .ok (.invokestatic 105, 3) := by decide +kernel
theorem dJ15_checkIndex_7cf53_6 : decode cJ15_checkIndex_7cf53 6 = .ok (.ireturn, 1) := by decide +kernel
set_option maxRecDepth 20000 in
theorem ggJ8_newLength_cabcc_J8_hugeLength_7cf53 : GoodIn wsJ8_newLength_cabcc wsJ8_hugeLength_7cf53 := goodIn_r _ [9, 5] (by decide +kernel) (by decide +kernel)
set_option maxRecDepth 20000 in
theorem gJ8_newLength_cabcc_J8_hugeLength_7cf53 : GoodIn wsJ8_newLength_cabcc (va_wsS RJ8 201 yJ8_hugeLength_7cf53 wsJ8_hugeLength_7cf53) := goodIn_app (goodIn_of _ (by decide +kernel)) ggJ8_newLength_cabcc_J8_hugeLength_7cf53
theorem dJ8_newLength_cabcc_0 : decode cJ8_newLength_cabcc 0 = .ok (.iload_n 0, 1) := by decide +kernel
theorem dJ8_newLength_cabcc_1 : decode cJ8_newLength_cabcc 1 = .ok (.iload_n 1, 1) := by decide +kernel
theorem dJ8_newLength_cabcc_2 : decode cJ8_newLength_cabcc 2 = .ok (.iload_n 2, 1) := by decide +kernel
theorem dJ8_newLength_cabcc_3 : decode cJ8_newLength_cabcc 3 = .ok (.invokestatic 194, 3) := by decide +kernel
theorem dJ8_newLength_cabcc_6 : decode cJ8_newLength_cabcc 6 = .ok (.iadd, 1) := by decide +kernel
theorem dJ8_newLength_cabcc_7 : decode cJ8_newLength_cabcc 7 = .ok (.istore_n 3, 1) := by decide +kernel
theorem dJ8_newLength_cabcc_8 : decode cJ8_newLength_cabcc 8 = .ok (.iconst 0, 1) := by decide +kernel
theorem dJ8_newLength_cabcc_9 : decode cJ8_newLength_cabcc 9 = .ok (.iload_n 3, 1) := by decide +kernel
theorem dJ8_newLength_cabcc_10 : decode cJ8_newLength_cabcc 10 = .ok (.if_icmp .ge 11, 3) := by decide +kernel
theorem dJ8_newLength_cabcc_13 : decode cJ8_newLength_cabcc 13 = .ok (.iload_n 3, 1) := by decide +kernel
theorem dJ8_newLength_cabcc_14 : decode cJ8_newLength_cabcc 14 = .ok (.ldc 200, 2) := by decide +kernel
theorem dJ8_newLength_cabcc_16 : decode cJ8_newLength_cabcc 16 = .ok (.if_icmp .gt 5, 3) := by decide +kernel
theorem dJ8_newLength_cabcc_19 : decode cJ8_newLength_cabcc 19 = .ok (.iload_n 3, 1) := by decide +kernel
theorem dJ8_newLength_cabcc_20 : decode cJ8_newLength_cabcc 20 = .ok (.ireturn, 1) := by decide +kernel
theorem dJ8_newLength_cabcc_21 : decode cJ8_newLength_cabcc 21 = .ok (.iload_n 0, 1) := by decide +kernel
theorem dJ8_newLength_cabcc_22 : decode cJ8_newLength_cabcc 22 = .ok (.iload_n 1, 1) := by decide +kernel
theorem dJ8_newLength_cabcc_23 : decode cJ8_newLength_cabcc 23 = .ok (.invokestatic 201, 3) := by decide +kernel
theorem dJ8_newLength_cabcc_26 : decode cJ8_newLength_cabcc 26 = .ok (.ireturn, 1) := by decide +kernel
theorem dJ8_hugeLength_7cf53_0 : decode cJ8_hugeLength_7cf53 0 = .ok (.iload_n 0, 1) := by decide +kernel
theorem dJ8_hugeLength_7cf53_1 : decode cJ8_hugeLength_7cf53 1 = .ok (.iload_n 1, 1) := by decide +kernel
theorem dJ8_hugeLength_7cf53_2 : decode cJ8_hugeLength_7cf53 2 = .ok (.iadd, 1) := by decide +kernel
theorem dJ8_hugeLength_7cf53_3 : decode cJ8_hugeLength_7cf53 3 = .ok (.istore_n 2, 1) := by decide +kernel
theorem dJ8_hugeLength_7cf53_4 : decode cJ8_hugeLength_7cf53 4 = .ok (.iload_n 2, 1) := by decide +kernel
theorem dJ8_hugeLength_7cf53_5 : decode cJ8_hugeLength_7cf53 5 = .ok (.ifCond .ge 44, 3) := by decide +kernel
theorem dJ8_hugeLength_7cf53_8 : decode cJ8_hugeLength_7cf53 8 = .ok (.new 204, 3) := by decide +kernel
theorem dJ8_hugeLength_7cf53_11 : decode cJ8_hugeLength_7cf53 11 = .ok (.dup, 1) := by decide +kernel
theorem dJ8_hugeLength_7cf53_12 : decode cJ8_hugeLength_7cf53 12 = .ok (.new 89, 3) := by decide +kernel
theorem dJ8_hugeLength_7cf53_15 : decode cJ8_hugeLength_7cf53 15 = .ok (.dup, 1) := by decide +kernel
theorem dJ8_hugeLength_7cf53_16 : decode cJ8_hugeLength_7cf53 16 = .ok (.invokespecial 91, 3) := by decide +kernel
theorem dJ8_hugeLength_7cf53_19 : decode cJ8_hugeLength_7cf53 19 = .ok (.ldc 206, 2) := by decide +kernel
theorem dJ8_hugeLength_7cf53_21 : decode cJ8_hugeLength_7cf53 21 = .ok (.invokevirtual 94, 3) := by decide +kernel
theorem dJ8_hugeLength_7cf53_24 : decode cJ8_hugeLength_7cf53 24 = .ok (.iload_n 0, 1) := by decide +kernel
theorem dJ8_hugeLength_7cf53_25 : decode cJ8_hugeLength_7cf53 25 = .ok (.invokevirtual 98, 3) := by decide +kernel
theorem dJ8_hugeLength_7cf53_28 : decode cJ8_hugeLength_7cf53 28 = .ok (.ldc 208, 2) := by decide +kernel
theorem dJ8_hugeLength_7cf53_30 : decode cJ8_hugeLength_7cf53 30 = .ok (.invokevirtual 94, 3) := by decide +kernel
theorem dJ8_hugeLength_7cf53_33 : decode cJ8_hugeLength_7cf53 33 = .ok (.iload_n 1, 1) := by decide +kernel
theorem dJ8_hugeLength_7cf53_34 : decode cJ8_hugeLength_7cf53 34 = .ok (.invokevirtual 98, 3) := by decide +kernel
theorem dJ8_hugeLength_7cf53_37 : decode cJ8_hugeLength_7cf53 37 = .ok (.ldc 210, 2) := by decide +kernel
theorem dJ8_hugeLength_7cf53_39 : decode cJ8_hugeLength_7cf53 39 = .ok (.invokevirtual 94, 3) := by decide +kernel
theorem dJ8_hugeLength_7cf53_42 : decode cJ8_hugeLength_7cf53 42 = .ok (.invokevirtual 101, 3) := by decide +kernel
theorem dJ8_hugeLength_7cf53_45 : decode cJ8_hugeLength_7cf53 45 = .ok (.invokespecial 212, 3) := by decide +kernel
theorem dJ8_hugeLength_7cf53_48 : decode cJ8_hugeLength_7cf53 48 = .ok (.athrow, 1) := by decide +kernel
theorem dJ8_hugeLength_7cf53_49 : decode cJ8_hugeLength_7cf53 49 = .ok (.iload_n 2, 1) := by decide +kernel
theorem dJ8_hugeLength_7cf53_50 : decode cJ8_hugeLength_7cf53 50 = .ok (.ldc 200, 2) := by decide +kernel
theorem dJ8_hugeLength_7cf53_52 : decode cJ8_hugeLength_7cf53 52 = .ok (.if_icmp .gt 6, 3) := by decide +kernel
theorem dJ8_hugeLength_7cf53_55 : decode cJ8_hugeLength_7cf53 55 = .ok (.ldc 200, 2) := by decide +kernel
theorem dJ8_hugeLength_7cf53_57 : decode cJ8_hugeLength_7cf53 57 = .ok (.ireturn, 1) := by decide +kernel
theorem dJ8_hugeLength_7cf53_58 : decode cJ8_hugeLength_7cf53 58 = .ok (.iload_n 2, 1) := by decide +kernel
theorem dJ8_hugeLength_7cf53_59 : decode cJ8_hugeLength_7cf53 59 = .ok (.ireturn, 1) := by decide +kernel
theorem dJ3_checkIndex_8e157_0 : decode cJ3_checkIndex_8e157 0 = .ok (.iload_n 0, 1) := by decide +kernel
theorem dJ3_checkIndex_8e157_1 : decode cJ3_checkIndex_8e157 1 = .ok (.ifCond .lt 8, 3) := by decide +kernel
theorem dJ3_checkIndex_8e157_4 : decode cJ3_checkIndex_8e157 4 = .ok (.iload_n 0, 1) := by decide +kernel
theorem dJ3_checkIndex_8e157_5 : decode cJ3_checkIndex_8e157 5 = .ok (.iload_n 1, 1) := by decide +kernel
theorem dJ3_checkIndex_8e157_6 : decode cJ3_checkIndex_8e157 6 = .ok (.if_icmp .lt 10, 3) := by decide +kernel
theorem dJ3_checkIndex_8e157_9 : decode cJ3_checkIndex_8e157 9 = .ok (.aload_n 2, 1) := by decide +kernel
theorem dJ3_checkIndex_8e157_10 : decode cJ3_checkIndex_8e157 10 = .ok (.iload_n 0, 1) := by decide +kernel
theorem dJ3_checkIndex_8e157_11 : decode cJ3_checkIndex_8e157 11 = .ok (.iload_n 1, 1) := by decide +kernel
theorem dJ3_checkIndex_8e157_12 : decode cJ3_checkIndex_8e157 12 = .ok (.invokestatic 95, 3) := by decide +kernel
theorem dJ3_checkIndex_8e157_15 : decode cJ3_checkIndex_8e157 15 = .ok (.athrow, 1) := by decide +kernel
theorem dJ3_checkIndex_8e157_16 : decode cJ3_checkIndex_8e157 16 = .ok (.iload_n 0, 1) := by decide +kernel
theorem dJ3_checkIndex_8e157_17 : decode cJ3_checkIndex_8e157 17 = .ok (.ireturn, 1) := by decide +kernel
end
section
set_option maxRecDepth 20000 in
theorem ggL_setCut_X5_setCut : GoodIn wsL_setCut wsX5_setCut := goodIn_ca (goodIn_ca (goodIn_r _ [7, 8, 9, 10, 11, 12, 13, 14, 6, 15, 16, 17, 18, 19, 20, 21, 22, 23, 24, 25, 26, 27, 28, 29, 30, 31, 32, 33, 34, 35, 36, 37, 38, 39, 40, 41, 42, 43, 44, 45, 46, 47, 48, 49, 50, 51, 52, 53, 54, 55, 56, 57, 58, 59, 60, 61, 62, 63, 64, 65, 66, 67, 68, 69, 70, 71, 72, 73, 74, 75, 76, 77] (by decide +kernel) (by decide +kernel)) (goodIn_sub (fun _ h => List.mem_cons_of_mem _ (List.mem_append_left _ (List.mem_append_right _ h))) (by decide +kernel))) (goodIn_sub (fun _ h => List.mem_cons_of_mem _ (List.mem_append_right _ h)) (by decide +kernel))
set_option maxRecDepth 20000 in
theorem gL_setCut_X5_setCut : GoodIn wsL_setCut (wsV RL 7 RX5 yX5_setCut wsX5_setCut) := goodIn_app (goodIn_of _ (by decide +kernel)) ggL_setCut_X5_setCut
theorem dL_setCut_0 : decode cL_setCut 0 = .ok (.aload 4, 2) := by decide +kernel
theorem dL_setCut_2 : decode cL_setCut 2 = .ok (.iconst 0, 1) := by decide +kernel
theorem dL_setCut_3 : decode cL_setCut 3 = .ok (.aload_n 0, 1) := by decide +kernel
theorem dL_setCut_4 : decode cL_setCut 4 = .ok (.iload_n 1, 1) := by decide +kernel
theorem dL_setCut_5 : decode cL_setCut 5 = .ok (.iload_n 2, 1) := by decide +kernel
theorem dL_setCut_6 : decode cL_setCut 6 = .ok (.iload_n 3, 1) := by decide +kernel
theorem dL_setCut_7 : decode cL_setCut 7 = .ok (.invokevirtual 7, 3) := by decide +kernel
theorem dL_setCut_10 : decode cL_setCut 10 = .ok (.ifCond .eq 7, 3) := by decide +kernel
theorem dL_setCut_13 : decode cL_setCut 13 = .ok (.lconst 1, 1) := by decide +kernel
theorem dL_setCut_14 : decode cL_setCut 14 = .ok (.goto 4, 3) := by decide +kernel
theorem dL_setCut_17 : decode cL_setCut 17 = .ok (.lconst 0, 1) := by decide +kernel
theorem dL_setCut_18 : decode cL_setCut 18 = .ok (.lastore, 1) := by decide +kernel
theorem dL_setCut_19 : decode cL_setCut 19 = .ok (.goto 11, 3) := by decide +kernel
theorem dL_setCut_22 : decode cL_setCut 22 = .ok (.astore 5, 2) := by decide +kernel
theorem dL_setCut_24 : decode cL_setCut 24 = .ok (.iconst 1, 1) := by decide +kernel
theorem dL_setCut_25 : decode cL_setCut 25 = .ok (.ireturn, 1) := by decide +kernel
theorem dL_setCut_26 : decode cL_setCut 26 = .ok (.astore 5, 2) := by decide +kernel
theorem dL_setCut_28 : decode cL_setCut 28 = .ok (.iconst 2, 1) := by decide +kernel
theorem dL_setCut_29 : decode cL_setCut 29 = .ok (.ireturn, 1) := by decide +kernel
theorem dL_setCut_30 : decode cL_setCut 30 = .ok (.iconst 0, 1) := by decide +kernel
theorem dL_setCut_31 : decode cL_setCut 31 = .ok (.ireturn, 1) := by decide +kernel
set_option maxRecDepth 20000 in
theorem ggL_setWarm_X5_setWarm : GoodIn wsL_setWarm wsX5_setWarm := goodIn_ca (goodIn_r _ [6, 7, 8, 9, 10, 11, 12, 5, 13, 14, 15, 16, 17, 18, 19, 20, 21, 22, 23, 24, 25, 26, 27, 28, 29, 30, 31, 32, 33, 34, 35, 36, 37, 38, 39, 40, 41, 42, 43, 44, 45, 46, 47, 48, 49, 50, 51, 52, 53, 54] (by decide +kernel) (by decide +kernel)) (goodIn_sub (fun _ h => List.mem_cons_of_mem _ (List.mem_append_right _ h)) (by decide +kernel))
set_option maxRecDepth 20000 in
theorem gL_setWarm_X5_setWarm : GoodIn wsL_setWarm (wsV RL 17 RX5 yX5_setWarm wsX5_setWarm) := goodIn_app (goodIn_of _ (by decide +kernel)) ggL_setWarm_X5_setWarm
theorem dL_setWarm_0 : decode cL_setWarm 0 = .ok (.aload_n 3, 1) := by decide +kernel
theorem dL_setWarm_1 : decode cL_setWarm 1 = .ok (.iconst 0, 1) := by decide +kernel
theorem dL_setWarm_2 : decode cL_setWarm 2 = .ok (.aload_n 0, 1) := by decide +kernel
theorem dL_setWarm_3 : decode cL_setWarm 3 = .ok (.iload_n 1, 1) := by decide +kernel
theorem dL_setWarm_4 : decode cL_setWarm 4 = .ok (.iload_n 2, 1) := by decide +kernel
theorem dL_setWarm_5 : decode cL_setWarm 5 = .ok (.invokevirtual 17, 3) := by decide +kernel
theorem dL_setWarm_8 : decode cL_setWarm 8 = .ok (.ifCond .eq 7, 3) := by decide +kernel
theorem dL_setWarm_11 : decode cL_setWarm 11 = .ok (.lconst 1, 1) := by decide +kernel
theorem dL_setWarm_12 : decode cL_setWarm 12 = .ok (.goto 4, 3) := by decide +kernel
theorem dL_setWarm_15 : decode cL_setWarm 15 = .ok (.lconst 0, 1) := by decide +kernel
theorem dL_setWarm_16 : decode cL_setWarm 16 = .ok (.lastore, 1) := by decide +kernel
theorem dL_setWarm_17 : decode cL_setWarm 17 = .ok (.goto 7, 3) := by decide +kernel
theorem dL_setWarm_20 : decode cL_setWarm 20 = .ok (.astore 4, 2) := by decide +kernel
theorem dL_setWarm_22 : decode cL_setWarm 22 = .ok (.iconst 1, 1) := by decide +kernel
theorem dL_setWarm_23 : decode cL_setWarm 23 = .ok (.ireturn, 1) := by decide +kernel
theorem dL_setWarm_24 : decode cL_setWarm 24 = .ok (.iconst 0, 1) := by decide +kernel
theorem dL_setWarm_25 : decode cL_setWarm 25 = .ok (.ireturn, 1) := by decide +kernel
set_option maxRecDepth 20000 in
theorem ggL_setFrost_X5_setFrost : GoodIn wsL_setFrost wsX5_setFrost := goodIn_ca (goodIn_r _ [6, 7, 8, 9, 10, 5, 11, 12, 13, 14, 15, 16, 17, 18, 19, 20, 21, 22, 23, 24, 25, 26, 27, 28, 29, 30, 31, 32, 33, 34, 35, 36] (by decide +kernel) (by decide +kernel)) (goodIn_sub (fun _ h => List.mem_cons_of_mem _ (List.mem_append_right _ h)) (by decide +kernel))
set_option maxRecDepth 20000 in
theorem gL_setFrost_X5_setFrost : GoodIn wsL_setFrost (wsV RL 21 RX5 yX5_setFrost wsX5_setFrost) := goodIn_app (goodIn_of _ (by decide +kernel)) ggL_setFrost_X5_setFrost
theorem dL_setFrost_0 : decode cL_setFrost 0 = .ok (.aload_n 3, 1) := by decide +kernel
theorem dL_setFrost_1 : decode cL_setFrost 1 = .ok (.iconst 0, 1) := by decide +kernel
theorem dL_setFrost_2 : decode cL_setFrost 2 = .ok (.aload_n 0, 1) := by decide +kernel
theorem dL_setFrost_3 : decode cL_setFrost 3 = .ok (.iload_n 1, 1) := by decide +kernel
theorem dL_setFrost_4 : decode cL_setFrost 4 = .ok (.iload_n 2, 1) := by decide +kernel
theorem dL_setFrost_5 : decode cL_setFrost 5 = .ok (.invokevirtual 21, 3) := by decide +kernel
theorem dL_setFrost_8 : decode cL_setFrost 8 = .ok (.ifCond .eq 7, 3) := by decide +kernel
theorem dL_setFrost_11 : decode cL_setFrost 11 = .ok (.lconst 1, 1) := by decide +kernel
theorem dL_setFrost_12 : decode cL_setFrost 12 = .ok (.goto 4, 3) := by decide +kernel
theorem dL_setFrost_15 : decode cL_setFrost 15 = .ok (.lconst 0, 1) := by decide +kernel
theorem dL_setFrost_16 : decode cL_setFrost 16 = .ok (.lastore, 1) := by decide +kernel
theorem dL_setFrost_17 : decode cL_setFrost 17 = .ok (.goto 7, 3) := by decide +kernel
theorem dL_setFrost_20 : decode cL_setFrost 20 = .ok (.astore 4, 2) := by decide +kernel
theorem dL_setFrost_22 : decode cL_setFrost 22 = .ok (.iconst 1, 1) := by decide +kernel
theorem dL_setFrost_23 : decode cL_setFrost 23 = .ok (.ireturn, 1) := by decide +kernel
theorem dL_setFrost_24 : decode cL_setFrost 24 = .ok (.iconst 0, 1) := by decide +kernel
theorem dL_setFrost_25 : decode cL_setFrost 25 = .ok (.ireturn, 1) := by decide +kernel
set_option maxRecDepth 20000 in
theorem ggL_fill_X5_fill : GoodIn wsL_fill wsX5_fill := goodIn_ca (goodIn_ca (goodIn_ca (goodIn_r _ [8, 9, 10, 11, 12, 13, 14, 15, 16, 17, 7, 18, 19, 20, 21, 22, 23, 24, 25, 26, 27, 28, 29, 30, 31, 32, 33, 34, 35, 36, 37, 38, 39, 40, 41, 42, 43, 44, 45, 46, 47, 48, 49, 50, 51, 52, 53, 54, 55, 56, 57, 58, 59, 60, 61, 62, 63, 64, 65, 66, 67, 68, 69, 70, 71, 72, 73, 74, 75, 76, 77, 78, 79, 80, 81, 82, 83, 84, 85, 86, 87, 88, 89, 90, 91, 92, 93, 94, 95, 96, 97, 98, 99, 100, 101, 102, 103, 104, 105, 106, 107, 108, 109, 110, 111, 112, 113, 114, 115, 116, 117, 118, 119, 120, 121, 122, 123, 124, 125, 126, 127, 128, 129, 130, 131, 132, 133, 134, 135, 136, 137, 138, 139, 140, 141, 142, 143, 144, 145, 146, 147, 148, 149, 150, 151, 152, 153, 154, 155, 156, 157, 158, 159, 160, 161, 162, 163, 164, 165, 166, 167, 168] (by decide +kernel) (by decide +kernel)) (goodIn_sub (fun _ h => List.mem_cons_of_mem _ (List.mem_append_left _ (List.mem_append_left _ (List.mem_append_right _ h)))) (by decide +kernel))) (goodIn_sub (fun _ h => List.mem_cons_of_mem _ (List.mem_append_left _ (List.mem_append_right _ h))) (by decide +kernel))) (goodIn_sub (fun _ h => List.mem_cons_of_mem _ (List.mem_append_right _ h)) (by decide +kernel))
set_option maxRecDepth 20000 in
theorem gL_fill_X5_fill : GoodIn wsL_fill (wsV RL 25 RX5 yX5_fill wsX5_fill) := goodIn_app (goodIn_of _ (by decide +kernel)) ggL_fill_X5_fill
theorem dL_fill_0 : decode cL_fill 0 = .ok (.aload 5, 2) := by decide +kernel
theorem dL_fill_2 : decode cL_fill 2 = .ok (.iconst 0, 1) := by decide +kernel
theorem dL_fill_3 : decode cL_fill 3 = .ok (.aload_n 0, 1) := by decide +kernel
theorem dL_fill_4 : decode cL_fill 4 = .ok (.iload_n 1, 1) := by decide +kernel
theorem dL_fill_5 : decode cL_fill 5 = .ok (.iload_n 2, 1) := by decide +kernel
theorem dL_fill_6 : decode cL_fill 6 = .ok (.iload_n 3, 1) := by decide +kernel
theorem dL_fill_7 : decode cL_fill 7 = .ok (.iload 4, 2) := by decide +kernel
theorem dL_fill_9 : decode cL_fill 9 = .ok (.invokevirtual 25, 3) := by decide +kernel
theorem dL_fill_12 : decode cL_fill 12 = .ok (.i2l, 1) := by decide +kernel
theorem dL_fill_13 : decode cL_fill 13 = .ok (.lastore, 1) := by decide +kernel
theorem dL_fill_14 : decode cL_fill 14 = .ok (.goto 15, 3) := by decide +kernel
theorem dL_fill_17 : decode cL_fill 17 = .ok (.astore 6, 2) := by decide +kernel
theorem dL_fill_19 : decode cL_fill 19 = .ok (.iconst 1, 1) := by decide +kernel
theorem dL_fill_20 : decode cL_fill 20 = .ok (.ireturn, 1) := by decide +kernel
theorem dL_fill_21 : decode cL_fill 21 = .ok (.astore 6, 2) := by decide +kernel
theorem dL_fill_23 : decode cL_fill 23 = .ok (.iconst 2, 1) := by decide +kernel
theorem dL_fill_24 : decode cL_fill 24 = .ok (.ireturn, 1) := by decide +kernel
theorem dL_fill_25 : decode cL_fill 25 = .ok (.astore 6, 2) := by decide +kernel
theorem dL_fill_27 : decode cL_fill 27 = .ok (.iconst 3, 1) := by decide +kernel
theorem dL_fill_28 : decode cL_fill 28 = .ok (.ireturn, 1) := by decide +kernel
theorem dL_fill_29 : decode cL_fill 29 = .ok (.iconst 0, 1) := by decide +kernel
theorem dL_fill_30 : decode cL_fill 30 = .ok (.ireturn, 1) := by decide +kernel
set_option maxRecDepth 20000 in
theorem ggL_move_X5_move : GoodIn wsL_move wsX5_move := goodIn_ca (goodIn_ca (goodIn_ca (goodIn_r _ [8, 9, 10, 11, 12, 13, 14, 15, 16, 17, 18, 19, 20, 21, 22, 23, 24, 25, 26, 7, 27, 28, 29, 30, 31, 32, 33, 34, 35, 36, 37, 38, 39, 40, 41, 42, 43, 44, 45, 46, 47, 48, 49, 50, 51, 52, 53, 54, 55, 56, 57, 58, 59, 60, 61, 62, 63, 64, 65, 66, 67, 68, 69, 70, 71, 72, 73, 74, 75, 76, 77, 78, 79, 80, 81, 82, 83, 84, 85, 86, 87, 88, 89, 90, 91, 92, 93, 94, 95, 96, 97, 98, 99, 100, 101, 102, 103, 104, 105, 106, 107, 108, 109, 110, 111, 112, 113, 114, 115, 116, 117, 118, 119, 120, 121, 122, 123, 124, 125, 126, 127, 128, 129, 130, 131, 132, 133, 134, 135, 136, 137, 138, 139, 140, 141, 142, 143, 144, 145, 146, 147, 148, 149, 150, 151, 152, 153, 154, 155, 156, 157, 158, 159, 160, 161, 162, 163, 164, 165, 166, 167, 168, 169, 170, 171, 172, 173, 174, 175, 176, 177, 178, 179, 180, 181, 182, 183, 184, 185, 186, 187, 188, 189, 190] (by decide +kernel) (by decide +kernel)) (goodIn_sub (fun _ h => List.mem_cons_of_mem _ (List.mem_append_left _ (List.mem_append_left _ (List.mem_append_right _ h)))) (by decide +kernel))) (goodIn_sub (fun _ h => List.mem_cons_of_mem _ (List.mem_append_left _ (List.mem_append_right _ h))) (by decide +kernel))) (goodIn_sub (fun _ h => List.mem_cons_of_mem _ (List.mem_append_right _ h)) (by decide +kernel))
set_option maxRecDepth 20000 in
theorem gL_move_X5_move : GoodIn wsL_move (wsV RL 31 RX5 yX5_move wsX5_move) := goodIn_app (goodIn_of _ (by decide +kernel)) ggL_move_X5_move
theorem dL_move_0 : decode cL_move 0 = .ok (.aload 4, 2) := by decide +kernel
theorem dL_move_2 : decode cL_move 2 = .ok (.iconst 0, 1) := by decide +kernel
theorem dL_move_3 : decode cL_move 3 = .ok (.aload_n 0, 1) := by decide +kernel
theorem dL_move_4 : decode cL_move 4 = .ok (.iload_n 1, 1) := by decide +kernel
theorem dL_move_5 : decode cL_move 5 = .ok (.iload_n 2, 1) := by decide +kernel
theorem dL_move_6 : decode cL_move 6 = .ok (.iload_n 3, 1) := by decide +kernel
theorem dL_move_7 : decode cL_move 7 = .ok (.invokevirtual 31, 3) := by decide +kernel
theorem dL_move_10 : decode cL_move 10 = .ok (.i2l, 1) := by decide +kernel
theorem dL_move_11 : decode cL_move 11 = .ok (.lastore, 1) := by decide +kernel
theorem dL_move_12 : decode cL_move 12 = .ok (.goto 15, 3) := by decide +kernel
theorem dL_move_15 : decode cL_move 15 = .ok (.astore 5, 2) := by decide +kernel
theorem dL_move_17 : decode cL_move 17 = .ok (.iconst 1, 1) := by decide +kernel
theorem dL_move_18 : decode cL_move 18 = .ok (.ireturn, 1) := by decide +kernel
theorem dL_move_19 : decode cL_move 19 = .ok (.astore 5, 2) := by decide +kernel
theorem dL_move_21 : decode cL_move 21 = .ok (.iconst 2, 1) := by decide +kernel
theorem dL_move_22 : decode cL_move 22 = .ok (.ireturn, 1) := by decide +kernel
theorem dL_move_23 : decode cL_move 23 = .ok (.astore 5, 2) := by decide +kernel
theorem dL_move_25 : decode cL_move 25 = .ok (.iconst 3, 1) := by decide +kernel
theorem dL_move_26 : decode cL_move 26 = .ok (.ireturn, 1) := by decide +kernel
theorem dL_move_27 : decode cL_move 27 = .ok (.iconst 0, 1) := by decide +kernel
theorem dL_move_28 : decode cL_move 28 = .ok (.ireturn, 1) := by decide +kernel
set_option maxRecDepth 20000 in
theorem ggL_count_X5_count : GoodIn wsL_count wsX5_count := goodIn_ca (goodIn_ca (goodIn_ca (goodIn_r _ [8, 9, 10, 11, 12, 13, 14, 15, 7, 16, 17, 18, 19, 20, 21, 22, 23, 24, 25, 26, 27, 28, 29, 30, 31, 32, 33, 34, 35, 36, 37, 38, 39, 40, 41, 42, 43, 44, 45, 46, 47, 48, 49, 50, 51, 52, 53, 54, 55, 56, 57, 58, 59, 60, 61, 62, 63, 64, 65, 66, 67, 68, 69, 70, 71, 72, 73, 74, 75, 76, 77, 78, 79, 80, 81, 82, 83, 84, 85, 86, 87, 88, 89, 90, 91, 92, 93, 94, 95, 96, 97, 98, 99, 100, 101, 102, 103, 104, 105, 106, 107, 108, 109, 110, 111, 112, 113, 114, 115, 116, 117, 118, 119, 120, 121, 122, 123, 124, 125, 126, 127, 128, 129, 130, 131, 132, 133, 134, 135, 136, 137, 138, 139, 140, 141, 142, 143, 144, 145, 146, 147, 148, 149, 150, 151, 152, 153, 154, 155, 156, 157, 158, 159, 160, 161] (by decide +kernel) (by decide +kernel)) (goodIn_sub (fun _ h => List.mem_cons_of_mem _ (List.mem_append_left _ (List.mem_append_left _ (List.mem_append_right _ h)))) (by decide +kernel))) (goodIn_sub (fun _ h => List.mem_cons_of_mem _ (List.mem_append_left _ (List.mem_append_right _ h))) (by decide +kernel))) (goodIn_sub (fun _ h => List.mem_cons_of_mem _ (List.mem_append_right _ h)) (by decide +kernel))
set_option maxRecDepth 20000 in
theorem gL_count_X5_count : GoodIn wsL_count (wsV RL 35 RX5 yX5_count wsX5_count) := goodIn_app (goodIn_of _ (by decide +kernel)) ggL_count_X5_count
theorem dL_count_0 : decode cL_count 0 = .ok (.aload_n 3, 1) := by decide +kernel
theorem dL_count_1 : decode cL_count 1 = .ok (.iconst 0, 1) := by decide +kernel
theorem dL_count_2 : decode cL_count 2 = .ok (.aload_n 0, 1) := by decide +kernel
theorem dL_count_3 : decode cL_count 3 = .ok (.iload_n 1, 1) := by decide +kernel
theorem dL_count_4 : decode cL_count 4 = .ok (.iload_n 2, 1) := by decide +kernel
theorem dL_count_5 : decode cL_count 5 = .ok (.invokevirtual 35, 3) := by decide +kernel
theorem dL_count_8 : decode cL_count 8 = .ok (.i2l, 1) := by decide +kernel
theorem dL_count_9 : decode cL_count 9 = .ok (.lastore, 1) := by decide +kernel
theorem dL_count_10 : decode cL_count 10 = .ok (.goto 15, 3) := by decide +kernel
theorem dL_count_13 : decode cL_count 13 = .ok (.astore 4, 2) := by decide +kernel
theorem dL_count_15 : decode cL_count 15 = .ok (.iconst 1, 1) := by decide +kernel
theorem dL_count_16 : decode cL_count 16 = .ok (.ireturn, 1) := by decide +kernel
theorem dL_count_17 : decode cL_count 17 = .ok (.astore 4, 2) := by decide +kernel
theorem dL_count_19 : decode cL_count 19 = .ok (.iconst 2, 1) := by decide +kernel
theorem dL_count_20 : decode cL_count 20 = .ok (.ireturn, 1) := by decide +kernel
theorem dL_count_21 : decode cL_count 21 = .ok (.astore 4, 2) := by decide +kernel
theorem dL_count_23 : decode cL_count 23 = .ok (.iconst 3, 1) := by decide +kernel
theorem dL_count_24 : decode cL_count 24 = .ok (.ireturn, 1) := by decide +kernel
theorem dL_count_25 : decode cL_count 25 = .ok (.iconst 0, 1) := by decide +kernel
theorem dL_count_26 : decode cL_count 26 = .ok (.ireturn, 1) := by decide +kernel
set_option maxRecDepth 20000 in
theorem ggL_setPeople_X5_setPeople : GoodIn wsL_setPeople wsX5_setPeople := goodIn_ca (goodIn_ca (goodIn_r _ [7, 8, 9, 10, 11, 12, 13, 6, 14, 15, 16, 17, 18, 19, 20, 21, 22, 23, 24, 25, 26, 27, 28, 29, 30, 31, 32, 33, 34, 35, 36, 37, 38, 39, 40, 41, 42, 43, 44, 45, 46, 47, 48, 49, 50, 51, 52, 53, 54, 55, 56, 57, 58, 59, 60, 61] (by decide +kernel) (by decide +kernel)) (goodIn_sub (fun _ h => List.mem_cons_of_mem _ (List.mem_append_left _ (List.mem_append_right _ h))) (by decide +kernel))) (goodIn_sub (fun _ h => List.mem_cons_of_mem _ (List.mem_append_right _ h)) (by decide +kernel))
set_option maxRecDepth 20000 in
theorem gL_setPeople_X5_setPeople : GoodIn wsL_setPeople (wsV RL 39 RX5 yX5_setPeople wsX5_setPeople) := goodIn_app (goodIn_of _ (by decide +kernel)) ggL_setPeople_X5_setPeople
theorem dL_setPeople_0 : decode cL_setPeople 0 = .ok (.aload_n 3, 1) := by decide +kernel
theorem dL_setPeople_1 : decode cL_setPeople 1 = .ok (.iconst 0, 1) := by decide +kernel
theorem dL_setPeople_2 : decode cL_setPeople 2 = .ok (.aload_n 0, 1) := by decide +kernel
theorem dL_setPeople_3 : decode cL_setPeople 3 = .ok (.iload_n 1, 1) := by decide +kernel
theorem dL_setPeople_4 : decode cL_setPeople 4 = .ok (.iload_n 2, 1) := by decide +kernel
theorem dL_setPeople_5 : decode cL_setPeople 5 = .ok (.invokevirtual 39, 3) := by decide +kernel
theorem dL_setPeople_8 : decode cL_setPeople 8 = .ok (.i2l, 1) := by decide +kernel
theorem dL_setPeople_9 : decode cL_setPeople 9 = .ok (.lastore, 1) := by decide +kernel
theorem dL_setPeople_10 : decode cL_setPeople 10 = .ok (.goto 11, 3) := by decide +kernel
theorem dL_setPeople_13 : decode cL_setPeople 13 = .ok (.astore 4, 2) := by decide +kernel
theorem dL_setPeople_15 : decode cL_setPeople 15 = .ok (.iconst 1, 1) := by decide +kernel
theorem dL_setPeople_16 : decode cL_setPeople 16 = .ok (.ireturn, 1) := by decide +kernel
theorem dL_setPeople_17 : decode cL_setPeople 17 = .ok (.astore 4, 2) := by decide +kernel
theorem dL_setPeople_19 : decode cL_setPeople 19 = .ok (.iconst 2, 1) := by decide +kernel
theorem dL_setPeople_20 : decode cL_setPeople 20 = .ok (.ireturn, 1) := by decide +kernel
theorem dL_setPeople_21 : decode cL_setPeople 21 = .ok (.iconst 0, 1) := by decide +kernel
theorem dL_setPeople_22 : decode cL_setPeople 22 = .ok (.ireturn, 1) := by decide +kernel
set_option maxRecDepth 20000 in
theorem ggL_pass_X5_pass : GoodIn wsL_pass wsX5_pass := goodIn_ca (goodIn_ca (goodIn_r _ [7, 8, 9, 10, 11, 12, 6, 13, 14, 15, 16, 17, 18, 19, 20, 21, 22, 23, 24, 25, 26, 27, 28, 29, 30, 31, 32, 33, 34, 35, 36, 37, 38, 39, 40, 41, 42, 43, 44, 45, 46, 47, 48, 49, 50, 51, 52, 53, 54, 55, 56, 57, 58, 59, 60, 61, 62, 63, 64, 65, 66, 67, 68, 69, 70, 71, 72, 73, 74, 75, 76, 77, 78, 79, 80, 81, 82, 83, 84, 85, 86, 87, 88, 89, 90, 91, 92, 93, 94, 95, 96, 97, 98, 99, 100, 101, 102, 103, 104, 105, 106, 107, 108, 109, 110, 111, 112, 113, 114, 115, 116, 117, 118, 119, 120, 121, 122, 123, 124, 125, 126, 127, 128, 129, 130, 131, 132, 133, 134, 135, 136, 137, 138, 139, 140, 141, 142, 143, 144, 145, 146, 147, 148, 149, 150, 151, 152, 153, 154, 155, 156, 157, 158, 159, 160, 161, 162, 163, 164, 165, 166, 167, 168, 169, 170, 171, 172, 173, 174, 175, 176, 177, 178, 179, 180, 181, 182, 183, 184, 185, 186, 187, 188, 189, 190, 191, 192, 193, 194, 195, 196, 197, 198, 199, 200, 201, 202, 203, 204, 205, 206] (by decide +kernel) (by decide +kernel)) (goodIn_sub (fun _ h => List.mem_cons_of_mem _ (List.mem_append_left _ (List.mem_append_right _ h))) (by decide +kernel))) (goodIn_sub (fun _ h => List.mem_cons_of_mem _ (List.mem_append_right _ h)) (by decide +kernel))
set_option maxRecDepth 20000 in
theorem gL_pass_X5_pass : GoodIn wsL_pass (wsV RL 42 RX5 yX5_pass wsX5_pass) := goodIn_app (goodIn_of _ (by decide +kernel)) ggL_pass_X5_pass
theorem dL_pass_0 : decode cL_pass 0 = .ok (.aload_n 2, 1) := by decide +kernel
theorem dL_pass_1 : decode cL_pass 1 = .ok (.iconst 0, 1) := by decide +kernel
theorem dL_pass_2 : decode cL_pass 2 = .ok (.aload_n 0, 1) := by decide +kernel
theorem dL_pass_3 : decode cL_pass 3 = .ok (.iload_n 1, 1) := by decide +kernel
theorem dL_pass_4 : decode cL_pass 4 = .ok (.invokevirtual 42, 3) := by decide +kernel
theorem dL_pass_7 : decode cL_pass 7 = .ok (.i2l, 1) := by decide +kernel
theorem dL_pass_8 : decode cL_pass 8 = .ok (.lastore, 1) := by decide +kernel
theorem dL_pass_9 : decode cL_pass 9 = .ok (.goto 9, 3) := by decide +kernel
theorem dL_pass_12 : decode cL_pass 12 = .ok (.astore_n 3, 1) := by decide +kernel
theorem dL_pass_13 : decode cL_pass 13 = .ok (.iconst 1, 1) := by decide +kernel
theorem dL_pass_14 : decode cL_pass 14 = .ok (.ireturn, 1) := by decide +kernel
theorem dL_pass_15 : decode cL_pass 15 = .ok (.astore_n 3, 1) := by decide +kernel
theorem dL_pass_16 : decode cL_pass 16 = .ok (.iconst 2, 1) := by decide +kernel
theorem dL_pass_17 : decode cL_pass 17 = .ok (.ireturn, 1) := by decide +kernel
theorem dL_pass_18 : decode cL_pass 18 = .ok (.iconst 0, 1) := by decide +kernel
theorem dL_pass_19 : decode cL_pass 19 = .ok (.ireturn, 1) := by decide +kernel
set_option maxRecDepth 20000 in
theorem ggL_nextCrew_X5_nextCrew : GoodIn wsL_nextCrew wsX5_nextCrew := goodIn_ca (goodIn_r _ [6, 7, 8, 9, 10, 11, 12, 13, 14, 15, 16] (by decide +kernel) (by decide +kernel)) (goodIn_sub (fun _ h => List.mem_cons_of_mem _ (List.mem_append_right _ h)) (by decide +kernel))
set_option maxRecDepth 20000 in
theorem gL_nextCrew_X5_nextCrew : GoodIn wsL_nextCrew (wsV RL 46 RX5 yX5_nextCrew wsX5_nextCrew) := goodIn_app (goodIn_of _ (by decide +kernel)) ggL_nextCrew_X5_nextCrew
theorem dL_nextCrew_0 : decode cL_nextCrew 0 = .ok (.aload_n 1, 1) := by decide +kernel
theorem dL_nextCrew_1 : decode cL_nextCrew 1 = .ok (.iconst 0, 1) := by decide +kernel
theorem dL_nextCrew_2 : decode cL_nextCrew 2 = .ok (.aload_n 0, 1) := by decide +kernel
theorem dL_nextCrew_3 : decode cL_nextCrew 3 = .ok (.invokevirtual 46, 3) := by decide +kernel
theorem dL_nextCrew_6 : decode cL_nextCrew 6 = .ok (.i2l, 1) := by decide +kernel
theorem dL_nextCrew_7 : decode cL_nextCrew 7 = .ok (.lastore, 1) := by decide +kernel
theorem dL_nextCrew_8 : decode cL_nextCrew 8 = .ok (.goto 6, 3) := by decide +kernel
theorem dL_nextCrew_11 : decode cL_nextCrew 11 = .ok (.astore_n 2, 1) := by decide +kernel
theorem dL_nextCrew_12 : decode cL_nextCrew 12 = .ok (.iconst 1, 1) := by decide +kernel
theorem dL_nextCrew_13 : decode cL_nextCrew 13 = .ok (.ireturn, 1) := by decide +kernel
theorem dL_nextCrew_14 : decode cL_nextCrew 14 = .ok (.iconst 0, 1) := by decide +kernel
theorem dL_nextCrew_15 : decode cL_nextCrew 15 = .ok (.ireturn, 1) := by decide +kernel
set_option maxRecDepth 20000 in
theorem ggL_hunger_X5_hunger : GoodIn wsL_hunger wsX5_hunger := goodIn_ca (goodIn_r _ [6, 7, 8, 9, 10, 11, 12, 5, 13, 14, 15, 16, 17, 18, 19, 20, 21, 22, 23, 24, 25, 26, 27, 28, 29, 30, 31, 32, 33, 34, 35, 36, 37, 38, 39, 40, 41, 42, 43, 44, 45, 46, 47, 48, 49, 50, 51, 52, 53, 54, 55] (by decide +kernel) (by decide +kernel)) (goodIn_sub (fun _ h => List.mem_cons_of_mem _ (List.mem_append_right _ h)) (by decide +kernel))
set_option maxRecDepth 20000 in
theorem gL_hunger_X5_hunger : GoodIn wsL_hunger (wsV RL 50 RX5 yX5_hunger wsX5_hunger) := goodIn_app (goodIn_of _ (by decide +kernel)) ggL_hunger_X5_hunger
theorem dL_hunger_0 : decode cL_hunger 0 = .ok (.aload_n 2, 1) := by decide +kernel
theorem dL_hunger_1 : decode cL_hunger 1 = .ok (.iconst 0, 1) := by decide +kernel
theorem dL_hunger_2 : decode cL_hunger 2 = .ok (.aload_n 0, 1) := by decide +kernel
theorem dL_hunger_3 : decode cL_hunger 3 = .ok (.iload_n 1, 1) := by decide +kernel
theorem dL_hunger_4 : decode cL_hunger 4 = .ok (.invokevirtual 50, 3) := by decide +kernel
theorem dL_hunger_7 : decode cL_hunger 7 = .ok (.i2l, 1) := by decide +kernel
theorem dL_hunger_8 : decode cL_hunger 8 = .ok (.lastore, 1) := by decide +kernel
theorem dL_hunger_9 : decode cL_hunger 9 = .ok (.goto 6, 3) := by decide +kernel
theorem dL_hunger_12 : decode cL_hunger 12 = .ok (.astore_n 3, 1) := by decide +kernel
theorem dL_hunger_13 : decode cL_hunger 13 = .ok (.iconst 1, 1) := by decide +kernel
theorem dL_hunger_14 : decode cL_hunger 14 = .ok (.ireturn, 1) := by decide +kernel
theorem dL_hunger_15 : decode cL_hunger 15 = .ok (.iconst 0, 1) := by decide +kernel
theorem dL_hunger_16 : decode cL_hunger 16 = .ok (.ireturn, 1) := by decide +kernel
set_option maxRecDepth 20000 in
theorem ggL_amount_X5_amount : GoodIn wsL_amount wsX5_amount := goodIn_ca (goodIn_r _ [6, 7, 8, 9, 10, 11, 12, 5, 13, 14, 15, 16, 17, 18, 19, 20, 21, 22, 23, 24, 25, 26, 27, 28, 29, 30, 31, 32, 33, 34, 35, 36, 37, 38, 39, 40, 41, 42, 43, 44, 45, 46, 47, 48, 49, 50, 51, 52, 53, 54, 55, 56] (by decide +kernel) (by decide +kernel)) (goodIn_sub (fun _ h => List.mem_cons_of_mem _ (List.mem_append_right _ h)) (by decide +kernel))
set_option maxRecDepth 20000 in
theorem gL_amount_X5_amount : GoodIn wsL_amount (wsV RL 53 RX5 yX5_amount wsX5_amount) := goodIn_app (goodIn_of _ (by decide +kernel)) ggL_amount_X5_amount
theorem dL_amount_0 : decode cL_amount 0 = .ok (.aload_n 2, 1) := by decide +kernel
theorem dL_amount_1 : decode cL_amount 1 = .ok (.iconst 0, 1) := by decide +kernel
theorem dL_amount_2 : decode cL_amount 2 = .ok (.aload_n 0, 1) := by decide +kernel
theorem dL_amount_3 : decode cL_amount 3 = .ok (.iload_n 1, 1) := by decide +kernel
theorem dL_amount_4 : decode cL_amount 4 = .ok (.invokevirtual 53, 3) := by decide +kernel
theorem dL_amount_7 : decode cL_amount 7 = .ok (.i2l, 1) := by decide +kernel
theorem dL_amount_8 : decode cL_amount 8 = .ok (.lastore, 1) := by decide +kernel
theorem dL_amount_9 : decode cL_amount 9 = .ok (.goto 6, 3) := by decide +kernel
theorem dL_amount_12 : decode cL_amount 12 = .ok (.astore_n 3, 1) := by decide +kernel
theorem dL_amount_13 : decode cL_amount 13 = .ok (.iconst 1, 1) := by decide +kernel
theorem dL_amount_14 : decode cL_amount 14 = .ok (.ireturn, 1) := by decide +kernel
theorem dL_amount_15 : decode cL_amount 15 = .ok (.iconst 0, 1) := by decide +kernel
theorem dL_amount_16 : decode cL_amount 16 = .ok (.ireturn, 1) := by decide +kernel
set_option maxRecDepth 20000 in
theorem ggL_about_X5_about : GoodIn wsL_about wsX5_about := goodIn_ca (goodIn_r _ [6, 7, 8, 9, 10, 11, 12, 13, 14, 5, 15, 16, 17, 18, 19, 20, 21, 22, 23, 24, 25, 26, 27, 28, 29, 30, 31, 32, 33, 34, 35, 36, 37, 38, 39, 40, 41, 42, 43, 44, 45, 46, 47, 48, 49, 50, 51, 52, 53, 54, 55, 56, 57, 58, 59, 60, 61] (by decide +kernel) (by decide +kernel)) (goodIn_sub (fun _ h => List.mem_cons_of_mem _ (List.mem_append_right _ h)) (by decide +kernel))
set_option maxRecDepth 20000 in
theorem gL_about_X5_about : GoodIn wsL_about (wsV RL 56 RX5 yX5_about wsX5_about) := goodIn_app (goodIn_of _ (by decide +kernel)) ggL_about_X5_about
theorem dL_about_0 : decode cL_about 0 = .ok (.aload_n 2, 1) := by decide +kernel
theorem dL_about_1 : decode cL_about 1 = .ok (.iconst 0, 1) := by decide +kernel
theorem dL_about_2 : decode cL_about 2 = .ok (.aload_n 0, 1) := by decide +kernel
theorem dL_about_3 : decode cL_about 3 = .ok (.iload_n 1, 1) := by decide +kernel
theorem dL_about_4 : decode cL_about 4 = .ok (.invokevirtual 56, 3) := by decide +kernel
theorem dL_about_7 : decode cL_about 7 = .ok (.i2l, 1) := by decide +kernel
theorem dL_about_8 : decode cL_about 8 = .ok (.lastore, 1) := by decide +kernel
theorem dL_about_9 : decode cL_about 9 = .ok (.goto 6, 3) := by decide +kernel
theorem dL_about_12 : decode cL_about 12 = .ok (.astore_n 3, 1) := by decide +kernel
theorem dL_about_13 : decode cL_about 13 = .ok (.iconst 1, 1) := by decide +kernel
theorem dL_about_14 : decode cL_about 14 = .ok (.ireturn, 1) := by decide +kernel
theorem dL_about_15 : decode cL_about 15 = .ok (.iconst 0, 1) := by decide +kernel
theorem dL_about_16 : decode cL_about 16 = .ok (.ireturn, 1) := by decide +kernel
set_option maxRecDepth 20000 in
theorem ggL_stock_X5_stock : GoodIn wsL_stock wsX5_stock := goodIn_ca (goodIn_r _ [6, 7, 8, 9, 10, 11, 12, 5, 13, 14, 15, 16, 17, 18, 19, 20, 21, 22, 23, 24, 25, 26, 27, 28, 29, 30, 31, 32, 33, 34, 35, 36, 37, 38, 39, 40, 41, 42, 43, 44, 45, 46, 47, 48, 49, 50, 51, 52, 53, 54, 55, 56, 57, 58, 59, 60, 61, 62, 63, 64, 65, 66, 67, 68, 69, 70, 71, 72] (by decide +kernel) (by decide +kernel)) (goodIn_sub (fun _ h => List.mem_cons_of_mem _ (List.mem_append_right _ h)) (by decide +kernel))
set_option maxRecDepth 20000 in
theorem gL_stock_X5_stock : GoodIn wsL_stock (wsV RL 59 RX5 yX5_stock wsX5_stock) := goodIn_app (goodIn_of _ (by decide +kernel)) ggL_stock_X5_stock
theorem dL_stock_0 : decode cL_stock 0 = .ok (.aload_n 3, 1) := by decide +kernel
theorem dL_stock_1 : decode cL_stock 1 = .ok (.iconst 0, 1) := by decide +kernel
theorem dL_stock_2 : decode cL_stock 2 = .ok (.aload_n 0, 1) := by decide +kernel
theorem dL_stock_3 : decode cL_stock 3 = .ok (.iload_n 1, 1) := by decide +kernel
theorem dL_stock_4 : decode cL_stock 4 = .ok (.iload_n 2, 1) := by decide +kernel
theorem dL_stock_5 : decode cL_stock 5 = .ok (.invokevirtual 59, 3) := by decide +kernel
theorem dL_stock_8 : decode cL_stock 8 = .ok (.i2l, 1) := by decide +kernel
theorem dL_stock_9 : decode cL_stock 9 = .ok (.lastore, 1) := by decide +kernel
theorem dL_stock_10 : decode cL_stock 10 = .ok (.goto 7, 3) := by decide +kernel
theorem dL_stock_13 : decode cL_stock 13 = .ok (.astore 4, 2) := by decide +kernel
theorem dL_stock_15 : decode cL_stock 15 = .ok (.iconst 1, 1) := by decide +kernel
theorem dL_stock_16 : decode cL_stock 16 = .ok (.ireturn, 1) := by decide +kernel
theorem dL_stock_17 : decode cL_stock 17 = .ok (.iconst 0, 1) := by decide +kernel
theorem dL_stock_18 : decode cL_stock 18 = .ok (.ireturn, 1) := by decide +kernel
set_option maxRecDepth 20000 in
theorem ggL_stockByJournal_X5_stockByJournal : GoodIn wsL_stockByJournal wsX5_stockByJournal := goodIn_ca (goodIn_r _ [6, 7, 8, 9, 10, 11, 12, 13, 5, 14, 15, 16, 17, 18, 19, 20, 21, 22, 23, 24, 25, 26, 27, 28, 29, 30, 31, 32, 33, 34, 35, 36, 37, 38, 39, 40, 41, 42, 43, 44, 45, 46, 47, 48, 49, 50, 51, 52, 53, 54, 55, 56, 57, 58, 59, 60, 61, 62, 63, 64, 65, 66, 67, 68, 69, 70, 71, 72, 73, 74, 75, 76, 77] (by decide +kernel) (by decide +kernel)) (goodIn_sub (fun _ h => List.mem_cons_of_mem _ (List.mem_append_right _ h)) (by decide +kernel))
set_option maxRecDepth 20000 in
theorem gL_stockByJournal_X5_stockByJournal : GoodIn wsL_stockByJournal (wsV RL 62 RX5 yX5_stockByJournal wsX5_stockByJournal) := goodIn_app (goodIn_of _ (by decide +kernel)) ggL_stockByJournal_X5_stockByJournal
theorem dL_stockByJournal_0 : decode cL_stockByJournal 0 = .ok (.aload_n 3, 1) := by decide +kernel
theorem dL_stockByJournal_1 : decode cL_stockByJournal 1 = .ok (.iconst 0, 1) := by decide +kernel
theorem dL_stockByJournal_2 : decode cL_stockByJournal 2 = .ok (.aload_n 0, 1) := by decide +kernel
theorem dL_stockByJournal_3 : decode cL_stockByJournal 3 = .ok (.iload_n 1, 1) := by decide +kernel
theorem dL_stockByJournal_4 : decode cL_stockByJournal 4 = .ok (.iload_n 2, 1) := by decide +kernel
theorem dL_stockByJournal_5 : decode cL_stockByJournal 5 = .ok (.invokevirtual 62, 3) := by decide +kernel
theorem dL_stockByJournal_8 : decode cL_stockByJournal 8 = .ok (.i2l, 1) := by decide +kernel
theorem dL_stockByJournal_9 : decode cL_stockByJournal 9 = .ok (.lastore, 1) := by decide +kernel
theorem dL_stockByJournal_10 : decode cL_stockByJournal 10 = .ok (.goto 7, 3) := by decide +kernel
theorem dL_stockByJournal_13 : decode cL_stockByJournal 13 = .ok (.astore 4, 2) := by decide +kernel
theorem dL_stockByJournal_15 : decode cL_stockByJournal 15 = .ok (.iconst 1, 1) := by decide +kernel
theorem dL_stockByJournal_16 : decode cL_stockByJournal 16 = .ok (.ireturn, 1) := by decide +kernel
theorem dL_stockByJournal_17 : decode cL_stockByJournal 17 = .ok (.iconst 0, 1) := by decide +kernel
theorem dL_stockByJournal_18 : decode cL_stockByJournal 18 = .ok (.ireturn, 1) := by decide +kernel
set_option maxRecDepth 20000 in
theorem ggL_changeOf_X5_changeOf : GoodIn wsL_changeOf wsX5_changeOf := goodIn_ca (goodIn_r _ [6, 7, 8, 9, 10, 11, 12, 5, 13, 14, 15, 16, 17, 18, 19, 20, 21, 22, 23, 24, 25, 26, 27, 28, 29, 30, 31, 32, 33, 34, 35, 36, 37, 38, 39, 40, 41, 42, 43, 44, 45, 46, 47, 48, 49, 50, 51, 52, 53, 54, 55] (by decide +kernel) (by decide +kernel)) (goodIn_sub (fun _ h => List.mem_cons_of_mem _ (List.mem_append_right _ h)) (by decide +kernel))
set_option maxRecDepth 20000 in
theorem gL_changeOf_X5_changeOf : GoodIn wsL_changeOf (wsV RL 65 RX5 yX5_changeOf wsX5_changeOf) := goodIn_app (goodIn_of _ (by decide +kernel)) ggL_changeOf_X5_changeOf
theorem dL_changeOf_0 : decode cL_changeOf 0 = .ok (.aload_n 2, 1) := by decide +kernel
theorem dL_changeOf_1 : decode cL_changeOf 1 = .ok (.iconst 0, 1) := by decide +kernel
theorem dL_changeOf_2 : decode cL_changeOf 2 = .ok (.aload_n 0, 1) := by decide +kernel
theorem dL_changeOf_3 : decode cL_changeOf 3 = .ok (.iload_n 1, 1) := by decide +kernel
theorem dL_changeOf_4 : decode cL_changeOf 4 = .ok (.invokevirtual 65, 3) := by decide +kernel
theorem dL_changeOf_7 : decode cL_changeOf 7 = .ok (.i2l, 1) := by decide +kernel
theorem dL_changeOf_8 : decode cL_changeOf 8 = .ok (.lastore, 1) := by decide +kernel
theorem dL_changeOf_9 : decode cL_changeOf 9 = .ok (.goto 6, 3) := by decide +kernel
theorem dL_changeOf_12 : decode cL_changeOf 12 = .ok (.astore_n 3, 1) := by decide +kernel
theorem dL_changeOf_13 : decode cL_changeOf 13 = .ok (.iconst 1, 1) := by decide +kernel
theorem dL_changeOf_14 : decode cL_changeOf 14 = .ok (.ireturn, 1) := by decide +kernel
theorem dL_changeOf_15 : decode cL_changeOf 15 = .ok (.iconst 0, 1) := by decide +kernel
theorem dL_changeOf_16 : decode cL_changeOf 16 = .ok (.ireturn, 1) := by decide +kernel
set_option maxRecDepth 20000 in
theorem ggL_lotOf_X5_lotOf : GoodIn wsL_lotOf wsX5_lotOf := goodIn_ca (goodIn_r _ [6, 7, 8, 9, 10, 11, 12, 13, 14, 5, 15, 16, 17, 18, 19, 20, 21, 22, 23, 24, 25, 26, 27, 28, 29, 30, 31, 32, 33, 34, 35, 36, 37, 38, 39, 40, 41, 42, 43, 44, 45, 46, 47, 48, 49, 50, 51, 52, 53, 54, 55, 56, 57, 58, 59, 60, 61, 62] (by decide +kernel) (by decide +kernel)) (goodIn_sub (fun _ h => List.mem_cons_of_mem _ (List.mem_append_right _ h)) (by decide +kernel))
set_option maxRecDepth 20000 in
theorem gL_lotOf_X5_lotOf : GoodIn wsL_lotOf (wsV RL 68 RX5 yX5_lotOf wsX5_lotOf) := goodIn_app (goodIn_of _ (by decide +kernel)) ggL_lotOf_X5_lotOf
theorem dL_lotOf_0 : decode cL_lotOf 0 = .ok (.aload_n 2, 1) := by decide +kernel
theorem dL_lotOf_1 : decode cL_lotOf 1 = .ok (.iconst 0, 1) := by decide +kernel
theorem dL_lotOf_2 : decode cL_lotOf 2 = .ok (.aload_n 0, 1) := by decide +kernel
theorem dL_lotOf_3 : decode cL_lotOf 3 = .ok (.iload_n 1, 1) := by decide +kernel
theorem dL_lotOf_4 : decode cL_lotOf 4 = .ok (.invokevirtual 68, 3) := by decide +kernel
theorem dL_lotOf_7 : decode cL_lotOf 7 = .ok (.i2l, 1) := by decide +kernel
theorem dL_lotOf_8 : decode cL_lotOf 8 = .ok (.lastore, 1) := by decide +kernel
theorem dL_lotOf_9 : decode cL_lotOf 9 = .ok (.goto 6, 3) := by decide +kernel
theorem dL_lotOf_12 : decode cL_lotOf 12 = .ok (.astore_n 3, 1) := by decide +kernel
theorem dL_lotOf_13 : decode cL_lotOf 13 = .ok (.iconst 1, 1) := by decide +kernel
theorem dL_lotOf_14 : decode cL_lotOf 14 = .ok (.ireturn, 1) := by decide +kernel
theorem dL_lotOf_15 : decode cL_lotOf 15 = .ok (.iconst 0, 1) := by decide +kernel
theorem dL_lotOf_16 : decode cL_lotOf 16 = .ok (.ireturn, 1) := by decide +kernel
set_option maxRecDepth 20000 in
theorem ggL_changed_X5_changed : GoodIn wsL_changed wsX5_changed := goodIn_ca (goodIn_r _ [6, 7, 8, 9, 10, 11, 12, 13, 14, 15, 5, 16, 17, 18, 19, 20, 21, 22, 23, 24, 25, 26, 27, 28, 29, 30, 31, 32, 33, 34, 35, 36, 37, 38, 39, 40, 41, 42, 43, 44, 45, 46, 47, 48, 49, 50, 51, 52, 53] (by decide +kernel) (by decide +kernel)) (goodIn_sub (fun _ h => List.mem_cons_of_mem _ (List.mem_append_right _ h)) (by decide +kernel))
set_option maxRecDepth 20000 in
theorem gL_changed_X5_changed : GoodIn wsL_changed (wsV RL 71 RX5 yX5_changed wsX5_changed) := goodIn_app (goodIn_of _ (by decide +kernel)) ggL_changed_X5_changed
theorem dL_changed_0 : decode cL_changed 0 = .ok (.aload_n 3, 1) := by decide +kernel
theorem dL_changed_1 : decode cL_changed 1 = .ok (.iconst 0, 1) := by decide +kernel
theorem dL_changed_2 : decode cL_changed 2 = .ok (.aload_n 0, 1) := by decide +kernel
theorem dL_changed_3 : decode cL_changed 3 = .ok (.iload_n 1, 1) := by decide +kernel
theorem dL_changed_4 : decode cL_changed 4 = .ok (.iload_n 2, 1) := by decide +kernel
theorem dL_changed_5 : decode cL_changed 5 = .ok (.invokevirtual 71, 3) := by decide +kernel
theorem dL_changed_8 : decode cL_changed 8 = .ok (.i2l, 1) := by decide +kernel
theorem dL_changed_9 : decode cL_changed 9 = .ok (.lastore, 1) := by decide +kernel
theorem dL_changed_10 : decode cL_changed 10 = .ok (.goto 7, 3) := by decide +kernel
theorem dL_changed_13 : decode cL_changed 13 = .ok (.astore 4, 2) := by decide +kernel
theorem dL_changed_15 : decode cL_changed 15 = .ok (.iconst 1, 1) := by decide +kernel
theorem dL_changed_16 : decode cL_changed 16 = .ok (.ireturn, 1) := by decide +kernel
theorem dL_changed_17 : decode cL_changed 17 = .ok (.iconst 0, 1) := by decide +kernel
theorem dL_changed_18 : decode cL_changed 18 = .ok (.ireturn, 1) := by decide +kernel
set_option maxRecDepth 20000 in
theorem ggL_law_X5_init : GoodIn wsL_law wsX5_init := goodIn_r _ [9, 10, 11, 12, 13, 14, 15, 16, 17, 18, 19, 20, 21, 22, 23, 24, 25, 26, 27, 28, 29, 30, 31, 32, 33, 34, 35, 36, 37, 38, 39, 40, 41, 42, 43, 44, 45, 46, 47, 48, 49, 50, 51, 52, 53, 54, 55, 56, 57, 58, 59, 60, 61, 62, 63, 64, 65, 66, 67, 68, 69, 70, 71, 72, 73, 74, 75, 76, 77, 78, 79, 80, 81, 82, 83, 84, 85, 86, 87, 88, 89, 90, 91, 92, 93, 94, 95, 96, 97, 98, 99, 100, 101, 102, 103, 104, 105, 106, 107, 108, 109, 110, 111, 112, 113, 114, 115, 116, 117, 118, 119, 120, 641, 642, 643, 612, 613, 614, 615, 616, 617, 618, 644, 645, 646, 647, 648, 649, 650, 651, 652] (by decide +kernel) (by decide +kernel)
set_option maxRecDepth 20000 in
theorem gL_law_X5_init : GoodIn wsL_law (wsX5_init) := ggL_law_X5_init
set_option maxRecDepth 20000 in
theorem ggL_law_X6_init : GoodIn wsL_law wsX6_init := goodIn_r _ [123, 124, 11, 12, 125, 126, 127, 128, 129, 130, 131, 132, 133, 134, 135, 136, 137, 138, 139, 140, 141, 142, 619, 620, 621, 622, 623, 624, 625, 626, 627, 628, 629, 630, 631, 632, 633, 634, 635, 636, 637, 638, 639, 640] (by decide +kernel) (by decide +kernel)
set_option maxRecDepth 20000 in
theorem gL_law_X6_init : GoodIn wsL_law (wsX6_init) := ggL_law_X6_init
set_option maxRecDepth 20000 in
theorem ggL_law_L_setCut : GoodIn wsL_law wsL_setCut := goodIn_ca (goodIn_ca (goodIn_r _ [146, 147, 148, 149, 150, 151, 2, 152, 16, 153, 154, 24, 155, 156, 157, 158, 159, 160, 161, 15, 162, 66, 163, 164, 165, 166, 167, 168, 169, 170, 171, 172, 173, 174, 175, 176, 177, 178, 179, 180, 181, 182, 183, 184, 185, 186, 187, 188, 189, 190, 191, 36, 192, 193, 194, 22, 195, 50, 51, 196, 197, 198, 199, 612, 613, 614, 615, 616, 617, 618, 646, 647, 648, 641, 642, 643, 644, 645] (by decide +kernel) (by decide +kernel)) (goodIn_sub (fun _ h => List.mem_append_left _ (List.mem_append_left _ (List.mem_append_right _ h))) (by decide +kernel))) (goodIn_sub (fun _ h => List.mem_append_left _ (List.mem_append_right _ h)) (by decide +kernel))
set_option maxRecDepth 20000 in
theorem gL_law_L_setCut : GoodIn wsL_law (va_wsS RL 78 yL_setCut wsL_setCut) := goodIn_app (goodIn_of _ (by decide +kernel)) ggL_law_L_setCut
set_option maxRecDepth 20000 in
theorem ggL_law_X6_setCut : GoodIn wsL_law wsX6_setCut := goodIn_r _ [203, 204, 128, 129, 205, 206, 5, 207, 208, 209, 210, 211, 212, 213, 214, 215, 216, 217, 218, 619, 620, 621, 622, 623, 624, 625, 626, 627, 628, 629, 630, 631, 632, 633, 634, 635, 636, 637, 638, 639, 640] (by decide +kernel) (by decide +kernel)
set_option maxRecDepth 20000 in
theorem gL_law_X6_setCut : GoodIn wsL_law (wsV RL 83 RX6 yX6_setCut wsX6_setCut) := goodIn_app (goodIn_of _ (by decide +kernel)) ggL_law_X6_setCut
set_option maxRecDepth 20000 in
theorem ggL_law_X6_thrown : GoodIn wsL_law wsX6_thrown := goodIn_r _ [222, 204, 619, 620, 621, 622, 623, 624, 625, 626, 627, 628, 629, 630, 631, 632, 633, 634, 635, 636, 637, 638, 639, 640] (by decide +kernel) (by decide +kernel)
set_option maxRecDepth 20000 in
theorem gL_law_X6_thrown : GoodIn wsL_law (wsV RL 84 RX6 yX6_thrown wsX6_thrown) := goodIn_app (goodIn_of _ (by decide +kernel)) ggL_law_X6_thrown
set_option maxRecDepth 20000 in
theorem ggL_law_L_setWarm : GoodIn wsL_law wsL_setWarm := goodIn_ca (goodIn_r _ [225, 147, 226, 227, 228, 2, 229, 16, 153, 230, 155, 156, 157, 158, 159, 160, 161, 15, 162, 66, 163, 164, 165, 166, 167, 176, 177, 178, 179, 180, 181, 182, 183, 184, 185, 186, 187, 188, 189, 190, 191, 36, 612, 613, 614, 615, 616, 617, 618, 646, 647, 648, 641, 642, 643] (by decide +kernel) (by decide +kernel)) (goodIn_sub (fun _ h => List.mem_append_left _ (List.mem_append_left _ (List.mem_append_right _ h))) (by decide +kernel))
set_option maxRecDepth 20000 in
theorem gL_law_L_setWarm : GoodIn wsL_law (va_wsS RL 87 yL_setWarm wsL_setWarm) := goodIn_app (goodIn_of _ (by decide +kernel)) ggL_law_L_setWarm
set_option maxRecDepth 20000 in
theorem ggL_law_X6_setWarm : GoodIn wsL_law wsX6_setWarm := goodIn_r _ [234, 204, 126, 205, 206, 5, 207, 208, 209, 210, 619, 620, 621, 622, 623, 624, 625, 626, 627, 628, 629, 630, 631, 632, 633, 634, 635, 636, 637, 638, 639, 640] (by decide +kernel) (by decide +kernel)
set_option maxRecDepth 20000 in
theorem gL_law_X6_setWarm : GoodIn wsL_law (wsV RL 90 RX6 yX6_setWarm wsX6_setWarm) := goodIn_app (goodIn_of _ (by decide +kernel)) ggL_law_X6_setWarm
set_option maxRecDepth 20000 in
theorem ggL_law_L_setFrost : GoodIn wsL_law wsL_setFrost := goodIn_ca (goodIn_r _ [237, 148, 238, 239, 240, 2, 241, 23, 24, 168, 169, 170, 171, 172, 173, 174, 175, 192, 193, 194, 22, 195, 50, 51, 196, 197, 198, 199, 612, 613, 614, 615, 616, 617, 618, 644, 645] (by decide +kernel) (by decide +kernel)) (goodIn_sub (fun _ h => List.mem_append_left _ (List.mem_append_right _ h)) (by decide +kernel))
set_option maxRecDepth 20000 in
theorem gL_law_L_setFrost : GoodIn wsL_law (va_wsS RL 91 yL_setFrost wsL_setFrost) := goodIn_app (goodIn_of _ (by decide +kernel)) ggL_law_L_setFrost
set_option maxRecDepth 20000 in
theorem ggL_law_X6_setFrost : GoodIn wsL_law wsX6_setFrost := goodIn_r _ [245, 204, 246, 130, 211, 212, 5, 213, 208, 209, 210, 247, 248, 249, 250, 218, 619, 620, 621, 622, 623, 624, 625, 626, 627, 628, 629, 630, 631, 632, 633, 634, 635, 636, 637, 638, 639, 640] (by decide +kernel) (by decide +kernel)
set_option maxRecDepth 20000 in
theorem gL_law_X6_setFrost : GoodIn wsL_law (wsV RL 94 RX6 yX6_setFrost wsX6_setFrost) := goodIn_app (goodIn_of _ (by decide +kernel)) ggL_law_X6_setFrost
set_option maxRecDepth 20000 in
theorem ggL_law_L_fill : GoodIn wsL_law wsL_fill := goodIn_ca (goodIn_ca (goodIn_ca (goodIn_r _ [253, 147, 148, 254, 255, 256, 257, 2, 258, 259, 260, 261, 17, 16, 153, 155, 156, 157, 158, 159, 160, 161, 15, 162, 66, 163, 164, 165, 166, 167, 262, 263, 264, 265, 171, 172, 173, 174, 175, 266, 267, 268, 269, 270, 271, 176, 177, 178, 179, 180, 181, 182, 183, 184, 185, 186, 187, 188, 189, 190, 191, 36, 272, 273, 274, 275, 11, 12, 276, 277, 278, 279, 280, 281, 282, 283, 284, 285, 60, 61, 62, 63, 64, 65, 67, 68, 69, 70, 71, 72, 73, 74, 75, 76, 77, 78, 35, 79, 80, 81, 82, 83, 84, 85, 86, 87, 88, 89, 90, 91, 92, 93, 94, 95, 96, 97, 98, 99, 100, 101, 102, 103, 104, 105, 106, 107, 108, 109, 110, 111, 112, 286, 287, 288, 289, 290, 19, 291, 292, 293, 294, 25, 295, 296, 297, 298, 299, 300, 301, 302, 653, 654, 655, 656, 657, 612, 613, 614, 615, 616, 617, 618, 641, 642, 643, 658, 659, 660, 661] (by decide +kernel) (by decide +kernel)) (goodIn_sub (fun _ h => List.mem_append_left _ (List.mem_append_left _ (List.mem_append_right _ h))) (by decide +kernel))) (goodIn_sub (fun _ h => List.mem_append_left _ (List.mem_append_right _ h)) (by decide +kernel))) (goodIn_sub (fun _ h => List.mem_append_right _ h) (by decide +kernel))
set_option maxRecDepth 20000 in
theorem gL_law_L_fill : GoodIn wsL_law (va_wsS RL 95 yL_fill wsL_fill) := goodIn_app (goodIn_of _ (by decide +kernel)) ggL_law_L_fill
set_option maxRecDepth 20000 in
theorem ggL_law_X6_fill : GoodIn wsL_law wsX6_fill := goodIn_r _ [306, 307, 204, 205, 206, 5, 207, 208, 209, 210, 308, 309, 310, 311, 312, 313, 314, 131, 132, 134, 133, 315, 316, 317, 318, 137, 319, 320, 138, 139, 140, 619, 620, 621, 622, 623, 624, 625, 626, 627, 628, 629, 630, 631, 632, 633, 634, 635, 636, 637, 638, 639, 640] (by decide +kernel) (by decide +kernel)
set_option maxRecDepth 20000 in
theorem gL_law_X6_fill : GoodIn wsL_law (wsV RL 98 RX6 yX6_fill wsX6_fill) := goodIn_app (goodIn_of _ (by decide +kernel)) ggL_law_X6_fill
set_option maxRecDepth 20000 in
theorem ggL_law_L_move : GoodIn wsL_law wsL_move := goodIn_ca (goodIn_ca (goodIn_ca (goodIn_r _ [323, 147, 148, 254, 324, 325, 326, 2, 327, 174, 175, 270, 271, 17, 328, 16, 153, 329, 290, 259, 260, 261, 330, 331, 332, 333, 334, 335, 159, 160, 161, 15, 162, 66, 163, 164, 165, 166, 167, 155, 156, 157, 158, 176, 177, 178, 179, 180, 181, 182, 183, 184, 185, 186, 187, 188, 189, 190, 191, 36, 171, 172, 173, 336, 337, 338, 339, 154, 24, 196, 197, 198, 22, 199, 50, 51, 266, 267, 268, 269, 286, 287, 288, 289, 19, 291, 292, 293, 294, 25, 295, 296, 297, 298, 11, 12, 299, 300, 301, 302, 60, 61, 62, 63, 64, 65, 67, 68, 69, 70, 71, 72, 73, 74, 75, 76, 77, 78, 35, 79, 80, 81, 82, 83, 84, 85, 86, 87, 88, 89, 90, 91, 92, 93, 94, 95, 96, 97, 98, 99, 100, 101, 102, 103, 104, 105, 106, 107, 108, 109, 110, 111, 112, 272, 273, 274, 275, 276, 277, 278, 279, 280, 281, 282, 283, 284, 285, 612, 613, 614, 615, 616, 617, 618, 653, 654, 655, 656, 657, 641, 642, 643, 646, 647, 648, 644, 645, 658, 659, 660, 661] (by decide +kernel) (by decide +kernel)) (goodIn_sub (fun _ h => List.mem_append_left _ (List.mem_append_right _ h)) (by decide +kernel))) (goodIn_sub (fun _ h => List.mem_append_right _ h) (by decide +kernel))) (goodIn_sub (fun _ h => List.mem_append_left _ (List.mem_append_left _ (List.mem_append_right _ h))) (by decide +kernel))
set_option maxRecDepth 20000 in
theorem gL_law_L_move : GoodIn wsL_law (va_wsS RL 99 yL_move wsL_move) := goodIn_app (goodIn_of _ (by decide +kernel)) ggL_law_L_move
set_option maxRecDepth 20000 in
theorem ggL_law_X6_move : GoodIn wsL_law wsX6_move := goodIn_r _ [343, 204, 131, 133, 307, 132, 134, 344, 345, 346, 5, 347, 208, 209, 210, 205, 206, 207, 214, 215, 216, 217, 129, 218, 128, 311, 312, 313, 314, 315, 316, 317, 318, 137, 319, 320, 138, 139, 140, 619, 620, 621, 622, 623, 624, 625, 626, 627, 628, 629, 630, 631, 632, 633, 634, 635, 636, 637, 638, 639, 640] (by decide +kernel) (by decide +kernel)
set_option maxRecDepth 20000 in
theorem gL_law_X6_move : GoodIn wsL_law (wsV RL 101 RX6 yX6_move wsX6_move) := goodIn_app (goodIn_of _ (by decide +kernel)) ggL_law_X6_move
set_option maxRecDepth 20000 in
theorem ggL_law_L_count : GoodIn wsL_law wsL_count := goodIn_ca (goodIn_ca (goodIn_ca (goodIn_r _ [350, 147, 148, 254, 351, 352, 353, 2, 354, 17, 328, 329, 290, 332, 333, 334, 335, 159, 160, 161, 15, 162, 66, 163, 164, 165, 166, 167, 171, 172, 173, 174, 175, 176, 177, 178, 179, 180, 181, 182, 183, 184, 185, 186, 187, 188, 189, 190, 191, 36, 336, 337, 338, 339, 270, 271, 154, 24, 196, 197, 198, 22, 199, 50, 51, 286, 287, 288, 289, 19, 291, 292, 293, 294, 25, 295, 296, 297, 298, 11, 12, 299, 300, 301, 302, 60, 61, 62, 63, 64, 65, 67, 68, 69, 70, 71, 72, 73, 74, 75, 76, 77, 78, 35, 79, 80, 81, 82, 83, 84, 85, 86, 87, 88, 89, 90, 91, 92, 93, 94, 95, 96, 97, 98, 99, 100, 101, 102, 103, 104, 105, 106, 107, 108, 109, 110, 111, 112, 612, 613, 614, 615, 616, 617, 618, 653, 654, 655, 656, 657, 641, 642, 643, 646, 647, 648, 644, 645, 658, 659, 660, 661] (by decide +kernel) (by decide +kernel)) (goodIn_sub (fun _ h => List.mem_append_left _ (List.mem_append_left _ (List.mem_append_right _ h))) (by decide +kernel))) (goodIn_sub (fun _ h => List.mem_append_left _ (List.mem_append_right _ h)) (by decide +kernel))) (goodIn_sub (fun _ h => List.mem_append_right _ h) (by decide +kernel))
set_option maxRecDepth 20000 in
theorem gL_law_L_count : GoodIn wsL_law (va_wsS RL 102 yL_count wsL_count) := goodIn_app (goodIn_of _ (by decide +kernel)) ggL_law_L_count
set_option maxRecDepth 20000 in
theorem ggL_law_X6_count : GoodIn wsL_law wsX6_count := goodIn_r _ [358, 131, 204, 133, 344, 345, 346, 5, 347, 307, 208, 209, 210, 214, 215, 216, 217, 129, 218, 128, 315, 316, 317, 318, 137, 319, 320, 138, 139, 140, 619, 620, 621, 622, 623, 624, 625, 626, 627, 628, 629, 630, 631, 632, 633, 634, 635, 636, 637, 638, 639, 640] (by decide +kernel) (by decide +kernel)
set_option maxRecDepth 20000 in
theorem gL_law_X6_count : GoodIn wsL_law (wsV RL 104 RX6 yX6_count wsX6_count) := goodIn_app (goodIn_of _ (by decide +kernel)) ggL_law_X6_count
set_option maxRecDepth 20000 in
theorem ggL_law_L_setPeople : GoodIn wsL_law wsL_setPeople := goodIn_ca (goodIn_ca (goodIn_r _ [361, 147, 148, 362, 363, 364, 2, 365, 18, 366, 367, 368, 369, 370, 371, 159, 160, 161, 15, 162, 66, 163, 164, 165, 166, 167, 171, 172, 173, 174, 175, 176, 177, 178, 179, 180, 181, 182, 183, 184, 185, 186, 187, 188, 189, 190, 191, 36, 612, 613, 614, 615, 616, 617, 618, 649, 650, 651, 652, 641, 642, 643] (by decide +kernel) (by decide +kernel)) (goodIn_sub (fun _ h => List.mem_append_left _ (List.mem_append_left _ (List.mem_append_right _ h))) (by decide +kernel))) (goodIn_sub (fun _ h => List.mem_append_left _ (List.mem_append_right _ h)) (by decide +kernel))
set_option maxRecDepth 20000 in
theorem gL_law_L_setPeople : GoodIn wsL_law (va_wsS RL 105 yL_setPeople wsL_setPeople) := goodIn_app (goodIn_of _ (by decide +kernel)) ggL_law_L_setPeople
set_option maxRecDepth 20000 in
theorem ggL_law_X6_setPeople : GoodIn wsL_law wsX6_setPeople := goodIn_r _ [375, 204, 135, 208, 209, 5, 210, 619, 620, 621, 622, 623, 624, 625, 626, 627, 628, 629, 630, 631, 632, 633, 634, 635, 636, 637, 638, 639, 640] (by decide +kernel) (by decide +kernel)
set_option maxRecDepth 20000 in
theorem gL_law_X6_setPeople : GoodIn wsL_law (wsV RL 107 RX6 yX6_setPeople wsX6_setPeople) := goodIn_app (goodIn_of _ (by decide +kernel)) ggL_law_X6_setPeople
set_option maxRecDepth 20000 in
theorem ggL_law_L_pass : GoodIn wsL_law wsL_pass := goodIn_ca (goodIn_ca (goodIn_r _ [378, 148, 254, 379, 380, 381, 2, 382, 270, 271, 24, 171, 172, 173, 174, 175, 383, 384, 385, 386, 17, 328, 331, 290, 159, 160, 161, 15, 162, 66, 176, 177, 178, 179, 180, 181, 182, 183, 184, 185, 186, 187, 188, 189, 190, 191, 36, 286, 287, 288, 289, 19, 291, 292, 293, 294, 25, 295, 296, 297, 298, 11, 12, 299, 300, 301, 302, 60, 61, 62, 63, 64, 65, 67, 68, 69, 70, 71, 72, 73, 74, 75, 76, 77, 78, 35, 79, 80, 81, 82, 83, 84, 85, 86, 87, 88, 89, 90, 91, 92, 93, 94, 95, 96, 97, 98, 99, 100, 101, 102, 103, 104, 105, 106, 107, 108, 109, 110, 111, 112, 387, 388, 389, 390, 23, 330, 329, 230, 196, 197, 198, 22, 199, 50, 51, 391, 392, 393, 394, 395, 396, 397, 398, 399, 400, 401, 402, 261, 403, 278, 404, 279, 405, 406, 407, 408, 18, 366, 409, 410, 411, 31, 412, 117, 120, 413, 414, 415, 416, 417, 418, 419, 420, 421, 422, 423, 424, 425, 426, 612, 613, 614, 615, 616, 617, 618, 653, 654, 655, 656, 657, 641, 642, 643, 658, 659, 660, 661, 646, 647, 648, 644, 645, 649, 650, 651, 652] (by decide +kernel) (by decide +kernel)) (goodIn_sub (fun _ h => List.mem_append_right _ h) (by decide +kernel))) (goodIn_sub (fun _ h => List.mem_append_left _ (List.mem_append_right _ h)) (by decide +kernel))
set_option maxRecDepth 20000 in
theorem gL_law_L_pass : GoodIn wsL_law (va_wsS RL 108 yL_pass wsL_pass) := goodIn_app (goodIn_of _ (by decide +kernel)) ggL_law_L_pass
set_option maxRecDepth 20000 in
theorem ggL_law_X6_pass : GoodIn wsL_law wsX6_pass := goodIn_r _ [430, 218, 204, 208, 209, 5, 210, 431, 432, 433, 434, 307, 134, 133, 132, 126, 131, 315, 316, 317, 318, 137, 319, 320, 138, 139, 140, 247, 248, 249, 250, 130, 246, 435, 436, 437, 438, 439, 440, 441, 442, 135, 443, 444, 445, 446, 447, 448, 449, 450, 451, 452, 453, 454, 141, 142, 136, 455, 456, 457, 458, 619, 620, 621, 622, 623, 624, 625, 626, 627, 628, 629, 630, 631, 632, 633, 634, 635, 636, 637, 638, 639, 640] (by decide +kernel) (by decide +kernel)
set_option maxRecDepth 20000 in
theorem gL_law_X6_pass : GoodIn wsL_law (wsV RL 111 RX6 yX6_pass wsX6_pass) := goodIn_app (goodIn_of _ (by decide +kernel)) ggL_law_X6_pass
set_option maxRecDepth 20000 in
theorem ggL_law_L_nextCrew : GoodIn wsL_law wsL_nextCrew := goodIn_ca (goodIn_r _ [461, 254, 462, 463, 464, 2, 465, 270, 271, 25, 612, 613, 614, 615, 616, 617, 618] (by decide +kernel) (by decide +kernel)) (goodIn_sub (fun _ h => List.mem_append_right _ h) (by decide +kernel))
set_option maxRecDepth 20000 in
theorem gL_law_L_nextCrew : GoodIn wsL_law (va_wsS RL 112 yL_nextCrew wsL_nextCrew) := goodIn_app (goodIn_of _ (by decide +kernel)) ggL_law_L_nextCrew
set_option maxRecDepth 20000 in
theorem ggL_law_X6_nextCrew : GoodIn wsL_law wsX6_nextCrew := goodIn_r _ [469, 320, 204, 619, 620, 621, 622, 623, 624, 625, 626, 627, 628, 629, 630, 631, 632, 633, 634, 635, 636, 637, 638, 639, 640] (by decide +kernel) (by decide +kernel)
set_option maxRecDepth 20000 in
theorem gL_law_X6_nextCrew : GoodIn wsL_law (wsV RL 115 RX6 yX6_nextCrew wsX6_nextCrew) := goodIn_app (goodIn_of _ (by decide +kernel)) ggL_law_X6_nextCrew
set_option maxRecDepth 20000 in
theorem ggL_law_X5_today : GoodIn wsL_law wsX5_today := goodIn_r _ [473, 24, 612, 613, 614, 615, 616, 617, 618] (by decide +kernel) (by decide +kernel)
set_option maxRecDepth 20000 in
theorem gL_law_X5_today : GoodIn wsL_law (wsV RL 116 RX5 yX5_today wsX5_today) := goodIn_app (goodIn_of _ (by decide +kernel)) ggL_law_X5_today
set_option maxRecDepth 20000 in
theorem ggL_law_X6_today : GoodIn wsL_law wsX6_today := goodIn_r _ [477, 204, 218, 619, 620, 621, 622, 623, 624, 625, 626, 627, 628, 629, 630, 631, 632, 633, 634, 635, 636, 637, 638, 639, 640] (by decide +kernel) (by decide +kernel)
set_option maxRecDepth 20000 in
theorem gL_law_X6_today : GoodIn wsL_law (wsV RL 119 RX6 yX6_today wsX6_today) := goodIn_app (goodIn_of _ (by decide +kernel)) ggL_law_X6_today
set_option maxRecDepth 20000 in
theorem ggL_law_L_hunger : GoodIn wsL_law wsL_hunger := goodIn_ca (goodIn_r _ [480, 147, 481, 482, 483, 2, 484, 18, 366, 418, 368, 369, 370, 371, 159, 160, 161, 15, 162, 66, 163, 164, 165, 166, 167, 176, 177, 178, 179, 180, 181, 182, 183, 184, 185, 186, 187, 188, 189, 190, 191, 36, 612, 613, 614, 615, 616, 617, 618, 649, 650, 651, 652, 641, 642, 643] (by decide +kernel) (by decide +kernel)) (goodIn_sub (fun _ h => List.mem_append_left _ (List.mem_append_left _ (List.mem_append_right _ h))) (by decide +kernel))
set_option maxRecDepth 20000 in
theorem gL_law_L_hunger : GoodIn wsL_law (va_wsS RL 120 yL_hunger wsL_hunger) := goodIn_app (goodIn_of _ (by decide +kernel)) ggL_law_L_hunger
set_option maxRecDepth 20000 in
theorem ggL_law_X6_hunger : GoodIn wsL_law wsX6_hunger := goodIn_r _ [488, 204, 136, 208, 209, 5, 210, 619, 620, 621, 622, 623, 624, 625, 626, 627, 628, 629, 630, 631, 632, 633, 634, 635, 636, 637, 638, 639, 640] (by decide +kernel) (by decide +kernel)
set_option maxRecDepth 20000 in
theorem gL_law_X6_hunger : GoodIn wsL_law (wsV RL 122 RX6 yX6_hunger wsX6_hunger) := goodIn_app (goodIn_of _ (by decide +kernel)) ggL_law_X6_hunger
set_option maxRecDepth 20000 in
theorem ggL_law_X5_lots : GoodIn wsL_law wsX5_lots := goodIn_r _ [492, 17, 159, 160, 161, 15, 162, 66, 612, 613, 614, 615, 616, 617, 618, 641, 642, 643] (by decide +kernel) (by decide +kernel)
set_option maxRecDepth 20000 in
theorem gL_law_X5_lots : GoodIn wsL_law (wsV RL 123 RX5 yX5_lots wsX5_lots) := goodIn_app (goodIn_of _ (by decide +kernel)) ggL_law_X5_lots
set_option maxRecDepth 20000 in
theorem ggL_law_X6_lots : GoodIn wsL_law wsX6_lots := goodIn_r _ [496, 204, 307, 619, 620, 621, 622, 623, 624, 625, 626, 627, 628, 629, 630, 631, 632, 633, 634, 635, 636, 637, 638, 639, 640] (by decide +kernel) (by decide +kernel)
set_option maxRecDepth 20000 in
theorem gL_law_X6_lots : GoodIn wsL_law (wsV RL 126 RX6 yX6_lots wsX6_lots) := goodIn_app (goodIn_of _ (by decide +kernel)) ggL_law_X6_lots
set_option maxRecDepth 20000 in
theorem ggL_law_L_amount : GoodIn wsL_law wsL_amount := goodIn_ca (goodIn_r _ [499, 147, 500, 501, 502, 2, 503, 17, 328, 290, 332, 333, 334, 335, 159, 160, 161, 15, 162, 66, 163, 164, 165, 166, 167, 176, 177, 178, 179, 180, 181, 182, 183, 184, 185, 186, 187, 188, 189, 190, 191, 36, 612, 613, 614, 615, 616, 617, 618, 653, 654, 655, 656, 657, 641, 642, 643] (by decide +kernel) (by decide +kernel)) (goodIn_sub (fun _ h => List.mem_append_left _ (List.mem_append_left _ (List.mem_append_right _ h))) (by decide +kernel))
set_option maxRecDepth 20000 in
theorem gL_law_L_amount : GoodIn wsL_law (va_wsS RL 127 yL_amount wsL_amount) := goodIn_app (goodIn_of _ (by decide +kernel)) ggL_law_L_amount
set_option maxRecDepth 20000 in
theorem ggL_law_X6_amount : GoodIn wsL_law wsX6_amount := goodIn_r _ [507, 133, 508, 509, 510, 5, 511, 204, 344, 345, 346, 347, 307, 208, 209, 210, 619, 620, 621, 622, 623, 624, 625, 626, 627, 628, 629, 630, 631, 632, 633, 634, 635, 636, 637, 638, 639, 640] (by decide +kernel) (by decide +kernel)
set_option maxRecDepth 20000 in
theorem gL_law_X6_amount : GoodIn wsL_law (wsV RL 129 RX6 yX6_amount wsX6_amount) := goodIn_app (goodIn_of _ (by decide +kernel)) ggL_law_X6_amount
set_option maxRecDepth 20000 in
theorem ggL_law_L_about : GoodIn wsL_law wsL_about := goodIn_ca (goodIn_r _ [514, 147, 515, 516, 517, 2, 518, 17, 328, 329, 519, 330, 332, 333, 334, 335, 159, 160, 161, 15, 162, 66, 163, 164, 165, 166, 167, 176, 177, 178, 179, 180, 181, 182, 183, 184, 185, 186, 187, 188, 189, 190, 191, 36, 612, 613, 614, 615, 616, 617, 618, 653, 654, 655, 656, 657, 646, 647, 648, 641, 642, 643] (by decide +kernel) (by decide +kernel)) (goodIn_sub (fun _ h => List.mem_append_left _ (List.mem_append_left _ (List.mem_append_right _ h))) (by decide +kernel))
set_option maxRecDepth 20000 in
theorem gL_law_L_about : GoodIn wsL_law (va_wsS RL 130 yL_about wsL_about) := goodIn_app (goodIn_of _ (by decide +kernel)) ggL_law_L_about
set_option maxRecDepth 20000 in
theorem ggL_law_X6_about : GoodIn wsL_law wsX6_about := goodIn_r _ [523, 131, 132, 508, 509, 510, 5, 511, 204, 344, 345, 346, 347, 307, 208, 209, 210, 619, 620, 621, 622, 623, 624, 625, 626, 627, 628, 629, 630, 631, 632, 633, 634, 635, 636, 637, 638, 639, 640] (by decide +kernel) (by decide +kernel)
set_option maxRecDepth 20000 in
theorem gL_law_X6_about : GoodIn wsL_law (wsV RL 132 RX6 yX6_about wsX6_about) := goodIn_app (goodIn_of _ (by decide +kernel)) ggL_law_X6_about
set_option maxRecDepth 20000 in
theorem ggL_law_L_stock : GoodIn wsL_law wsL_stock := goodIn_ca (goodIn_r _ [526, 147, 527, 528, 529, 2, 530, 17, 328, 290, 155, 156, 157, 158, 16, 159, 160, 161, 15, 162, 66, 163, 164, 165, 166, 167, 262, 263, 264, 265, 176, 177, 178, 179, 180, 181, 182, 183, 184, 185, 186, 187, 188, 189, 190, 191, 36, 531, 532, 533, 261, 534, 278, 404, 279, 612, 613, 614, 615, 616, 617, 618, 653, 654, 655, 656, 657, 641, 642, 643, 646, 647, 648] (by decide +kernel) (by decide +kernel)) (goodIn_sub (fun _ h => List.mem_append_left _ (List.mem_append_left _ (List.mem_append_right _ h))) (by decide +kernel))
set_option maxRecDepth 20000 in
theorem gL_law_L_stock : GoodIn wsL_law (va_wsS RL 133 yL_stock wsL_stock) := goodIn_app (goodIn_of _ (by decide +kernel)) ggL_law_L_stock
set_option maxRecDepth 20000 in
theorem ggL_law_X6_stock : GoodIn wsL_law wsX6_stock := goodIn_r _ [538, 204, 307, 131, 132, 133, 205, 206, 5, 207, 208, 209, 210, 308, 309, 310, 619, 620, 621, 622, 623, 624, 625, 626, 627, 628, 629, 630, 631, 632, 633, 634, 635, 636, 637, 638, 639, 640] (by decide +kernel) (by decide +kernel)
set_option maxRecDepth 20000 in
theorem gL_law_X6_stock : GoodIn wsL_law (wsV RL 135 RX6 yX6_stock wsX6_stock) := goodIn_app (goodIn_of _ (by decide +kernel)) ggL_law_X6_stock
set_option maxRecDepth 20000 in
theorem ggL_law_L_stockByJournal : GoodIn wsL_law wsL_stockByJournal := goodIn_ca (goodIn_r _ [541, 147, 542, 543, 544, 2, 545, 19, 546, 547, 548, 155, 156, 157, 158, 16, 159, 160, 161, 15, 162, 66, 163, 164, 165, 166, 167, 262, 263, 264, 265, 176, 177, 178, 179, 180, 181, 182, 183, 184, 185, 186, 187, 188, 189, 190, 191, 36, 531, 532, 533, 261, 534, 278, 404, 279, 612, 613, 614, 615, 616, 617, 618, 658, 659, 660, 661, 641, 642, 643, 653, 654, 655, 656, 657, 646, 647, 648] (by decide +kernel) (by decide +kernel)) (goodIn_sub (fun _ h => List.mem_append_left _ (List.mem_append_left _ (List.mem_append_right _ h))) (by decide +kernel))
set_option maxRecDepth 20000 in
theorem gL_law_L_stockByJournal : GoodIn wsL_law (va_wsS RL 136 yL_stockByJournal wsL_stockByJournal) := goodIn_app (goodIn_of _ (by decide +kernel)) ggL_law_L_stockByJournal
set_option maxRecDepth 20000 in
theorem ggL_law_X6_stockByJournal : GoodIn wsL_law wsX6_stockByJournal := goodIn_r _ [552, 204, 319, 138, 131, 132, 139, 205, 206, 5, 207, 208, 209, 210, 308, 309, 310, 619, 620, 621, 622, 623, 624, 625, 626, 627, 628, 629, 630, 631, 632, 633, 634, 635, 636, 637, 638, 639, 640] (by decide +kernel) (by decide +kernel)
set_option maxRecDepth 20000 in
theorem gL_law_X6_stockByJournal : GoodIn wsL_law (wsV RL 138 RX6 yX6_stockByJournal wsX6_stockByJournal) := goodIn_app (goodIn_of _ (by decide +kernel)) ggL_law_X6_stockByJournal
set_option maxRecDepth 20000 in
theorem ggL_law_X5_enoughFor : GoodIn wsL_law wsX5_enoughFor := goodIn_r _ [556, 405, 406, 407, 2, 408, 18, 366, 159, 160, 161, 15, 162, 66, 176, 177, 178, 179, 180, 181, 182, 183, 184, 185, 186, 187, 188, 189, 190, 191, 36, 409, 410, 411, 31, 412, 117, 120, 396, 397, 398, 399, 17, 328, 290, 400, 401, 402, 261, 403, 278, 404, 279, 612, 613, 614, 615, 616, 617, 618, 641, 642, 643, 649, 650, 651, 652, 653, 654, 655, 656, 657, 646, 647, 648] (by decide +kernel) (by decide +kernel)
set_option maxRecDepth 20000 in
theorem gL_law_X5_enoughFor : GoodIn wsL_law (wsV RL 139 RX5 yX5_enoughFor wsX5_enoughFor) := goodIn_app (goodIn_of _ (by decide +kernel)) ggL_law_X5_enoughFor
set_option maxRecDepth 20000 in
theorem ggL_law_X6_enoughFor : GoodIn wsL_law wsX6_enoughFor := goodIn_r _ [560, 204, 439, 440, 441, 5, 442, 135, 443, 444, 445, 446, 307, 133, 447, 448, 449, 450, 131, 132, 619, 620, 621, 622, 623, 624, 625, 626, 627, 628, 629, 630, 631, 632, 633, 634, 635, 636, 637, 638, 639, 640] (by decide +kernel) (by decide +kernel)
set_option maxRecDepth 20000 in
theorem gL_law_X6_enoughFor : GoodIn wsL_law (wsV RL 142 RX6 yX6_enoughFor wsX6_enoughFor) := goodIn_app (goodIn_of _ (by decide +kernel)) ggL_law_X6_enoughFor
set_option maxRecDepth 20000 in
theorem ggL_law_X5_entries : GoodIn wsL_law wsX5_entries := goodIn_r _ [564, 19, 159, 160, 161, 15, 162, 66, 612, 613, 614, 615, 616, 617, 618, 641, 642, 643] (by decide +kernel) (by decide +kernel)
set_option maxRecDepth 20000 in
theorem gL_law_X5_entries : GoodIn wsL_law (wsV RL 143 RX5 yX5_entries wsX5_entries) := goodIn_app (goodIn_of _ (by decide +kernel)) ggL_law_X5_entries
set_option maxRecDepth 20000 in
theorem ggL_law_X6_entries : GoodIn wsL_law wsX6_entries := goodIn_r _ [568, 204, 319, 619, 620, 621, 622, 623, 624, 625, 626, 627, 628, 629, 630, 631, 632, 633, 634, 635, 636, 637, 638, 639, 640] (by decide +kernel) (by decide +kernel)
set_option maxRecDepth 20000 in
theorem gL_law_X6_entries : GoodIn wsL_law (wsV RL 146 RX6 yX6_entries wsX6_entries) := goodIn_app (goodIn_of _ (by decide +kernel)) ggL_law_X6_entries
set_option maxRecDepth 20000 in
theorem ggL_law_L_changeOf : GoodIn wsL_law wsL_changeOf := goodIn_ca (goodIn_r _ [571, 147, 572, 573, 574, 2, 575, 19, 546, 548, 576, 577, 578, 579, 159, 160, 161, 15, 162, 66, 163, 164, 165, 166, 167, 176, 177, 178, 179, 180, 181, 182, 183, 184, 185, 186, 187, 188, 189, 190, 191, 36, 612, 613, 614, 615, 616, 617, 618, 658, 659, 660, 661, 641, 642, 643] (by decide +kernel) (by decide +kernel)) (goodIn_sub (fun _ h => List.mem_append_left _ (List.mem_append_left _ (List.mem_append_right _ h))) (by decide +kernel))
set_option maxRecDepth 20000 in
theorem gL_law_L_changeOf : GoodIn wsL_law (va_wsS RL 147 yL_changeOf wsL_changeOf) := goodIn_app (goodIn_of _ (by decide +kernel)) ggL_law_L_changeOf
set_option maxRecDepth 20000 in
theorem ggL_law_X6_changeOf : GoodIn wsL_law wsX6_changeOf := goodIn_r _ [583, 204, 139, 584, 585, 586, 5, 587, 319, 208, 209, 210, 619, 620, 621, 622, 623, 624, 625, 626, 627, 628, 629, 630, 631, 632, 633, 634, 635, 636, 637, 638, 639, 640] (by decide +kernel) (by decide +kernel)
set_option maxRecDepth 20000 in
theorem gL_law_X6_changeOf : GoodIn wsL_law (wsV RL 149 RX6 yX6_changeOf wsX6_changeOf) := goodIn_app (goodIn_of _ (by decide +kernel)) ggL_law_X6_changeOf
set_option maxRecDepth 20000 in
theorem ggL_law_L_lotOf : GoodIn wsL_law wsL_lotOf := goodIn_ca (goodIn_r _ [590, 147, 591, 592, 593, 2, 594, 19, 546, 547, 285, 595, 576, 577, 578, 579, 159, 160, 161, 15, 162, 66, 163, 164, 165, 166, 167, 176, 177, 178, 179, 180, 181, 182, 183, 184, 185, 186, 187, 188, 189, 190, 191, 36, 612, 613, 614, 615, 616, 617, 618, 658, 659, 660, 661, 653, 654, 655, 656, 657, 641, 642, 643] (by decide +kernel) (by decide +kernel)) (goodIn_sub (fun _ h => List.mem_append_left _ (List.mem_append_left _ (List.mem_append_right _ h))) (by decide +kernel))
set_option maxRecDepth 20000 in
theorem gL_law_L_lotOf : GoodIn wsL_law (va_wsS RL 150 yL_lotOf wsL_lotOf) := goodIn_app (goodIn_of _ (by decide +kernel)) ggL_law_L_lotOf
set_option maxRecDepth 20000 in
theorem ggL_law_X6_lotOf : GoodIn wsL_law wsX6_lotOf := goodIn_r _ [599, 204, 138, 140, 584, 585, 586, 5, 587, 319, 208, 209, 210, 619, 620, 621, 622, 623, 624, 625, 626, 627, 628, 629, 630, 631, 632, 633, 634, 635, 636, 637, 638, 639, 640] (by decide +kernel) (by decide +kernel)
set_option maxRecDepth 20000 in
theorem gL_law_X6_lotOf : GoodIn wsL_law (wsV RL 152 RX6 yX6_lotOf wsX6_lotOf) := goodIn_app (goodIn_of _ (by decide +kernel)) ggL_law_X6_lotOf
set_option maxRecDepth 20000 in
theorem ggL_law_L_changed : GoodIn wsL_law wsL_changed := goodIn_ca (goodIn_r _ [602, 148, 603, 604, 605, 2, 606, 174, 175, 19, 546, 607, 595, 548, 171, 172, 173, 159, 160, 161, 15, 162, 66, 176, 177, 178, 179, 180, 181, 182, 183, 184, 185, 186, 187, 188, 189, 190, 191, 36, 612, 613, 614, 615, 616, 617, 618, 658, 659, 660, 661, 641, 642, 643] (by decide +kernel) (by decide +kernel)) (goodIn_sub (fun _ h => List.mem_append_left _ (List.mem_append_right _ h)) (by decide +kernel))
set_option maxRecDepth 20000 in
theorem gL_law_L_changed : GoodIn wsL_law (va_wsS RL 153 yL_changed wsL_changed) := goodIn_app (goodIn_of _ (by decide +kernel)) ggL_law_L_changed
set_option maxRecDepth 20000 in
theorem ggL_law_X6_changed : GoodIn wsL_law wsX6_changed := goodIn_r _ [611, 204, 319, 137, 140, 139, 208, 209, 5, 210, 619, 620, 621, 622, 623, 624, 625, 626, 627, 628, 629, 630, 631, 632, 633, 634, 635, 636, 637, 638, 639, 640] (by decide +kernel) (by decide +kernel)
set_option maxRecDepth 20000 in
theorem gL_law_X6_changed : GoodIn wsL_law (wsV RL 155 RX6 yX6_changed wsX6_changed) := goodIn_app (goodIn_of _ (by decide +kernel)) ggL_law_X6_changed
theorem dL_law_0 : decode cL_law 0 = .ok (.new 8, 3) := by decide +kernel
theorem dL_law_3 : decode cL_law 3 = .ok (.dup, 1) := by decide +kernel
theorem dL_law_4 : decode cL_law 4 = .ok (.invokespecial 74, 3) := by decide +kernel
theorem dL_law_7 : decode cL_law 7 = .ok (.astore_n 1, 1) := by decide +kernel
theorem dL_law_8 : decode cL_law 8 = .ok (.new 75, 3) := by decide +kernel
theorem dL_law_11 : decode cL_law 11 = .ok (.dup, 1) := by decide +kernel
theorem dL_law_12 : decode cL_law 12 = .ok (.invokespecial 77, 3) := by decide +kernel
theorem dL_law_15 : decode cL_law 15 = .ok (.astore_n 2, 1) := by decide +kernel
theorem dL_law_16 : decode cL_law 16 = .ok (.iconst 1, 1) := by decide +kernel
theorem dL_law_17 : decode cL_law 17 = .ok (.newarray .long, 2) := by decide +kernel
theorem dL_law_19 : decode cL_law 19 = .ok (.astore_n 3, 1) := by decide +kernel
theorem dL_law_20 : decode cL_law 20 = .ok (.iconst 0, 1) := by decide +kernel
theorem dL_law_21 : decode cL_law 21 = .ok (.istore 4, 2) := by decide +kernel
theorem dL_law_23 : decode cL_law 23 = .ok (.iload 4, 2) := by decide +kernel
theorem dL_law_25 : decode cL_law 25 = .ok (.aload_n 0, 1) := by decide +kernel
theorem dL_law_26 : decode cL_law 26 = .ok (.arraylength, 1) := by decide +kernel
theorem dL_law_27 : decode cL_law 27 = .ok (.iconst 5, 1) := by decide +kernel
theorem dL_law_28 : decode cL_law 28 = .ok (.isub, 1) := by decide +kernel
theorem dL_law_29 : decode cL_law 29 = .ok (.if_icmp .gt 1310, 3) := by decide +kernel
theorem dL_law_32 : decode cL_law 32 = .ok (.aload_n 0, 1) := by decide +kernel
theorem dL_law_33 : decode cL_law 33 = .ok (.iload 4, 2) := by decide +kernel
theorem dL_law_35 : decode cL_law 35 = .ok (.iaload, 1) := by decide +kernel
theorem dL_law_36 : decode cL_law 36 = .ok (.bipush 31, 2) := by decide +kernel
theorem dL_law_38 : decode cL_law 38 = .ok (.iand, 1) := by decide +kernel
theorem dL_law_39 : decode cL_law 39 = .ok (.tableswitch 1294 0 20 #[97, 184, 275, 350, 442, 522, 590, 658, 714, 758, 771, 827, 840, 896, 952, 1020, 1088, 1101, 1114, 1170, 1226], 97) := by decide +kernel
theorem dL_law_136 : decode cL_law 136 = .ok (.aload_n 1, 1) := by decide +kernel
theorem dL_law_137 : decode cL_law 137 = .ok (.aload_n 0, 1) := by decide +kernel
theorem dL_law_138 : decode cL_law 138 = .ok (.iload 4, 2) := by decide +kernel
theorem dL_law_140 : decode cL_law 140 = .ok (.iconst 1, 1) := by decide +kernel
theorem dL_law_141 : decode cL_law 141 = .ok (.iadd, 1) := by decide +kernel
theorem dL_law_142 : decode cL_law 142 = .ok (.iaload, 1) := by decide +kernel
theorem dL_law_143 : decode cL_law 143 = .ok (.aload_n 0, 1) := by decide +kernel
theorem dL_law_144 : decode cL_law 144 = .ok (.iload 4, 2) := by decide +kernel
theorem dL_law_146 : decode cL_law 146 = .ok (.iconst 2, 1) := by decide +kernel
theorem dL_law_147 : decode cL_law 147 = .ok (.iadd, 1) := by decide +kernel
theorem dL_law_148 : decode cL_law 148 = .ok (.iaload, 1) := by decide +kernel
theorem dL_law_149 : decode cL_law 149 = .ok (.aload_n 0, 1) := by decide +kernel
theorem dL_law_150 : decode cL_law 150 = .ok (.iload 4, 2) := by decide +kernel
theorem dL_law_152 : decode cL_law 152 = .ok (.iconst 3, 1) := by decide +kernel
theorem dL_law_153 : decode cL_law 153 = .ok (.iadd, 1) := by decide +kernel
theorem dL_law_154 : decode cL_law 154 = .ok (.iaload, 1) := by decide +kernel
theorem dL_law_155 : decode cL_law 155 = .ok (.aload_n 3, 1) := by decide +kernel
theorem dL_law_156 : decode cL_law 156 = .ok (.invokestatic 78, 3) := by decide +kernel
theorem dL_law_159 : decode cL_law 159 = .ok (.istore 5, 2) := by decide +kernel
theorem dL_law_161 : decode cL_law 161 = .ok (.aload_n 2, 1) := by decide +kernel
theorem dL_law_162 : decode cL_law 162 = .ok (.aload_n 0, 1) := by decide +kernel
theorem dL_law_163 : decode cL_law 163 = .ok (.iload 4, 2) := by decide +kernel
theorem dL_law_165 : decode cL_law 165 = .ok (.iconst 1, 1) := by decide +kernel
theorem dL_law_166 : decode cL_law 166 = .ok (.iadd, 1) := by decide +kernel
theorem dL_law_167 : decode cL_law 167 = .ok (.iaload, 1) := by decide +kernel
theorem dL_law_168 : decode cL_law 168 = .ok (.aload_n 0, 1) := by decide +kernel
theorem dL_law_169 : decode cL_law 169 = .ok (.iload 4, 2) := by decide +kernel
theorem dL_law_171 : decode cL_law 171 = .ok (.iconst 2, 1) := by decide +kernel
theorem dL_law_172 : decode cL_law 172 = .ok (.iadd, 1) := by decide +kernel
theorem dL_law_173 : decode cL_law 173 = .ok (.iaload, 1) := by decide +kernel
theorem dL_law_174 : decode cL_law 174 = .ok (.aload_n 0, 1) := by decide +kernel
theorem dL_law_175 : decode cL_law 175 = .ok (.iload 4, 2) := by decide +kernel
theorem dL_law_177 : decode cL_law 177 = .ok (.iconst 3, 1) := by decide +kernel
theorem dL_law_178 : decode cL_law 178 = .ok (.iadd, 1) := by decide +kernel
theorem dL_law_179 : decode cL_law 179 = .ok (.iaload, 1) := by decide +kernel
theorem dL_law_180 : decode cL_law 180 = .ok (.invokevirtual 83, 3) := by decide +kernel
theorem dL_law_183 : decode cL_law 183 = .ok (.istore 6, 2) := by decide +kernel
theorem dL_law_185 : decode cL_law 185 = .ok (.aload_n 2, 1) := by decide +kernel
theorem dL_law_186 : decode cL_law 186 = .ok (.invokevirtual 84, 3) := by decide +kernel
theorem dL_law_189 : decode cL_law 189 = .ok (.iload 5, 2) := by decide +kernel
theorem dL_law_191 : decode cL_law 191 = .ok (.if_icmp .eq 5, 3) := by decide +kernel
theorem dL_law_194 : decode cL_law 194 = .ok (.iconst 0, 1) := by decide +kernel
theorem dL_law_195 : decode cL_law 195 = .ok (.ireturn, 1) := by decide +kernel
theorem dL_law_196 : decode cL_law 196 = .ok (.iload 5, 2) := by decide +kernel
theorem dL_law_198 : decode cL_law 198 = .ok (.ifCond .ne 22, 3) := by decide +kernel
theorem dL_law_201 : decode cL_law 201 = .ok (.aload_n 3, 1) := by decide +kernel
theorem dL_law_202 : decode cL_law 202 = .ok (.iconst 0, 1) := by decide +kernel
theorem dL_law_203 : decode cL_law 203 = .ok (.laload, 1) := by decide +kernel
theorem dL_law_204 : decode cL_law 204 = .ok (.iload 6, 2) := by decide +kernel
theorem dL_law_206 : decode cL_law 206 = .ok (.ifCond .eq 7, 3) := by decide +kernel
theorem dL_law_209 : decode cL_law 209 = .ok (.lconst 1, 1) := by decide +kernel
theorem dL_law_210 : decode cL_law 210 = .ok (.goto 4, 3) := by decide +kernel
theorem dL_law_213 : decode cL_law 213 = .ok (.lconst 0, 1) := by decide +kernel
theorem dL_law_214 : decode cL_law 214 = .ok (.lcmp, 1) := by decide +kernel
theorem dL_law_215 : decode cL_law 215 = .ok (.ifCond .eq 5, 3) := by decide +kernel
theorem dL_law_218 : decode cL_law 218 = .ok (.iconst 0, 1) := by decide +kernel
theorem dL_law_219 : decode cL_law 219 = .ok (.ireturn, 1) := by decide +kernel
theorem dL_law_220 : decode cL_law 220 = .ok (.goto 1113, 3) := by decide +kernel
theorem dL_law_223 : decode cL_law 223 = .ok (.aload_n 1, 1) := by decide +kernel
theorem dL_law_224 : decode cL_law 224 = .ok (.aload_n 0, 1) := by decide +kernel
theorem dL_law_225 : decode cL_law 225 = .ok (.iload 4, 2) := by decide +kernel
theorem dL_law_227 : decode cL_law 227 = .ok (.iconst 1, 1) := by decide +kernel
theorem dL_law_228 : decode cL_law 228 = .ok (.iadd, 1) := by decide +kernel
theorem dL_law_229 : decode cL_law 229 = .ok (.iaload, 1) := by decide +kernel
theorem dL_law_230 : decode cL_law 230 = .ok (.aload_n 0, 1) := by decide +kernel
theorem dL_law_231 : decode cL_law 231 = .ok (.iload 4, 2) := by decide +kernel
theorem dL_law_233 : decode cL_law 233 = .ok (.iconst 2, 1) := by decide +kernel
theorem dL_law_234 : decode cL_law 234 = .ok (.iadd, 1) := by decide +kernel
theorem dL_law_235 : decode cL_law 235 = .ok (.iaload, 1) := by decide +kernel
theorem dL_law_236 : decode cL_law 236 = .ok (.ifCond .eq 7, 3) := by decide +kernel
theorem dL_law_239 : decode cL_law 239 = .ok (.iconst 1, 1) := by decide +kernel
theorem dL_law_240 : decode cL_law 240 = .ok (.goto 4, 3) := by decide +kernel
theorem dL_law_243 : decode cL_law 243 = .ok (.iconst 0, 1) := by decide +kernel
theorem dL_law_244 : decode cL_law 244 = .ok (.aload_n 3, 1) := by decide +kernel
theorem dL_law_245 : decode cL_law 245 = .ok (.invokestatic 87, 3) := by decide +kernel
theorem dL_law_248 : decode cL_law 248 = .ok (.istore 5, 2) := by decide +kernel
theorem dL_law_250 : decode cL_law 250 = .ok (.aload_n 2, 1) := by decide +kernel
theorem dL_law_251 : decode cL_law 251 = .ok (.aload_n 0, 1) := by decide +kernel
theorem dL_law_252 : decode cL_law 252 = .ok (.iload 4, 2) := by decide +kernel
theorem dL_law_254 : decode cL_law 254 = .ok (.iconst 1, 1) := by decide +kernel
theorem dL_law_255 : decode cL_law 255 = .ok (.iadd, 1) := by decide +kernel
theorem dL_law_256 : decode cL_law 256 = .ok (.iaload, 1) := by decide +kernel
theorem dL_law_257 : decode cL_law 257 = .ok (.aload_n 0, 1) := by decide +kernel
theorem dL_law_258 : decode cL_law 258 = .ok (.iload 4, 2) := by decide +kernel
theorem dL_law_260 : decode cL_law 260 = .ok (.iconst 2, 1) := by decide +kernel
theorem dL_law_261 : decode cL_law 261 = .ok (.iadd, 1) := by decide +kernel
theorem dL_law_262 : decode cL_law 262 = .ok (.iaload, 1) := by decide +kernel
theorem dL_law_263 : decode cL_law 263 = .ok (.ifCond .eq 7, 3) := by decide +kernel
theorem dL_law_266 : decode cL_law 266 = .ok (.iconst 1, 1) := by decide +kernel
theorem dL_law_267 : decode cL_law 267 = .ok (.goto 4, 3) := by decide +kernel
theorem dL_law_270 : decode cL_law 270 = .ok (.iconst 0, 1) := by decide +kernel
theorem dL_law_271 : decode cL_law 271 = .ok (.invokevirtual 90, 3) := by decide +kernel
theorem dL_law_274 : decode cL_law 274 = .ok (.istore 6, 2) := by decide +kernel
theorem dL_law_276 : decode cL_law 276 = .ok (.aload_n 2, 1) := by decide +kernel
theorem dL_law_277 : decode cL_law 277 = .ok (.invokevirtual 84, 3) := by decide +kernel
theorem dL_law_280 : decode cL_law 280 = .ok (.iload 5, 2) := by decide +kernel
theorem dL_law_282 : decode cL_law 282 = .ok (.if_icmp .eq 5, 3) := by decide +kernel
theorem dL_law_285 : decode cL_law 285 = .ok (.iconst 0, 1) := by decide +kernel
theorem dL_law_286 : decode cL_law 286 = .ok (.ireturn, 1) := by decide +kernel
theorem dL_law_287 : decode cL_law 287 = .ok (.iload 5, 2) := by decide +kernel
theorem dL_law_289 : decode cL_law 289 = .ok (.ifCond .ne 22, 3) := by decide +kernel
theorem dL_law_292 : decode cL_law 292 = .ok (.aload_n 3, 1) := by decide +kernel
theorem dL_law_293 : decode cL_law 293 = .ok (.iconst 0, 1) := by decide +kernel
theorem dL_law_294 : decode cL_law 294 = .ok (.laload, 1) := by decide +kernel
theorem dL_law_295 : decode cL_law 295 = .ok (.iload 6, 2) := by decide +kernel
theorem dL_law_297 : decode cL_law 297 = .ok (.ifCond .eq 7, 3) := by decide +kernel
theorem dL_law_300 : decode cL_law 300 = .ok (.lconst 1, 1) := by decide +kernel
theorem dL_law_301 : decode cL_law 301 = .ok (.goto 4, 3) := by decide +kernel
theorem dL_law_304 : decode cL_law 304 = .ok (.lconst 0, 1) := by decide +kernel
theorem dL_law_305 : decode cL_law 305 = .ok (.lcmp, 1) := by decide +kernel
theorem dL_law_306 : decode cL_law 306 = .ok (.ifCond .eq 5, 3) := by decide +kernel
theorem dL_law_309 : decode cL_law 309 = .ok (.iconst 0, 1) := by decide +kernel
theorem dL_law_310 : decode cL_law 310 = .ok (.ireturn, 1) := by decide +kernel
theorem dL_law_311 : decode cL_law 311 = .ok (.goto 1022, 3) := by decide +kernel
theorem dL_law_314 : decode cL_law 314 = .ok (.aload_n 1, 1) := by decide +kernel
theorem dL_law_315 : decode cL_law 315 = .ok (.aload_n 0, 1) := by decide +kernel
theorem dL_law_316 : decode cL_law 316 = .ok (.iload 4, 2) := by decide +kernel
theorem dL_law_318 : decode cL_law 318 = .ok (.iconst 1, 1) := by decide +kernel
theorem dL_law_319 : decode cL_law 319 = .ok (.iadd, 1) := by decide +kernel
theorem dL_law_320 : decode cL_law 320 = .ok (.iaload, 1) := by decide +kernel
theorem dL_law_321 : decode cL_law 321 = .ok (.aload_n 0, 1) := by decide +kernel
theorem dL_law_322 : decode cL_law 322 = .ok (.iload 4, 2) := by decide +kernel
theorem dL_law_324 : decode cL_law 324 = .ok (.iconst 2, 1) := by decide +kernel
theorem dL_law_325 : decode cL_law 325 = .ok (.iadd, 1) := by decide +kernel
theorem dL_law_326 : decode cL_law 326 = .ok (.iaload, 1) := by decide +kernel
theorem dL_law_327 : decode cL_law 327 = .ok (.aload_n 3, 1) := by decide +kernel
theorem dL_law_328 : decode cL_law 328 = .ok (.invokestatic 91, 3) := by decide +kernel
theorem dL_law_331 : decode cL_law 331 = .ok (.istore 5, 2) := by decide +kernel
theorem dL_law_333 : decode cL_law 333 = .ok (.aload_n 2, 1) := by decide +kernel
theorem dL_law_334 : decode cL_law 334 = .ok (.aload_n 0, 1) := by decide +kernel
theorem dL_law_335 : decode cL_law 335 = .ok (.iload 4, 2) := by decide +kernel
theorem dL_law_337 : decode cL_law 337 = .ok (.iconst 1, 1) := by decide +kernel
theorem dL_law_338 : decode cL_law 338 = .ok (.iadd, 1) := by decide +kernel
theorem dL_law_339 : decode cL_law 339 = .ok (.iaload, 1) := by decide +kernel
theorem dL_law_340 : decode cL_law 340 = .ok (.aload_n 0, 1) := by decide +kernel
theorem dL_law_341 : decode cL_law 341 = .ok (.iload 4, 2) := by decide +kernel
theorem dL_law_343 : decode cL_law 343 = .ok (.iconst 2, 1) := by decide +kernel
theorem dL_law_344 : decode cL_law 344 = .ok (.iadd, 1) := by decide +kernel
theorem dL_law_345 : decode cL_law 345 = .ok (.iaload, 1) := by decide +kernel
theorem dL_law_346 : decode cL_law 346 = .ok (.invokevirtual 94, 3) := by decide +kernel
theorem dL_law_349 : decode cL_law 349 = .ok (.istore 6, 2) := by decide +kernel
theorem dL_law_351 : decode cL_law 351 = .ok (.aload_n 2, 1) := by decide +kernel
theorem dL_law_352 : decode cL_law 352 = .ok (.invokevirtual 84, 3) := by decide +kernel
theorem dL_law_355 : decode cL_law 355 = .ok (.iload 5, 2) := by decide +kernel
theorem dL_law_357 : decode cL_law 357 = .ok (.if_icmp .eq 5, 3) := by decide +kernel
theorem dL_law_360 : decode cL_law 360 = .ok (.iconst 0, 1) := by decide +kernel
theorem dL_law_361 : decode cL_law 361 = .ok (.ireturn, 1) := by decide +kernel
theorem dL_law_362 : decode cL_law 362 = .ok (.iload 5, 2) := by decide +kernel
theorem dL_law_364 : decode cL_law 364 = .ok (.ifCond .ne 22, 3) := by decide +kernel
theorem dL_law_367 : decode cL_law 367 = .ok (.aload_n 3, 1) := by decide +kernel
theorem dL_law_368 : decode cL_law 368 = .ok (.iconst 0, 1) := by decide +kernel
theorem dL_law_369 : decode cL_law 369 = .ok (.laload, 1) := by decide +kernel
theorem dL_law_370 : decode cL_law 370 = .ok (.iload 6, 2) := by decide +kernel
theorem dL_law_372 : decode cL_law 372 = .ok (.ifCond .eq 7, 3) := by decide +kernel
theorem dL_law_375 : decode cL_law 375 = .ok (.lconst 1, 1) := by decide +kernel
theorem dL_law_376 : decode cL_law 376 = .ok (.goto 4, 3) := by decide +kernel
theorem dL_law_379 : decode cL_law 379 = .ok (.lconst 0, 1) := by decide +kernel
theorem dL_law_380 : decode cL_law 380 = .ok (.lcmp, 1) := by decide +kernel
theorem dL_law_381 : decode cL_law 381 = .ok (.ifCond .eq 5, 3) := by decide +kernel
theorem dL_law_384 : decode cL_law 384 = .ok (.iconst 0, 1) := by decide +kernel
theorem dL_law_385 : decode cL_law 385 = .ok (.ireturn, 1) := by decide +kernel
theorem dL_law_386 : decode cL_law 386 = .ok (.goto 947, 3) := by decide +kernel
theorem dL_law_389 : decode cL_law 389 = .ok (.aload_n 1, 1) := by decide +kernel
theorem dL_law_390 : decode cL_law 390 = .ok (.aload_n 0, 1) := by decide +kernel
theorem dL_law_391 : decode cL_law 391 = .ok (.iload 4, 2) := by decide +kernel
theorem dL_law_393 : decode cL_law 393 = .ok (.iconst 1, 1) := by decide +kernel
theorem dL_law_394 : decode cL_law 394 = .ok (.iadd, 1) := by decide +kernel
theorem dL_law_395 : decode cL_law 395 = .ok (.iaload, 1) := by decide +kernel
theorem dL_law_396 : decode cL_law 396 = .ok (.aload_n 0, 1) := by decide +kernel
theorem dL_law_397 : decode cL_law 397 = .ok (.iload 4, 2) := by decide +kernel
theorem dL_law_399 : decode cL_law 399 = .ok (.iconst 2, 1) := by decide +kernel
theorem dL_law_400 : decode cL_law 400 = .ok (.iadd, 1) := by decide +kernel
theorem dL_law_401 : decode cL_law 401 = .ok (.iaload, 1) := by decide +kernel
theorem dL_law_402 : decode cL_law 402 = .ok (.aload_n 0, 1) := by decide +kernel
theorem dL_law_403 : decode cL_law 403 = .ok (.iload 4, 2) := by decide +kernel
theorem dL_law_405 : decode cL_law 405 = .ok (.iconst 3, 1) := by decide +kernel
theorem dL_law_406 : decode cL_law 406 = .ok (.iadd, 1) := by decide +kernel
theorem dL_law_407 : decode cL_law 407 = .ok (.iaload, 1) := by decide +kernel
theorem dL_law_408 : decode cL_law 408 = .ok (.aload_n 0, 1) := by decide +kernel
theorem dL_law_409 : decode cL_law 409 = .ok (.iload 4, 2) := by decide +kernel
theorem dL_law_411 : decode cL_law 411 = .ok (.iconst 4, 1) := by decide +kernel
theorem dL_law_412 : decode cL_law 412 = .ok (.iadd, 1) := by decide +kernel
theorem dL_law_413 : decode cL_law 413 = .ok (.iaload, 1) := by decide +kernel
theorem dL_law_414 : decode cL_law 414 = .ok (.aload_n 3, 1) := by decide +kernel
theorem dL_law_415 : decode cL_law 415 = .ok (.invokestatic 95, 3) := by decide +kernel
theorem dL_law_418 : decode cL_law 418 = .ok (.istore 5, 2) := by decide +kernel
theorem dL_law_420 : decode cL_law 420 = .ok (.aload_n 2, 1) := by decide +kernel
theorem dL_law_421 : decode cL_law 421 = .ok (.aload_n 0, 1) := by decide +kernel
theorem dL_law_422 : decode cL_law 422 = .ok (.iload 4, 2) := by decide +kernel
theorem dL_law_424 : decode cL_law 424 = .ok (.iconst 1, 1) := by decide +kernel
theorem dL_law_425 : decode cL_law 425 = .ok (.iadd, 1) := by decide +kernel
theorem dL_law_426 : decode cL_law 426 = .ok (.iaload, 1) := by decide +kernel
theorem dL_law_427 : decode cL_law 427 = .ok (.aload_n 0, 1) := by decide +kernel
theorem dL_law_428 : decode cL_law 428 = .ok (.iload 4, 2) := by decide +kernel
theorem dL_law_430 : decode cL_law 430 = .ok (.iconst 2, 1) := by decide +kernel
theorem dL_law_431 : decode cL_law 431 = .ok (.iadd, 1) := by decide +kernel
theorem dL_law_432 : decode cL_law 432 = .ok (.iaload, 1) := by decide +kernel
theorem dL_law_433 : decode cL_law 433 = .ok (.aload_n 0, 1) := by decide +kernel
theorem dL_law_434 : decode cL_law 434 = .ok (.iload 4, 2) := by decide +kernel
theorem dL_law_436 : decode cL_law 436 = .ok (.iconst 3, 1) := by decide +kernel
theorem dL_law_437 : decode cL_law 437 = .ok (.iadd, 1) := by decide +kernel
theorem dL_law_438 : decode cL_law 438 = .ok (.iaload, 1) := by decide +kernel
theorem dL_law_439 : decode cL_law 439 = .ok (.aload_n 0, 1) := by decide +kernel
theorem dL_law_440 : decode cL_law 440 = .ok (.iload 4, 2) := by decide +kernel
theorem dL_law_442 : decode cL_law 442 = .ok (.iconst 4, 1) := by decide +kernel
theorem dL_law_443 : decode cL_law 443 = .ok (.iadd, 1) := by decide +kernel
theorem dL_law_444 : decode cL_law 444 = .ok (.iaload, 1) := by decide +kernel
theorem dL_law_445 : decode cL_law 445 = .ok (.invokevirtual 98, 3) := by decide +kernel
theorem dL_law_448 : decode cL_law 448 = .ok (.istore 6, 2) := by decide +kernel
theorem dL_law_450 : decode cL_law 450 = .ok (.aload_n 2, 1) := by decide +kernel
theorem dL_law_451 : decode cL_law 451 = .ok (.invokevirtual 84, 3) := by decide +kernel
theorem dL_law_454 : decode cL_law 454 = .ok (.iload 5, 2) := by decide +kernel
theorem dL_law_456 : decode cL_law 456 = .ok (.if_icmp .eq 5, 3) := by decide +kernel
theorem dL_law_459 : decode cL_law 459 = .ok (.iconst 0, 1) := by decide +kernel
theorem dL_law_460 : decode cL_law 460 = .ok (.ireturn, 1) := by decide +kernel
theorem dL_law_461 : decode cL_law 461 = .ok (.iload 5, 2) := by decide +kernel
theorem dL_law_463 : decode cL_law 463 = .ok (.ifCond .ne 15, 3) := by decide +kernel
theorem dL_law_466 : decode cL_law 466 = .ok (.aload_n 3, 1) := by decide +kernel
theorem dL_law_467 : decode cL_law 467 = .ok (.iconst 0, 1) := by decide +kernel
theorem dL_law_468 : decode cL_law 468 = .ok (.laload, 1) := by decide +kernel
theorem dL_law_469 : decode cL_law 469 = .ok (.iload 6, 2) := by decide +kernel
theorem dL_law_471 : decode cL_law 471 = .ok (.i2l, 1) := by decide +kernel
theorem dL_law_472 : decode cL_law 472 = .ok (.lcmp, 1) := by decide +kernel
theorem dL_law_473 : decode cL_law 473 = .ok (.ifCond .eq 5, 3) := by decide +kernel
theorem dL_law_476 : decode cL_law 476 = .ok (.iconst 0, 1) := by decide +kernel
theorem dL_law_477 : decode cL_law 477 = .ok (.ireturn, 1) := by decide +kernel
theorem dL_law_478 : decode cL_law 478 = .ok (.goto 855, 3) := by decide +kernel
theorem dL_law_481 : decode cL_law 481 = .ok (.aload_n 1, 1) := by decide +kernel
theorem dL_law_482 : decode cL_law 482 = .ok (.aload_n 0, 1) := by decide +kernel
theorem dL_law_483 : decode cL_law 483 = .ok (.iload 4, 2) := by decide +kernel
theorem dL_law_485 : decode cL_law 485 = .ok (.iconst 1, 1) := by decide +kernel
theorem dL_law_486 : decode cL_law 486 = .ok (.iadd, 1) := by decide +kernel
theorem dL_law_487 : decode cL_law 487 = .ok (.iaload, 1) := by decide +kernel
theorem dL_law_488 : decode cL_law 488 = .ok (.aload_n 0, 1) := by decide +kernel
theorem dL_law_489 : decode cL_law 489 = .ok (.iload 4, 2) := by decide +kernel
theorem dL_law_491 : decode cL_law 491 = .ok (.iconst 2, 1) := by decide +kernel
theorem dL_law_492 : decode cL_law 492 = .ok (.iadd, 1) := by decide +kernel
theorem dL_law_493 : decode cL_law 493 = .ok (.iaload, 1) := by decide +kernel
theorem dL_law_494 : decode cL_law 494 = .ok (.aload_n 0, 1) := by decide +kernel
theorem dL_law_495 : decode cL_law 495 = .ok (.iload 4, 2) := by decide +kernel
theorem dL_law_497 : decode cL_law 497 = .ok (.iconst 3, 1) := by decide +kernel
theorem dL_law_498 : decode cL_law 498 = .ok (.iadd, 1) := by decide +kernel
theorem dL_law_499 : decode cL_law 499 = .ok (.iaload, 1) := by decide +kernel
theorem dL_law_500 : decode cL_law 500 = .ok (.aload_n 3, 1) := by decide +kernel
theorem dL_law_501 : decode cL_law 501 = .ok (.invokestatic 99, 3) := by decide +kernel
theorem dL_law_504 : decode cL_law 504 = .ok (.istore 5, 2) := by decide +kernel
theorem dL_law_506 : decode cL_law 506 = .ok (.aload_n 2, 1) := by decide +kernel
theorem dL_law_507 : decode cL_law 507 = .ok (.aload_n 0, 1) := by decide +kernel
theorem dL_law_508 : decode cL_law 508 = .ok (.iload 4, 2) := by decide +kernel
theorem dL_law_510 : decode cL_law 510 = .ok (.iconst 1, 1) := by decide +kernel
theorem dL_law_511 : decode cL_law 511 = .ok (.iadd, 1) := by decide +kernel
theorem dL_law_512 : decode cL_law 512 = .ok (.iaload, 1) := by decide +kernel
theorem dL_law_513 : decode cL_law 513 = .ok (.aload_n 0, 1) := by decide +kernel
theorem dL_law_514 : decode cL_law 514 = .ok (.iload 4, 2) := by decide +kernel
theorem dL_law_516 : decode cL_law 516 = .ok (.iconst 2, 1) := by decide +kernel
theorem dL_law_517 : decode cL_law 517 = .ok (.iadd, 1) := by decide +kernel
theorem dL_law_518 : decode cL_law 518 = .ok (.iaload, 1) := by decide +kernel
theorem dL_law_519 : decode cL_law 519 = .ok (.aload_n 0, 1) := by decide +kernel
theorem dL_law_520 : decode cL_law 520 = .ok (.iload 4, 2) := by decide +kernel
theorem dL_law_522 : decode cL_law 522 = .ok (.iconst 3, 1) := by decide +kernel
theorem dL_law_523 : decode cL_law 523 = .ok (.iadd, 1) := by decide +kernel
theorem dL_law_524 : decode cL_law 524 = .ok (.iaload, 1) := by decide +kernel
theorem dL_law_525 : decode cL_law 525 = .ok (.invokevirtual 101, 3) := by decide +kernel
theorem dL_law_528 : decode cL_law 528 = .ok (.istore 6, 2) := by decide +kernel
theorem dL_law_530 : decode cL_law 530 = .ok (.aload_n 2, 1) := by decide +kernel
theorem dL_law_531 : decode cL_law 531 = .ok (.invokevirtual 84, 3) := by decide +kernel
theorem dL_law_534 : decode cL_law 534 = .ok (.iload 5, 2) := by decide +kernel
theorem dL_law_536 : decode cL_law 536 = .ok (.if_icmp .eq 5, 3) := by decide +kernel
theorem dL_law_539 : decode cL_law 539 = .ok (.iconst 0, 1) := by decide +kernel
theorem dL_law_540 : decode cL_law 540 = .ok (.ireturn, 1) := by decide +kernel
theorem dL_law_541 : decode cL_law 541 = .ok (.iload 5, 2) := by decide +kernel
theorem dL_law_543 : decode cL_law 543 = .ok (.ifCond .ne 15, 3) := by decide +kernel
theorem dL_law_546 : decode cL_law 546 = .ok (.aload_n 3, 1) := by decide +kernel
theorem dL_law_547 : decode cL_law 547 = .ok (.iconst 0, 1) := by decide +kernel
theorem dL_law_548 : decode cL_law 548 = .ok (.laload, 1) := by decide +kernel
theorem dL_law_549 : decode cL_law 549 = .ok (.iload 6, 2) := by decide +kernel
theorem dL_law_551 : decode cL_law 551 = .ok (.i2l, 1) := by decide +kernel
theorem dL_law_552 : decode cL_law 552 = .ok (.lcmp, 1) := by decide +kernel
theorem dL_law_553 : decode cL_law 553 = .ok (.ifCond .eq 5, 3) := by decide +kernel
theorem dL_law_556 : decode cL_law 556 = .ok (.iconst 0, 1) := by decide +kernel
theorem dL_law_557 : decode cL_law 557 = .ok (.ireturn, 1) := by decide +kernel
theorem dL_law_558 : decode cL_law 558 = .ok (.goto 775, 3) := by decide +kernel
theorem dL_law_561 : decode cL_law 561 = .ok (.aload_n 1, 1) := by decide +kernel
theorem dL_law_562 : decode cL_law 562 = .ok (.aload_n 0, 1) := by decide +kernel
theorem dL_law_563 : decode cL_law 563 = .ok (.iload 4, 2) := by decide +kernel
theorem dL_law_565 : decode cL_law 565 = .ok (.iconst 1, 1) := by decide +kernel
theorem dL_law_566 : decode cL_law 566 = .ok (.iadd, 1) := by decide +kernel
theorem dL_law_567 : decode cL_law 567 = .ok (.iaload, 1) := by decide +kernel
theorem dL_law_568 : decode cL_law 568 = .ok (.aload_n 0, 1) := by decide +kernel
theorem dL_law_569 : decode cL_law 569 = .ok (.iload 4, 2) := by decide +kernel
theorem dL_law_571 : decode cL_law 571 = .ok (.iconst 2, 1) := by decide +kernel
theorem dL_law_572 : decode cL_law 572 = .ok (.iadd, 1) := by decide +kernel
theorem dL_law_573 : decode cL_law 573 = .ok (.iaload, 1) := by decide +kernel
theorem dL_law_574 : decode cL_law 574 = .ok (.aload_n 3, 1) := by decide +kernel
theorem dL_law_575 : decode cL_law 575 = .ok (.invokestatic 102, 3) := by decide +kernel
theorem dL_law_578 : decode cL_law 578 = .ok (.istore 5, 2) := by decide +kernel
theorem dL_law_580 : decode cL_law 580 = .ok (.aload_n 2, 1) := by decide +kernel
theorem dL_law_581 : decode cL_law 581 = .ok (.aload_n 0, 1) := by decide +kernel
theorem dL_law_582 : decode cL_law 582 = .ok (.iload 4, 2) := by decide +kernel
theorem dL_law_584 : decode cL_law 584 = .ok (.iconst 1, 1) := by decide +kernel
theorem dL_law_585 : decode cL_law 585 = .ok (.iadd, 1) := by decide +kernel
theorem dL_law_586 : decode cL_law 586 = .ok (.iaload, 1) := by decide +kernel
theorem dL_law_587 : decode cL_law 587 = .ok (.aload_n 0, 1) := by decide +kernel
theorem dL_law_588 : decode cL_law 588 = .ok (.iload 4, 2) := by decide +kernel
theorem dL_law_590 : decode cL_law 590 = .ok (.iconst 2, 1) := by decide +kernel
theorem dL_law_591 : decode cL_law 591 = .ok (.iadd, 1) := by decide +kernel
theorem dL_law_592 : decode cL_law 592 = .ok (.iaload, 1) := by decide +kernel
theorem dL_law_593 : decode cL_law 593 = .ok (.invokevirtual 104, 3) := by decide +kernel
theorem dL_law_596 : decode cL_law 596 = .ok (.istore 6, 2) := by decide +kernel
theorem dL_law_598 : decode cL_law 598 = .ok (.aload_n 2, 1) := by decide +kernel
theorem dL_law_599 : decode cL_law 599 = .ok (.invokevirtual 84, 3) := by decide +kernel
theorem dL_law_602 : decode cL_law 602 = .ok (.iload 5, 2) := by decide +kernel
theorem dL_law_604 : decode cL_law 604 = .ok (.if_icmp .eq 5, 3) := by decide +kernel
theorem dL_law_607 : decode cL_law 607 = .ok (.iconst 0, 1) := by decide +kernel
theorem dL_law_608 : decode cL_law 608 = .ok (.ireturn, 1) := by decide +kernel
theorem dL_law_609 : decode cL_law 609 = .ok (.iload 5, 2) := by decide +kernel
theorem dL_law_611 : decode cL_law 611 = .ok (.ifCond .ne 15, 3) := by decide +kernel
theorem dL_law_614 : decode cL_law 614 = .ok (.aload_n 3, 1) := by decide +kernel
theorem dL_law_615 : decode cL_law 615 = .ok (.iconst 0, 1) := by decide +kernel
theorem dL_law_616 : decode cL_law 616 = .ok (.laload, 1) := by decide +kernel
theorem dL_law_617 : decode cL_law 617 = .ok (.iload 6, 2) := by decide +kernel
theorem dL_law_619 : decode cL_law 619 = .ok (.i2l, 1) := by decide +kernel
theorem dL_law_620 : decode cL_law 620 = .ok (.lcmp, 1) := by decide +kernel
theorem dL_law_621 : decode cL_law 621 = .ok (.ifCond .eq 5, 3) := by decide +kernel
theorem dL_law_624 : decode cL_law 624 = .ok (.iconst 0, 1) := by decide +kernel
theorem dL_law_625 : decode cL_law 625 = .ok (.ireturn, 1) := by decide +kernel
theorem dL_law_626 : decode cL_law 626 = .ok (.goto 707, 3) := by decide +kernel
theorem dL_law_629 : decode cL_law 629 = .ok (.aload_n 1, 1) := by decide +kernel
theorem dL_law_630 : decode cL_law 630 = .ok (.aload_n 0, 1) := by decide +kernel
theorem dL_law_631 : decode cL_law 631 = .ok (.iload 4, 2) := by decide +kernel
theorem dL_law_633 : decode cL_law 633 = .ok (.iconst 1, 1) := by decide +kernel
theorem dL_law_634 : decode cL_law 634 = .ok (.iadd, 1) := by decide +kernel
theorem dL_law_635 : decode cL_law 635 = .ok (.iaload, 1) := by decide +kernel
theorem dL_law_636 : decode cL_law 636 = .ok (.aload_n 0, 1) := by decide +kernel
theorem dL_law_637 : decode cL_law 637 = .ok (.iload 4, 2) := by decide +kernel
theorem dL_law_639 : decode cL_law 639 = .ok (.iconst 2, 1) := by decide +kernel
theorem dL_law_640 : decode cL_law 640 = .ok (.iadd, 1) := by decide +kernel
theorem dL_law_641 : decode cL_law 641 = .ok (.iaload, 1) := by decide +kernel
theorem dL_law_642 : decode cL_law 642 = .ok (.aload_n 3, 1) := by decide +kernel
theorem dL_law_643 : decode cL_law 643 = .ok (.invokestatic 105, 3) := by decide +kernel
theorem dL_law_646 : decode cL_law 646 = .ok (.istore 5, 2) := by decide +kernel
theorem dL_law_648 : decode cL_law 648 = .ok (.aload_n 2, 1) := by decide +kernel
theorem dL_law_649 : decode cL_law 649 = .ok (.aload_n 0, 1) := by decide +kernel
theorem dL_law_650 : decode cL_law 650 = .ok (.iload 4, 2) := by decide +kernel
theorem dL_law_652 : decode cL_law 652 = .ok (.iconst 1, 1) := by decide +kernel
theorem dL_law_653 : decode cL_law 653 = .ok (.iadd, 1) := by decide +kernel
theorem dL_law_654 : decode cL_law 654 = .ok (.iaload, 1) := by decide +kernel
theorem dL_law_655 : decode cL_law 655 = .ok (.aload_n 0, 1) := by decide +kernel
theorem dL_law_656 : decode cL_law 656 = .ok (.iload 4, 2) := by decide +kernel
theorem dL_law_658 : decode cL_law 658 = .ok (.iconst 2, 1) := by decide +kernel
theorem dL_law_659 : decode cL_law 659 = .ok (.iadd, 1) := by decide +kernel
theorem dL_law_660 : decode cL_law 660 = .ok (.iaload, 1) := by decide +kernel
theorem dL_law_661 : decode cL_law 661 = .ok (.invokevirtual 107, 3) := by decide +kernel
theorem dL_law_664 : decode cL_law 664 = .ok (.istore 6, 2) := by decide +kernel
theorem dL_law_666 : decode cL_law 666 = .ok (.aload_n 2, 1) := by decide +kernel
theorem dL_law_667 : decode cL_law 667 = .ok (.invokevirtual 84, 3) := by decide +kernel
theorem dL_law_670 : decode cL_law 670 = .ok (.iload 5, 2) := by decide +kernel
theorem dL_law_672 : decode cL_law 672 = .ok (.if_icmp .eq 5, 3) := by decide +kernel
theorem dL_law_675 : decode cL_law 675 = .ok (.iconst 0, 1) := by decide +kernel
theorem dL_law_676 : decode cL_law 676 = .ok (.ireturn, 1) := by decide +kernel
theorem dL_law_677 : decode cL_law 677 = .ok (.iload 5, 2) := by decide +kernel
theorem dL_law_679 : decode cL_law 679 = .ok (.ifCond .ne 15, 3) := by decide +kernel
theorem dL_law_682 : decode cL_law 682 = .ok (.aload_n 3, 1) := by decide +kernel
theorem dL_law_683 : decode cL_law 683 = .ok (.iconst 0, 1) := by decide +kernel
theorem dL_law_684 : decode cL_law 684 = .ok (.laload, 1) := by decide +kernel
theorem dL_law_685 : decode cL_law 685 = .ok (.iload 6, 2) := by decide +kernel
theorem dL_law_687 : decode cL_law 687 = .ok (.i2l, 1) := by decide +kernel
theorem dL_law_688 : decode cL_law 688 = .ok (.lcmp, 1) := by decide +kernel
theorem dL_law_689 : decode cL_law 689 = .ok (.ifCond .eq 5, 3) := by decide +kernel
theorem dL_law_692 : decode cL_law 692 = .ok (.iconst 0, 1) := by decide +kernel
theorem dL_law_693 : decode cL_law 693 = .ok (.ireturn, 1) := by decide +kernel
theorem dL_law_694 : decode cL_law 694 = .ok (.goto 639, 3) := by decide +kernel
theorem dL_law_697 : decode cL_law 697 = .ok (.aload_n 1, 1) := by decide +kernel
theorem dL_law_698 : decode cL_law 698 = .ok (.aload_n 0, 1) := by decide +kernel
theorem dL_law_699 : decode cL_law 699 = .ok (.iload 4, 2) := by decide +kernel
theorem dL_law_701 : decode cL_law 701 = .ok (.iconst 1, 1) := by decide +kernel
theorem dL_law_702 : decode cL_law 702 = .ok (.iadd, 1) := by decide +kernel
theorem dL_law_703 : decode cL_law 703 = .ok (.iaload, 1) := by decide +kernel
theorem dL_law_704 : decode cL_law 704 = .ok (.aload_n 3, 1) := by decide +kernel
theorem dL_law_705 : decode cL_law 705 = .ok (.invokestatic 108, 3) := by decide +kernel
theorem dL_law_708 : decode cL_law 708 = .ok (.istore 5, 2) := by decide +kernel
theorem dL_law_710 : decode cL_law 710 = .ok (.aload_n 2, 1) := by decide +kernel
theorem dL_law_711 : decode cL_law 711 = .ok (.aload_n 0, 1) := by decide +kernel
theorem dL_law_712 : decode cL_law 712 = .ok (.iload 4, 2) := by decide +kernel
theorem dL_law_714 : decode cL_law 714 = .ok (.iconst 1, 1) := by decide +kernel
theorem dL_law_715 : decode cL_law 715 = .ok (.iadd, 1) := by decide +kernel
theorem dL_law_716 : decode cL_law 716 = .ok (.iaload, 1) := by decide +kernel
theorem dL_law_717 : decode cL_law 717 = .ok (.invokevirtual 111, 3) := by decide +kernel
theorem dL_law_720 : decode cL_law 720 = .ok (.istore 6, 2) := by decide +kernel
theorem dL_law_722 : decode cL_law 722 = .ok (.aload_n 2, 1) := by decide +kernel
theorem dL_law_723 : decode cL_law 723 = .ok (.invokevirtual 84, 3) := by decide +kernel
theorem dL_law_726 : decode cL_law 726 = .ok (.iload 5, 2) := by decide +kernel
theorem dL_law_728 : decode cL_law 728 = .ok (.if_icmp .eq 5, 3) := by decide +kernel
theorem dL_law_731 : decode cL_law 731 = .ok (.iconst 0, 1) := by decide +kernel
theorem dL_law_732 : decode cL_law 732 = .ok (.ireturn, 1) := by decide +kernel
theorem dL_law_733 : decode cL_law 733 = .ok (.iload 5, 2) := by decide +kernel
theorem dL_law_735 : decode cL_law 735 = .ok (.ifCond .ne 15, 3) := by decide +kernel
theorem dL_law_738 : decode cL_law 738 = .ok (.aload_n 3, 1) := by decide +kernel
theorem dL_law_739 : decode cL_law 739 = .ok (.iconst 0, 1) := by decide +kernel
theorem dL_law_740 : decode cL_law 740 = .ok (.laload, 1) := by decide +kernel
theorem dL_law_741 : decode cL_law 741 = .ok (.iload 6, 2) := by decide +kernel
theorem dL_law_743 : decode cL_law 743 = .ok (.i2l, 1) := by decide +kernel
theorem dL_law_744 : decode cL_law 744 = .ok (.lcmp, 1) := by decide +kernel
theorem dL_law_745 : decode cL_law 745 = .ok (.ifCond .eq 5, 3) := by decide +kernel
theorem dL_law_748 : decode cL_law 748 = .ok (.iconst 0, 1) := by decide +kernel
theorem dL_law_749 : decode cL_law 749 = .ok (.ireturn, 1) := by decide +kernel
theorem dL_law_750 : decode cL_law 750 = .ok (.goto 583, 3) := by decide +kernel
theorem dL_law_753 : decode cL_law 753 = .ok (.aload_n 1, 1) := by decide +kernel
theorem dL_law_754 : decode cL_law 754 = .ok (.aload_n 3, 1) := by decide +kernel
theorem dL_law_755 : decode cL_law 755 = .ok (.invokestatic 112, 3) := by decide +kernel
theorem dL_law_758 : decode cL_law 758 = .ok (.istore 5, 2) := by decide +kernel
theorem dL_law_760 : decode cL_law 760 = .ok (.aload_n 2, 1) := by decide +kernel
theorem dL_law_761 : decode cL_law 761 = .ok (.invokevirtual 115, 3) := by decide +kernel
theorem dL_law_764 : decode cL_law 764 = .ok (.istore 6, 2) := by decide +kernel
theorem dL_law_766 : decode cL_law 766 = .ok (.aload_n 2, 1) := by decide +kernel
theorem dL_law_767 : decode cL_law 767 = .ok (.invokevirtual 84, 3) := by decide +kernel
theorem dL_law_770 : decode cL_law 770 = .ok (.iload 5, 2) := by decide +kernel
theorem dL_law_772 : decode cL_law 772 = .ok (.if_icmp .eq 5, 3) := by decide +kernel
theorem dL_law_775 : decode cL_law 775 = .ok (.iconst 0, 1) := by decide +kernel
theorem dL_law_776 : decode cL_law 776 = .ok (.ireturn, 1) := by decide +kernel
theorem dL_law_777 : decode cL_law 777 = .ok (.iload 5, 2) := by decide +kernel
theorem dL_law_779 : decode cL_law 779 = .ok (.ifCond .ne 15, 3) := by decide +kernel
theorem dL_law_782 : decode cL_law 782 = .ok (.aload_n 3, 1) := by decide +kernel
theorem dL_law_783 : decode cL_law 783 = .ok (.iconst 0, 1) := by decide +kernel
theorem dL_law_784 : decode cL_law 784 = .ok (.laload, 1) := by decide +kernel
theorem dL_law_785 : decode cL_law 785 = .ok (.iload 6, 2) := by decide +kernel
theorem dL_law_787 : decode cL_law 787 = .ok (.i2l, 1) := by decide +kernel
theorem dL_law_788 : decode cL_law 788 = .ok (.lcmp, 1) := by decide +kernel
theorem dL_law_789 : decode cL_law 789 = .ok (.ifCond .eq 5, 3) := by decide +kernel
theorem dL_law_792 : decode cL_law 792 = .ok (.iconst 0, 1) := by decide +kernel
theorem dL_law_793 : decode cL_law 793 = .ok (.ireturn, 1) := by decide +kernel
theorem dL_law_794 : decode cL_law 794 = .ok (.goto 539, 3) := by decide +kernel
theorem dL_law_797 : decode cL_law 797 = .ok (.aload_n 1, 1) := by decide +kernel
theorem dL_law_798 : decode cL_law 798 = .ok (.invokevirtual 116, 3) := by decide +kernel
theorem dL_law_801 : decode cL_law 801 = .ok (.aload_n 2, 1) := by decide +kernel
theorem dL_law_802 : decode cL_law 802 = .ok (.invokevirtual 119, 3) := by decide +kernel
theorem dL_law_805 : decode cL_law 805 = .ok (.if_icmp .eq 528, 3) := by decide +kernel
theorem dL_law_808 : decode cL_law 808 = .ok (.iconst 0, 1) := by decide +kernel
theorem dL_law_809 : decode cL_law 809 = .ok (.ireturn, 1) := by decide +kernel
theorem dL_law_810 : decode cL_law 810 = .ok (.aload_n 1, 1) := by decide +kernel
theorem dL_law_811 : decode cL_law 811 = .ok (.aload_n 0, 1) := by decide +kernel
theorem dL_law_812 : decode cL_law 812 = .ok (.iload 4, 2) := by decide +kernel
theorem dL_law_814 : decode cL_law 814 = .ok (.iconst 1, 1) := by decide +kernel
theorem dL_law_815 : decode cL_law 815 = .ok (.iadd, 1) := by decide +kernel
theorem dL_law_816 : decode cL_law 816 = .ok (.iaload, 1) := by decide +kernel
theorem dL_law_817 : decode cL_law 817 = .ok (.aload_n 3, 1) := by decide +kernel
theorem dL_law_818 : decode cL_law 818 = .ok (.invokestatic 120, 3) := by decide +kernel
theorem dL_law_821 : decode cL_law 821 = .ok (.istore 5, 2) := by decide +kernel
theorem dL_law_823 : decode cL_law 823 = .ok (.aload_n 2, 1) := by decide +kernel
theorem dL_law_824 : decode cL_law 824 = .ok (.aload_n 0, 1) := by decide +kernel
theorem dL_law_825 : decode cL_law 825 = .ok (.iload 4, 2) := by decide +kernel
theorem dL_law_827 : decode cL_law 827 = .ok (.iconst 1, 1) := by decide +kernel
theorem dL_law_828 : decode cL_law 828 = .ok (.iadd, 1) := by decide +kernel
theorem dL_law_829 : decode cL_law 829 = .ok (.iaload, 1) := by decide +kernel
theorem dL_law_830 : decode cL_law 830 = .ok (.invokevirtual 122, 3) := by decide +kernel
theorem dL_law_833 : decode cL_law 833 = .ok (.istore 6, 2) := by decide +kernel
theorem dL_law_835 : decode cL_law 835 = .ok (.aload_n 2, 1) := by decide +kernel
theorem dL_law_836 : decode cL_law 836 = .ok (.invokevirtual 84, 3) := by decide +kernel
theorem dL_law_839 : decode cL_law 839 = .ok (.iload 5, 2) := by decide +kernel
theorem dL_law_841 : decode cL_law 841 = .ok (.if_icmp .eq 5, 3) := by decide +kernel
theorem dL_law_844 : decode cL_law 844 = .ok (.iconst 0, 1) := by decide +kernel
theorem dL_law_845 : decode cL_law 845 = .ok (.ireturn, 1) := by decide +kernel
theorem dL_law_846 : decode cL_law 846 = .ok (.iload 5, 2) := by decide +kernel
theorem dL_law_848 : decode cL_law 848 = .ok (.ifCond .ne 15, 3) := by decide +kernel
theorem dL_law_851 : decode cL_law 851 = .ok (.aload_n 3, 1) := by decide +kernel
theorem dL_law_852 : decode cL_law 852 = .ok (.iconst 0, 1) := by decide +kernel
theorem dL_law_853 : decode cL_law 853 = .ok (.laload, 1) := by decide +kernel
theorem dL_law_854 : decode cL_law 854 = .ok (.iload 6, 2) := by decide +kernel
theorem dL_law_856 : decode cL_law 856 = .ok (.i2l, 1) := by decide +kernel
theorem dL_law_857 : decode cL_law 857 = .ok (.lcmp, 1) := by decide +kernel
theorem dL_law_858 : decode cL_law 858 = .ok (.ifCond .eq 5, 3) := by decide +kernel
theorem dL_law_861 : decode cL_law 861 = .ok (.iconst 0, 1) := by decide +kernel
theorem dL_law_862 : decode cL_law 862 = .ok (.ireturn, 1) := by decide +kernel
theorem dL_law_863 : decode cL_law 863 = .ok (.goto 470, 3) := by decide +kernel
theorem dL_law_866 : decode cL_law 866 = .ok (.aload_n 1, 1) := by decide +kernel
theorem dL_law_867 : decode cL_law 867 = .ok (.invokevirtual 123, 3) := by decide +kernel
theorem dL_law_870 : decode cL_law 870 = .ok (.aload_n 2, 1) := by decide +kernel
theorem dL_law_871 : decode cL_law 871 = .ok (.invokevirtual 126, 3) := by decide +kernel
theorem dL_law_874 : decode cL_law 874 = .ok (.if_icmp .eq 459, 3) := by decide +kernel
theorem dL_law_877 : decode cL_law 877 = .ok (.iconst 0, 1) := by decide +kernel
theorem dL_law_878 : decode cL_law 878 = .ok (.ireturn, 1) := by decide +kernel
theorem dL_law_879 : decode cL_law 879 = .ok (.aload_n 1, 1) := by decide +kernel
theorem dL_law_880 : decode cL_law 880 = .ok (.aload_n 0, 1) := by decide +kernel
theorem dL_law_881 : decode cL_law 881 = .ok (.iload 4, 2) := by decide +kernel
theorem dL_law_883 : decode cL_law 883 = .ok (.iconst 1, 1) := by decide +kernel
theorem dL_law_884 : decode cL_law 884 = .ok (.iadd, 1) := by decide +kernel
theorem dL_law_885 : decode cL_law 885 = .ok (.iaload, 1) := by decide +kernel
theorem dL_law_886 : decode cL_law 886 = .ok (.aload_n 3, 1) := by decide +kernel
theorem dL_law_887 : decode cL_law 887 = .ok (.invokestatic 127, 3) := by decide +kernel
theorem dL_law_890 : decode cL_law 890 = .ok (.istore 5, 2) := by decide +kernel
theorem dL_law_892 : decode cL_law 892 = .ok (.aload_n 2, 1) := by decide +kernel
theorem dL_law_893 : decode cL_law 893 = .ok (.aload_n 0, 1) := by decide +kernel
theorem dL_law_894 : decode cL_law 894 = .ok (.iload 4, 2) := by decide +kernel
theorem dL_law_896 : decode cL_law 896 = .ok (.iconst 1, 1) := by decide +kernel
theorem dL_law_897 : decode cL_law 897 = .ok (.iadd, 1) := by decide +kernel
theorem dL_law_898 : decode cL_law 898 = .ok (.iaload, 1) := by decide +kernel
theorem dL_law_899 : decode cL_law 899 = .ok (.invokevirtual 129, 3) := by decide +kernel
theorem dL_law_902 : decode cL_law 902 = .ok (.istore 6, 2) := by decide +kernel
theorem dL_law_904 : decode cL_law 904 = .ok (.aload_n 2, 1) := by decide +kernel
theorem dL_law_905 : decode cL_law 905 = .ok (.invokevirtual 84, 3) := by decide +kernel
theorem dL_law_908 : decode cL_law 908 = .ok (.iload 5, 2) := by decide +kernel
theorem dL_law_910 : decode cL_law 910 = .ok (.if_icmp .eq 5, 3) := by decide +kernel
theorem dL_law_913 : decode cL_law 913 = .ok (.iconst 0, 1) := by decide +kernel
theorem dL_law_914 : decode cL_law 914 = .ok (.ireturn, 1) := by decide +kernel
theorem dL_law_915 : decode cL_law 915 = .ok (.iload 5, 2) := by decide +kernel
theorem dL_law_917 : decode cL_law 917 = .ok (.ifCond .ne 15, 3) := by decide +kernel
theorem dL_law_920 : decode cL_law 920 = .ok (.aload_n 3, 1) := by decide +kernel
theorem dL_law_921 : decode cL_law 921 = .ok (.iconst 0, 1) := by decide +kernel
theorem dL_law_922 : decode cL_law 922 = .ok (.laload, 1) := by decide +kernel
theorem dL_law_923 : decode cL_law 923 = .ok (.iload 6, 2) := by decide +kernel
theorem dL_law_925 : decode cL_law 925 = .ok (.i2l, 1) := by decide +kernel
theorem dL_law_926 : decode cL_law 926 = .ok (.lcmp, 1) := by decide +kernel
theorem dL_law_927 : decode cL_law 927 = .ok (.ifCond .eq 5, 3) := by decide +kernel
theorem dL_law_930 : decode cL_law 930 = .ok (.iconst 0, 1) := by decide +kernel
theorem dL_law_931 : decode cL_law 931 = .ok (.ireturn, 1) := by decide +kernel
theorem dL_law_932 : decode cL_law 932 = .ok (.goto 401, 3) := by decide +kernel
theorem dL_law_935 : decode cL_law 935 = .ok (.aload_n 1, 1) := by decide +kernel
theorem dL_law_936 : decode cL_law 936 = .ok (.aload_n 0, 1) := by decide +kernel
theorem dL_law_937 : decode cL_law 937 = .ok (.iload 4, 2) := by decide +kernel
theorem dL_law_939 : decode cL_law 939 = .ok (.iconst 1, 1) := by decide +kernel
theorem dL_law_940 : decode cL_law 940 = .ok (.iadd, 1) := by decide +kernel
theorem dL_law_941 : decode cL_law 941 = .ok (.iaload, 1) := by decide +kernel
theorem dL_law_942 : decode cL_law 942 = .ok (.aload_n 3, 1) := by decide +kernel
theorem dL_law_943 : decode cL_law 943 = .ok (.invokestatic 130, 3) := by decide +kernel
theorem dL_law_946 : decode cL_law 946 = .ok (.istore 5, 2) := by decide +kernel
theorem dL_law_948 : decode cL_law 948 = .ok (.aload_n 2, 1) := by decide +kernel
theorem dL_law_949 : decode cL_law 949 = .ok (.aload_n 0, 1) := by decide +kernel
theorem dL_law_950 : decode cL_law 950 = .ok (.iload 4, 2) := by decide +kernel
theorem dL_law_952 : decode cL_law 952 = .ok (.iconst 1, 1) := by decide +kernel
theorem dL_law_953 : decode cL_law 953 = .ok (.iadd, 1) := by decide +kernel
theorem dL_law_954 : decode cL_law 954 = .ok (.iaload, 1) := by decide +kernel
theorem dL_law_955 : decode cL_law 955 = .ok (.invokevirtual 132, 3) := by decide +kernel
theorem dL_law_958 : decode cL_law 958 = .ok (.istore 6, 2) := by decide +kernel
theorem dL_law_960 : decode cL_law 960 = .ok (.aload_n 2, 1) := by decide +kernel
theorem dL_law_961 : decode cL_law 961 = .ok (.invokevirtual 84, 3) := by decide +kernel
theorem dL_law_964 : decode cL_law 964 = .ok (.iload 5, 2) := by decide +kernel
theorem dL_law_966 : decode cL_law 966 = .ok (.if_icmp .eq 5, 3) := by decide +kernel
theorem dL_law_969 : decode cL_law 969 = .ok (.iconst 0, 1) := by decide +kernel
theorem dL_law_970 : decode cL_law 970 = .ok (.ireturn, 1) := by decide +kernel
theorem dL_law_971 : decode cL_law 971 = .ok (.iload 5, 2) := by decide +kernel
theorem dL_law_973 : decode cL_law 973 = .ok (.ifCond .ne 15, 3) := by decide +kernel
theorem dL_law_976 : decode cL_law 976 = .ok (.aload_n 3, 1) := by decide +kernel
theorem dL_law_977 : decode cL_law 977 = .ok (.iconst 0, 1) := by decide +kernel
theorem dL_law_978 : decode cL_law 978 = .ok (.laload, 1) := by decide +kernel
theorem dL_law_979 : decode cL_law 979 = .ok (.iload 6, 2) := by decide +kernel
theorem dL_law_981 : decode cL_law 981 = .ok (.i2l, 1) := by decide +kernel
theorem dL_law_982 : decode cL_law 982 = .ok (.lcmp, 1) := by decide +kernel
theorem dL_law_983 : decode cL_law 983 = .ok (.ifCond .eq 5, 3) := by decide +kernel
theorem dL_law_986 : decode cL_law 986 = .ok (.iconst 0, 1) := by decide +kernel
theorem dL_law_987 : decode cL_law 987 = .ok (.ireturn, 1) := by decide +kernel
theorem dL_law_988 : decode cL_law 988 = .ok (.goto 345, 3) := by decide +kernel
theorem dL_law_991 : decode cL_law 991 = .ok (.aload_n 1, 1) := by decide +kernel
theorem dL_law_992 : decode cL_law 992 = .ok (.aload_n 0, 1) := by decide +kernel
theorem dL_law_993 : decode cL_law 993 = .ok (.iload 4, 2) := by decide +kernel
theorem dL_law_995 : decode cL_law 995 = .ok (.iconst 1, 1) := by decide +kernel
theorem dL_law_996 : decode cL_law 996 = .ok (.iadd, 1) := by decide +kernel
theorem dL_law_997 : decode cL_law 997 = .ok (.iaload, 1) := by decide +kernel
theorem dL_law_998 : decode cL_law 998 = .ok (.aload_n 0, 1) := by decide +kernel
theorem dL_law_999 : decode cL_law 999 = .ok (.iload 4, 2) := by decide +kernel
theorem dL_law_1001 : decode cL_law 1001 = .ok (.iconst 2, 1) := by decide +kernel
theorem dL_law_1002 : decode cL_law 1002 = .ok (.iadd, 1) := by decide +kernel
theorem dL_law_1003 : decode cL_law 1003 = .ok (.iaload, 1) := by decide +kernel
theorem dL_law_1004 : decode cL_law 1004 = .ok (.aload_n 3, 1) := by decide +kernel
theorem dL_law_1005 : decode cL_law 1005 = .ok (.invokestatic 133, 3) := by decide +kernel
theorem dL_law_1008 : decode cL_law 1008 = .ok (.istore 5, 2) := by decide +kernel
theorem dL_law_1010 : decode cL_law 1010 = .ok (.aload_n 2, 1) := by decide +kernel
theorem dL_law_1011 : decode cL_law 1011 = .ok (.aload_n 0, 1) := by decide +kernel
theorem dL_law_1012 : decode cL_law 1012 = .ok (.iload 4, 2) := by decide +kernel
theorem dL_law_1014 : decode cL_law 1014 = .ok (.iconst 1, 1) := by decide +kernel
theorem dL_law_1015 : decode cL_law 1015 = .ok (.iadd, 1) := by decide +kernel
theorem dL_law_1016 : decode cL_law 1016 = .ok (.iaload, 1) := by decide +kernel
theorem dL_law_1017 : decode cL_law 1017 = .ok (.aload_n 0, 1) := by decide +kernel
theorem dL_law_1018 : decode cL_law 1018 = .ok (.iload 4, 2) := by decide +kernel
theorem dL_law_1020 : decode cL_law 1020 = .ok (.iconst 2, 1) := by decide +kernel
theorem dL_law_1021 : decode cL_law 1021 = .ok (.iadd, 1) := by decide +kernel
theorem dL_law_1022 : decode cL_law 1022 = .ok (.iaload, 1) := by decide +kernel
theorem dL_law_1023 : decode cL_law 1023 = .ok (.invokevirtual 135, 3) := by decide +kernel
theorem dL_law_1026 : decode cL_law 1026 = .ok (.istore 6, 2) := by decide +kernel
theorem dL_law_1028 : decode cL_law 1028 = .ok (.aload_n 2, 1) := by decide +kernel
theorem dL_law_1029 : decode cL_law 1029 = .ok (.invokevirtual 84, 3) := by decide +kernel
theorem dL_law_1032 : decode cL_law 1032 = .ok (.iload 5, 2) := by decide +kernel
theorem dL_law_1034 : decode cL_law 1034 = .ok (.if_icmp .eq 5, 3) := by decide +kernel
theorem dL_law_1037 : decode cL_law 1037 = .ok (.iconst 0, 1) := by decide +kernel
theorem dL_law_1038 : decode cL_law 1038 = .ok (.ireturn, 1) := by decide +kernel
theorem dL_law_1039 : decode cL_law 1039 = .ok (.iload 5, 2) := by decide +kernel
theorem dL_law_1041 : decode cL_law 1041 = .ok (.ifCond .ne 15, 3) := by decide +kernel
theorem dL_law_1044 : decode cL_law 1044 = .ok (.aload_n 3, 1) := by decide +kernel
theorem dL_law_1045 : decode cL_law 1045 = .ok (.iconst 0, 1) := by decide +kernel
theorem dL_law_1046 : decode cL_law 1046 = .ok (.laload, 1) := by decide +kernel
theorem dL_law_1047 : decode cL_law 1047 = .ok (.iload 6, 2) := by decide +kernel
theorem dL_law_1049 : decode cL_law 1049 = .ok (.i2l, 1) := by decide +kernel
theorem dL_law_1050 : decode cL_law 1050 = .ok (.lcmp, 1) := by decide +kernel
theorem dL_law_1051 : decode cL_law 1051 = .ok (.ifCond .eq 5, 3) := by decide +kernel
theorem dL_law_1054 : decode cL_law 1054 = .ok (.iconst 0, 1) := by decide +kernel
theorem dL_law_1055 : decode cL_law 1055 = .ok (.ireturn, 1) := by decide +kernel
theorem dL_law_1056 : decode cL_law 1056 = .ok (.goto 277, 3) := by decide +kernel
theorem dL_law_1059 : decode cL_law 1059 = .ok (.aload_n 1, 1) := by decide +kernel
theorem dL_law_1060 : decode cL_law 1060 = .ok (.aload_n 0, 1) := by decide +kernel
theorem dL_law_1061 : decode cL_law 1061 = .ok (.iload 4, 2) := by decide +kernel
theorem dL_law_1063 : decode cL_law 1063 = .ok (.iconst 1, 1) := by decide +kernel
theorem dL_law_1064 : decode cL_law 1064 = .ok (.iadd, 1) := by decide +kernel
theorem dL_law_1065 : decode cL_law 1065 = .ok (.iaload, 1) := by decide +kernel
theorem dL_law_1066 : decode cL_law 1066 = .ok (.aload_n 0, 1) := by decide +kernel
theorem dL_law_1067 : decode cL_law 1067 = .ok (.iload 4, 2) := by decide +kernel
theorem dL_law_1069 : decode cL_law 1069 = .ok (.iconst 2, 1) := by decide +kernel
theorem dL_law_1070 : decode cL_law 1070 = .ok (.iadd, 1) := by decide +kernel
theorem dL_law_1071 : decode cL_law 1071 = .ok (.iaload, 1) := by decide +kernel
theorem dL_law_1072 : decode cL_law 1072 = .ok (.aload_n 3, 1) := by decide +kernel
theorem dL_law_1073 : decode cL_law 1073 = .ok (.invokestatic 136, 3) := by decide +kernel
theorem dL_law_1076 : decode cL_law 1076 = .ok (.istore 5, 2) := by decide +kernel
theorem dL_law_1078 : decode cL_law 1078 = .ok (.aload_n 2, 1) := by decide +kernel
theorem dL_law_1079 : decode cL_law 1079 = .ok (.aload_n 0, 1) := by decide +kernel
theorem dL_law_1080 : decode cL_law 1080 = .ok (.iload 4, 2) := by decide +kernel
theorem dL_law_1082 : decode cL_law 1082 = .ok (.iconst 1, 1) := by decide +kernel
theorem dL_law_1083 : decode cL_law 1083 = .ok (.iadd, 1) := by decide +kernel
theorem dL_law_1084 : decode cL_law 1084 = .ok (.iaload, 1) := by decide +kernel
theorem dL_law_1085 : decode cL_law 1085 = .ok (.aload_n 0, 1) := by decide +kernel
theorem dL_law_1086 : decode cL_law 1086 = .ok (.iload 4, 2) := by decide +kernel
theorem dL_law_1088 : decode cL_law 1088 = .ok (.iconst 2, 1) := by decide +kernel
theorem dL_law_1089 : decode cL_law 1089 = .ok (.iadd, 1) := by decide +kernel
theorem dL_law_1090 : decode cL_law 1090 = .ok (.iaload, 1) := by decide +kernel
theorem dL_law_1091 : decode cL_law 1091 = .ok (.invokevirtual 138, 3) := by decide +kernel
theorem dL_law_1094 : decode cL_law 1094 = .ok (.istore 6, 2) := by decide +kernel
theorem dL_law_1096 : decode cL_law 1096 = .ok (.aload_n 2, 1) := by decide +kernel
theorem dL_law_1097 : decode cL_law 1097 = .ok (.invokevirtual 84, 3) := by decide +kernel
theorem dL_law_1100 : decode cL_law 1100 = .ok (.iload 5, 2) := by decide +kernel
theorem dL_law_1102 : decode cL_law 1102 = .ok (.if_icmp .eq 5, 3) := by decide +kernel
theorem dL_law_1105 : decode cL_law 1105 = .ok (.iconst 0, 1) := by decide +kernel
theorem dL_law_1106 : decode cL_law 1106 = .ok (.ireturn, 1) := by decide +kernel
theorem dL_law_1107 : decode cL_law 1107 = .ok (.iload 5, 2) := by decide +kernel
theorem dL_law_1109 : decode cL_law 1109 = .ok (.ifCond .ne 15, 3) := by decide +kernel
theorem dL_law_1112 : decode cL_law 1112 = .ok (.aload_n 3, 1) := by decide +kernel
theorem dL_law_1113 : decode cL_law 1113 = .ok (.iconst 0, 1) := by decide +kernel
theorem dL_law_1114 : decode cL_law 1114 = .ok (.laload, 1) := by decide +kernel
theorem dL_law_1115 : decode cL_law 1115 = .ok (.iload 6, 2) := by decide +kernel
theorem dL_law_1117 : decode cL_law 1117 = .ok (.i2l, 1) := by decide +kernel
theorem dL_law_1118 : decode cL_law 1118 = .ok (.lcmp, 1) := by decide +kernel
theorem dL_law_1119 : decode cL_law 1119 = .ok (.ifCond .eq 5, 3) := by decide +kernel
theorem dL_law_1122 : decode cL_law 1122 = .ok (.iconst 0, 1) := by decide +kernel
theorem dL_law_1123 : decode cL_law 1123 = .ok (.ireturn, 1) := by decide +kernel
theorem dL_law_1124 : decode cL_law 1124 = .ok (.goto 209, 3) := by decide +kernel
theorem dL_law_1127 : decode cL_law 1127 = .ok (.aload_n 1, 1) := by decide +kernel
theorem dL_law_1128 : decode cL_law 1128 = .ok (.invokevirtual 139, 3) := by decide +kernel
theorem dL_law_1131 : decode cL_law 1131 = .ok (.aload_n 2, 1) := by decide +kernel
theorem dL_law_1132 : decode cL_law 1132 = .ok (.invokevirtual 142, 3) := by decide +kernel
theorem dL_law_1135 : decode cL_law 1135 = .ok (.if_icmp .eq 198, 3) := by decide +kernel
theorem dL_law_1138 : decode cL_law 1138 = .ok (.iconst 0, 1) := by decide +kernel
theorem dL_law_1139 : decode cL_law 1139 = .ok (.ireturn, 1) := by decide +kernel
theorem dL_law_1140 : decode cL_law 1140 = .ok (.aload_n 1, 1) := by decide +kernel
theorem dL_law_1141 : decode cL_law 1141 = .ok (.invokevirtual 143, 3) := by decide +kernel
theorem dL_law_1144 : decode cL_law 1144 = .ok (.aload_n 2, 1) := by decide +kernel
theorem dL_law_1145 : decode cL_law 1145 = .ok (.invokevirtual 146, 3) := by decide +kernel
theorem dL_law_1148 : decode cL_law 1148 = .ok (.if_icmp .eq 185, 3) := by decide +kernel
theorem dL_law_1151 : decode cL_law 1151 = .ok (.iconst 0, 1) := by decide +kernel
theorem dL_law_1152 : decode cL_law 1152 = .ok (.ireturn, 1) := by decide +kernel
theorem dL_law_1153 : decode cL_law 1153 = .ok (.aload_n 1, 1) := by decide +kernel
theorem dL_law_1154 : decode cL_law 1154 = .ok (.aload_n 0, 1) := by decide +kernel
theorem dL_law_1155 : decode cL_law 1155 = .ok (.iload 4, 2) := by decide +kernel
theorem dL_law_1157 : decode cL_law 1157 = .ok (.iconst 1, 1) := by decide +kernel
theorem dL_law_1158 : decode cL_law 1158 = .ok (.iadd, 1) := by decide +kernel
theorem dL_law_1159 : decode cL_law 1159 = .ok (.iaload, 1) := by decide +kernel
theorem dL_law_1160 : decode cL_law 1160 = .ok (.aload_n 3, 1) := by decide +kernel
theorem dL_law_1161 : decode cL_law 1161 = .ok (.invokestatic 147, 3) := by decide +kernel
theorem dL_law_1164 : decode cL_law 1164 = .ok (.istore 5, 2) := by decide +kernel
theorem dL_law_1166 : decode cL_law 1166 = .ok (.aload_n 2, 1) := by decide +kernel
theorem dL_law_1167 : decode cL_law 1167 = .ok (.aload_n 0, 1) := by decide +kernel
theorem dL_law_1168 : decode cL_law 1168 = .ok (.iload 4, 2) := by decide +kernel
theorem dL_law_1170 : decode cL_law 1170 = .ok (.iconst 1, 1) := by decide +kernel
theorem dL_law_1171 : decode cL_law 1171 = .ok (.iadd, 1) := by decide +kernel
theorem dL_law_1172 : decode cL_law 1172 = .ok (.iaload, 1) := by decide +kernel
theorem dL_law_1173 : decode cL_law 1173 = .ok (.invokevirtual 149, 3) := by decide +kernel
theorem dL_law_1176 : decode cL_law 1176 = .ok (.istore 6, 2) := by decide +kernel
theorem dL_law_1178 : decode cL_law 1178 = .ok (.aload_n 2, 1) := by decide +kernel
theorem dL_law_1179 : decode cL_law 1179 = .ok (.invokevirtual 84, 3) := by decide +kernel
theorem dL_law_1182 : decode cL_law 1182 = .ok (.iload 5, 2) := by decide +kernel
theorem dL_law_1184 : decode cL_law 1184 = .ok (.if_icmp .eq 5, 3) := by decide +kernel
theorem dL_law_1187 : decode cL_law 1187 = .ok (.iconst 0, 1) := by decide +kernel
theorem dL_law_1188 : decode cL_law 1188 = .ok (.ireturn, 1) := by decide +kernel
theorem dL_law_1189 : decode cL_law 1189 = .ok (.iload 5, 2) := by decide +kernel
theorem dL_law_1191 : decode cL_law 1191 = .ok (.ifCond .ne 15, 3) := by decide +kernel
theorem dL_law_1194 : decode cL_law 1194 = .ok (.aload_n 3, 1) := by decide +kernel
theorem dL_law_1195 : decode cL_law 1195 = .ok (.iconst 0, 1) := by decide +kernel
theorem dL_law_1196 : decode cL_law 1196 = .ok (.laload, 1) := by decide +kernel
theorem dL_law_1197 : decode cL_law 1197 = .ok (.iload 6, 2) := by decide +kernel
theorem dL_law_1199 : decode cL_law 1199 = .ok (.i2l, 1) := by decide +kernel
theorem dL_law_1200 : decode cL_law 1200 = .ok (.lcmp, 1) := by decide +kernel
theorem dL_law_1201 : decode cL_law 1201 = .ok (.ifCond .eq 5, 3) := by decide +kernel
theorem dL_law_1204 : decode cL_law 1204 = .ok (.iconst 0, 1) := by decide +kernel
theorem dL_law_1205 : decode cL_law 1205 = .ok (.ireturn, 1) := by decide +kernel
theorem dL_law_1206 : decode cL_law 1206 = .ok (.goto 127, 3) := by decide +kernel
theorem dL_law_1209 : decode cL_law 1209 = .ok (.aload_n 1, 1) := by decide +kernel
theorem dL_law_1210 : decode cL_law 1210 = .ok (.aload_n 0, 1) := by decide +kernel
theorem dL_law_1211 : decode cL_law 1211 = .ok (.iload 4, 2) := by decide +kernel
theorem dL_law_1213 : decode cL_law 1213 = .ok (.iconst 1, 1) := by decide +kernel
theorem dL_law_1214 : decode cL_law 1214 = .ok (.iadd, 1) := by decide +kernel
theorem dL_law_1215 : decode cL_law 1215 = .ok (.iaload, 1) := by decide +kernel
theorem dL_law_1216 : decode cL_law 1216 = .ok (.aload_n 3, 1) := by decide +kernel
theorem dL_law_1217 : decode cL_law 1217 = .ok (.invokestatic 150, 3) := by decide +kernel
theorem dL_law_1220 : decode cL_law 1220 = .ok (.istore 5, 2) := by decide +kernel
theorem dL_law_1222 : decode cL_law 1222 = .ok (.aload_n 2, 1) := by decide +kernel
theorem dL_law_1223 : decode cL_law 1223 = .ok (.aload_n 0, 1) := by decide +kernel
theorem dL_law_1224 : decode cL_law 1224 = .ok (.iload 4, 2) := by decide +kernel
theorem dL_law_1226 : decode cL_law 1226 = .ok (.iconst 1, 1) := by decide +kernel
theorem dL_law_1227 : decode cL_law 1227 = .ok (.iadd, 1) := by decide +kernel
theorem dL_law_1228 : decode cL_law 1228 = .ok (.iaload, 1) := by decide +kernel
theorem dL_law_1229 : decode cL_law 1229 = .ok (.invokevirtual 152, 3) := by decide +kernel
theorem dL_law_1232 : decode cL_law 1232 = .ok (.istore 6, 2) := by decide +kernel
theorem dL_law_1234 : decode cL_law 1234 = .ok (.aload_n 2, 1) := by decide +kernel
theorem dL_law_1235 : decode cL_law 1235 = .ok (.invokevirtual 84, 3) := by decide +kernel
theorem dL_law_1238 : decode cL_law 1238 = .ok (.iload 5, 2) := by decide +kernel
theorem dL_law_1240 : decode cL_law 1240 = .ok (.if_icmp .eq 5, 3) := by decide +kernel
theorem dL_law_1243 : decode cL_law 1243 = .ok (.iconst 0, 1) := by decide +kernel
theorem dL_law_1244 : decode cL_law 1244 = .ok (.ireturn, 1) := by decide +kernel
theorem dL_law_1245 : decode cL_law 1245 = .ok (.iload 5, 2) := by decide +kernel
theorem dL_law_1247 : decode cL_law 1247 = .ok (.ifCond .ne 15, 3) := by decide +kernel
theorem dL_law_1250 : decode cL_law 1250 = .ok (.aload_n 3, 1) := by decide +kernel
theorem dL_law_1251 : decode cL_law 1251 = .ok (.iconst 0, 1) := by decide +kernel
theorem dL_law_1252 : decode cL_law 1252 = .ok (.laload, 1) := by decide +kernel
theorem dL_law_1253 : decode cL_law 1253 = .ok (.iload 6, 2) := by decide +kernel
theorem dL_law_1255 : decode cL_law 1255 = .ok (.i2l, 1) := by decide +kernel
theorem dL_law_1256 : decode cL_law 1256 = .ok (.lcmp, 1) := by decide +kernel
theorem dL_law_1257 : decode cL_law 1257 = .ok (.ifCond .eq 5, 3) := by decide +kernel
theorem dL_law_1260 : decode cL_law 1260 = .ok (.iconst 0, 1) := by decide +kernel
theorem dL_law_1261 : decode cL_law 1261 = .ok (.ireturn, 1) := by decide +kernel
theorem dL_law_1262 : decode cL_law 1262 = .ok (.goto 71, 3) := by decide +kernel
theorem dL_law_1265 : decode cL_law 1265 = .ok (.aload_n 1, 1) := by decide +kernel
theorem dL_law_1266 : decode cL_law 1266 = .ok (.aload_n 0, 1) := by decide +kernel
theorem dL_law_1267 : decode cL_law 1267 = .ok (.iload 4, 2) := by decide +kernel
theorem dL_law_1269 : decode cL_law 1269 = .ok (.iconst 1, 1) := by decide +kernel
theorem dL_law_1270 : decode cL_law 1270 = .ok (.iadd, 1) := by decide +kernel
theorem dL_law_1271 : decode cL_law 1271 = .ok (.iaload, 1) := by decide +kernel
theorem dL_law_1272 : decode cL_law 1272 = .ok (.aload_n 0, 1) := by decide +kernel
theorem dL_law_1273 : decode cL_law 1273 = .ok (.iload 4, 2) := by decide +kernel
theorem dL_law_1275 : decode cL_law 1275 = .ok (.iconst 2, 1) := by decide +kernel
theorem dL_law_1276 : decode cL_law 1276 = .ok (.iadd, 1) := by decide +kernel
theorem dL_law_1277 : decode cL_law 1277 = .ok (.iaload, 1) := by decide +kernel
theorem dL_law_1278 : decode cL_law 1278 = .ok (.aload_n 3, 1) := by decide +kernel
theorem dL_law_1279 : decode cL_law 1279 = .ok (.invokestatic 153, 3) := by decide +kernel
theorem dL_law_1282 : decode cL_law 1282 = .ok (.istore 5, 2) := by decide +kernel
theorem dL_law_1284 : decode cL_law 1284 = .ok (.aload_n 2, 1) := by decide +kernel
theorem dL_law_1285 : decode cL_law 1285 = .ok (.aload_n 0, 1) := by decide +kernel
theorem dL_law_1286 : decode cL_law 1286 = .ok (.iload 4, 2) := by decide +kernel
theorem dL_law_1288 : decode cL_law 1288 = .ok (.iconst 1, 1) := by decide +kernel
theorem dL_law_1289 : decode cL_law 1289 = .ok (.iadd, 1) := by decide +kernel
theorem dL_law_1290 : decode cL_law 1290 = .ok (.iaload, 1) := by decide +kernel
theorem dL_law_1291 : decode cL_law 1291 = .ok (.aload_n 0, 1) := by decide +kernel
theorem dL_law_1292 : decode cL_law 1292 = .ok (.iload 4, 2) := by decide +kernel
theorem dL_law_1294 : decode cL_law 1294 = .ok (.iconst 2, 1) := by decide +kernel
theorem dL_law_1295 : decode cL_law 1295 = .ok (.iadd, 1) := by decide +kernel
theorem dL_law_1296 : decode cL_law 1296 = .ok (.iaload, 1) := by decide +kernel
theorem dL_law_1297 : decode cL_law 1297 = .ok (.invokevirtual 155, 3) := by decide +kernel
theorem dL_law_1300 : decode cL_law 1300 = .ok (.istore 6, 2) := by decide +kernel
theorem dL_law_1302 : decode cL_law 1302 = .ok (.aload_n 2, 1) := by decide +kernel
theorem dL_law_1303 : decode cL_law 1303 = .ok (.invokevirtual 84, 3) := by decide +kernel
theorem dL_law_1306 : decode cL_law 1306 = .ok (.iload 5, 2) := by decide +kernel
theorem dL_law_1308 : decode cL_law 1308 = .ok (.if_icmp .eq 5, 3) := by decide +kernel
theorem dL_law_1311 : decode cL_law 1311 = .ok (.iconst 0, 1) := by decide +kernel
theorem dL_law_1312 : decode cL_law 1312 = .ok (.ireturn, 1) := by decide +kernel
theorem dL_law_1313 : decode cL_law 1313 = .ok (.iload 5, 2) := by decide +kernel
theorem dL_law_1315 : decode cL_law 1315 = .ok (.ifCond .ne 15, 3) := by decide +kernel
theorem dL_law_1318 : decode cL_law 1318 = .ok (.aload_n 3, 1) := by decide +kernel
theorem dL_law_1319 : decode cL_law 1319 = .ok (.iconst 0, 1) := by decide +kernel
theorem dL_law_1320 : decode cL_law 1320 = .ok (.laload, 1) := by decide +kernel
theorem dL_law_1321 : decode cL_law 1321 = .ok (.iload 6, 2) := by decide +kernel
theorem dL_law_1323 : decode cL_law 1323 = .ok (.i2l, 1) := by decide +kernel
theorem dL_law_1324 : decode cL_law 1324 = .ok (.lcmp, 1) := by decide +kernel
theorem dL_law_1325 : decode cL_law 1325 = .ok (.ifCond .eq 5, 3) := by decide +kernel
theorem dL_law_1328 : decode cL_law 1328 = .ok (.iconst 0, 1) := by decide +kernel
theorem dL_law_1329 : decode cL_law 1329 = .ok (.ireturn, 1) := by decide +kernel
theorem dL_law_1330 : decode cL_law 1330 = .ok (.goto 3, 3) := by decide +kernel
theorem dL_law_1333 : decode cL_law 1333 = .ok (.iinc 4 5, 3) := by decide +kernel
theorem dL_law_1336 : decode cL_law 1336 = .ok (.goto (-1313), 3) := by decide +kernel
theorem dL_law_1339 : decode cL_law 1339 = .ok (.iconst 1, 1) := by decide +kernel
theorem dL_law_1340 : decode cL_law 1340 = .ok (.ireturn, 1) := by decide +kernel
abbrev vwCl : List vw_C := [(RJx4a65c, TJx4a65c, 3), (RX0, TX0, 2), (RX1, TX1, 3), (RX2, TX2, 4), (RX3, TX3, 5), (RX4, TX4, 4), (RX5, TX5, 7), (RX6, TX6, 22)]
/-! ===== END printed: names ===== -/
end
section
/-! helper rows of this claim: new cells alone, the premises that every method carries, calls -/
/-- cells that come from sz on -/
def gb_ro (sz : Nat) : Nat → Prop := fun q => sz ≤ q
abbrev gb_yx (C : String) : MethodName := ⟨C, "<init>", "(Ljava/lang/String;)V"⟩
/-- what the tables say -/
def gb_ZT (kS : Nat → Nat) (U : State) : Prop :=
  (va_Nw (.castable "java/lang/IndexOutOfBoundsException" "java/lang/IndexOutOfBoundsException") U ∧ va_Nw (.castable "java/lang/IllegalArgumentException" "java/lang/IllegalArgumentException") U) ∧
  (va_Nw (.declares (gb_yx "java/lang/RuntimeException")) U ∧ va_Nw (.declares (gb_yx "java/lang/Exception")) U ∧ va_Nw (.declares (gb_yx "java/lang/Throwable")) U) ∧
  (va_Nw (.castable RX1 "java/lang/Object") U ∧ va_Nw (.castable RX2 "java/lang/Object") U ∧ va_Nw (.castable RX3 "java/lang/Object") U ∧ va_Nw (.castable RX4 "java/lang/Object") U) ∧
  (va_Nw (.methodLinkNest RX5 27 yX0_init RX5) U ∧ va_Nw (.methodLinkNest RX1 9 yX0_init RX5) U) ∧
  va_AO "java/lang/Object" U ∧
  va_Nc "java/lang/IllegalArgumentException" "java/lang/IndexOutOfBoundsException" U ∧
  (vk_R RX5 196 "there is no such number" (kS 0) U ∧ vk_R RX5 199 "an argument is out of its range" (kS 1) U ∧ vk_R RX5 188 "crew is below 0" (kS 2) U)
theorem gb_ZT.warm {kS : Nat → Nat} {s U : State} (hW : s.WarmedH U.vm) (h : gb_ZT kS s) : gb_ZT kS U := by
  obtain ⟨⟨a1, a2⟩, ⟨b1, b2, b3⟩, ⟨c1, c2, c3, c4⟩, ⟨d1, d2⟩, e1, f1, g1, g2, g3⟩ := h
  exact ⟨⟨va_Nw.warmC hW a1, va_Nw.warmC hW a2⟩, ⟨va_Nw.warmD hW b1, va_Nw.warmD hW b2, va_Nw.warmD hW b3⟩, ⟨va_Nw.warmC hW c1, va_Nw.warmC hW c2, va_Nw.warmC hW c3, va_Nw.warmC hW c4⟩, ⟨va_Nw.warmM hW d1, va_Nw.warmM hW d2⟩, va_AO.moved hW.alike e1, va_Nc.moved hW.alike f1, vk_R.warm hW g1, vk_R.warm hW g2, vk_R.warm hW g3⟩
theorem gb_ZT.same {kS : Nat → Nat} {u U : State} (hv : u.vm = U.vm) (h : gb_ZT kS u) : gb_ZT kS U := by
  have hA : u.vm.Alike U.vm := hv ▸ Vm.Alike.refl u.vm
  obtain ⟨⟨a1, a2⟩, ⟨b1, b2, b3⟩, ⟨c1, c2, c3, c4⟩, ⟨d1, d2⟩, e1, f1, g1, g2, g3⟩ := h
  exact ⟨⟨va_Nw.same rfl hv a1, va_Nw.same rfl hv a2⟩, ⟨va_Nw.same rfl hv b1, va_Nw.same rfl hv b2, va_Nw.same rfl hv b3⟩, ⟨va_Nw.same rfl hv c1, va_Nw.same rfl hv c2, va_Nw.same rfl hv c3, va_Nw.same rfl hv c4⟩, ⟨va_Nw.same rfl hv d1, va_Nw.same rfl hv d2⟩, va_AO.moved hA e1, va_Nc.moved hA f1, vk_R.same hv.symm g1, vk_R.same hv.symm g2, vk_R.same hv.symm g3⟩
/-- what the statics hold -/
def gb_ZH (tE : Nat) (A : Nat → Prop) (U : State) (H : Heap) : Prop :=
  vx_Zq "java/lang/Throwable" "UNASSIGNED_STACK" "[Ljava/lang/StackTraceElement;" A U H ∧ vx_Zq "java/lang/Throwable" "SUPPRESSED_SENTINEL" "Ljava/util/List;" A U H ∧
  va_Z "java/util/ArrayList" "DEFAULTCAPACITY_EMPTY_ELEMENTDATA" "[Ljava/lang/Object;" (.ref tE) A U H ∧ va_T (.object "java/lang/Object") tE 0 (fun _ => .null) A U H
theorem gb_ZH.moved {tE : Nat} {A : Nat → Prop} {u U : State} {H : Heap} (hA : u.vm.Alike U.vm) (h : gb_ZH tE A u H) : gb_ZH tE A U H :=
  ⟨vx_Zq.moved hA h.1, vx_Zq.moved hA h.2.1, va_Z.moved hA h.2.2.1, va_T.moved hA h.2.2.2⟩
theorem gb_ZH.to {tE : Nat} {A A1 : Nat → Prop} {s U : State} {H : Heap} {locs : List Loc} (h : gb_ZH tE A s s.heap) (hS : va_S A s.heap H locs) (hF : ∀ q, A1 q → A q) (hA : s.vm.Alike U.vm) : gb_ZH tE A1 U H :=
  gb_ZH.moved hA ⟨(h.1.kept hS.2.1).narrow hF, (h.2.1.kept hS.2.1).narrow hF, (h.2.2.1.kept hS.2.1).narrow hF, (h.2.2.2.kept hS.2.1).narrow hF⟩
/-- a method's start: its world, and the premises -/
def gb_Pw (kS : Nat → Nat) (tE : Nat) (A : Nat → Prop) (D : va_G) (tys : List (ClassId × FieldType)) (ws : va_W) (sz : Nat) (U : State) : Prop :=
  U.heap.size = sz ∧ gb_ZT kS U ∧ gb_ZH tE A U U.heap ∧ va_P D vwCl ws U.heap ∧ va_K D vwCl tys U ∧ va_D (fun _ => True) ws
theorem gb_Pw.blind {av : List Value} {kS : Nat → Nat} {tE : Nat} {A : Nat → Prop} {D : va_G} {tys : List (ClassId × FieldType)} {ws : va_W} {sz : Nat} : FrameBlind (va_Pc av (gb_Pw kS tE A D tys ws sz)) := by
  intro a U g mk h
  obtain ⟨q0, q1, q2, q3, q4, q5, q6⟩ := h
  exact ⟨q0, q1, gb_ZT.same (u := U) (U := U.calling g mk a) rfl q2, gb_ZH.moved (u := U) (U := U.calling g mk a) (Vm.Alike.refl U.vm) q3, q4, va_K.moved (u := U) (U := U.calling g mk a) (Vm.Alike.refl U.vm) q5, q6⟩
theorem gb_preS {As : List Value} {kS : Nat → Nat} {tE : Nat} {A A1 A2 : Nat → Prop} {D : va_G} {tys : List (ClassId × FieldType)} {wc : va_W} {s : State} {H : Heap} {locs : List Loc} (hZT : gb_ZT kS s) (hZ : gb_ZH tE A s s.heap) (hS : va_S A s.heap H locs) (hF : ∀ q, A1 q → A q) (hP : va_P D vwCl wc H) (hD : va_D A2 wc) (hK : va_K D vwCl tys s) : PreS s H (va_Pc As (gb_Pw kS tE A1 D tys wc H.size)) As :=
  ⟨gb_Pw.blind, fun U hU hW => ⟨rfl, by rw [hU], hZT.warm hW, by rw [hU]; exact hZ.to hS hF hW.alike, by rw [hU]; exact hP, va_K.moved hW.alike hK, hD.weaken (fun _ _ _ _ => trivial)⟩⟩
theorem gb_preV {C : String} {b : Nat} {As : List Value} {kS : Nat → Nat} {tE : Nat} {A A1 A2 : Nat → Prop} {D : va_G} {tys : List (ClassId × FieldType)} {wc : va_W} {s : State} {H : Heap} {locs : List Loc} (hZT : gb_ZT kS s) (hZ : gb_ZH tE A s s.heap) (hS : va_S A s.heap H locs) (hF : ∀ q, A1 q → A q) (hP : va_P D vwCl wc H) (hD : va_D A2 wc) (hK : va_K D vwCl tys s) (hr : ∃ cell : Cell, H[b]? = some cell ∧ cell.vm.isStatics = false ∧ s.vm.findClass C = some cell.cls) : PreV s H C b (va_Pc (.ref b :: As) (gb_Pw kS tE A1 D tys wc H.size)) As :=
  ⟨gb_Pw.blind, hr, (gb_preS hZT hZ hS hF hP hD hK).2⟩
theorem gb_free {A : Nat → Prop} {H0 H : Heap} {locs : List Loc} (hA : ∀ q : Nat, H0.size ≤ q → A q) (hS : va_S A H0 H locs) : ∀ q, gb_ro H.size q → A q := fun q h => hA q (Nat.le_trans hS.1 h)
theorem gb_keep {D : va_G} {ws : va_W} {H H1 : Heap} (hP : va_P D vwCl ws H) (hk : ∀ q : Nat, q < H.size → ¬ gb_ro H.size q → H1[q]? = H[q]?) : va_P D vwCl ws H1 :=
  hP.kept (fun k x hx => hk x.1 (hP k x hx).lt (Nat.not_le.mpr (hP k x hx).lt))
theorem gb_F {A : Nat → Prop} {s t : State} {H : Heap} {locs : List Loc} (hS : va_S A s.heap H locs) (hz : H.size ≤ t.heap.size) (hk : ∀ q : Nat, q < H.size → t.heap[q]? = H[q]?) : va_F A s t :=
  ⟨Nat.le_trans hS.1 hz, fun q h1 h2 => (hk q (Nat.lt_of_lt_of_le h1 hS.1)).trans (hS.2.1 q h1 h2)⟩
end
section
set_option maxHeartbeats 4000000 in
set_option maxRecDepth 100000 in
theorem c_X5_requireIndex (l : Launch) (hl9 : l.stackTraces = false) (kS : Nat → Nat) (tE : Nat) (dC : Nat → ClassId) (dI : Nat → Nat → Nat) (sz : Nat) (p0 p1 : Int32) : vx_Met l yX5_requireIndex wsX5_requireIndex ({ frames := 6, cells := 1, slots := 6, locals := 83 }) (va_Pc [.int p0, .int p1] (gb_Pw kS tE (gb_ro sz) (dC, dI) [] [] sz)) (va_Qv (fun _ : Unit => ¬ p0 < 0 ∧ p0 < p1) (fun _ _ => True) (gb_ro sz)) (vx_X (fun _ : Unit => True) (fun E _ _ => E = "java/lang/IndexOutOfBoundsException" ∧ (p0 < 0 ∨ ¬ p0 < p1)) (gb_ro sz)) 1 6 (gb_ro sz) := by
  refine vx_ofW (cc := cX5_requireIndex) (maxL := 2) (ret := none) (by decide) rfl ?_
  intro p e s m args below meth c s₁ B hml hno hv
  obtain ⟨rfl, hsz, hZT, hZ, hP, hK, hD⟩ := hv
  have hx := B.exec
  have hb := B.bytes
  have hr := B.returns
  have hts := atoms_spec (ws := wsX5_requireIndex) B.pre
  have hown : s.vm.findClass RX5 = some m.cls := findClass_of_methodNamed B.named
  have hlocks := B.notSynchronized
  subst hsz
  generalize hAe : gb_ro s.heap.size = A at hZ ⊢
  have hA : ∀ q : Nat, s.heap.size ≤ q → A q := fun q h => by rw [← hAe]; exact h
  have hS : va_S A s.heap s.heap [] := va_S.rf
  have hl := lv_entry ([.int p0, .int p1]) (n := 2) (Nat.le_of_ble_eq_true rfl)
  rw [lg_entry_eq]
  generalize (lg_sl ([.int p0, .int p1]) ++ List.replicate (2 - (lg_sl ([.int p0, .int p1])).length) Slot.unset).toArray = ls at hl ⊢
  have hl : lv_has ls 2 [(0, .int p0), (1, .int p1)] := hl
  have hthrow : (p0 < 0 ∨ ¬ p0 < p1) → ∀ ls : Array Slot, lv_has ls 2 [(0, .int p0), (1, .int p1)] → W p l e (headSpec wsX5_requireIndex { frames := 6, cells := 1, slots := 6, locals := 83 }).room s m ([.int p0, .int p1] : List Value).toArray below meth c s.heap [] 0 0 (vx_MQ below (va_Qv (fun _ : Unit => ¬ p0 < 0 ∧ p0 < p1) (fun _ _ => True) A) (vx_X (fun _ : Unit => True) (fun E _ _ => E = "java/lang/IndexOutOfBoundsException" ∧ (p0 < 0 ∨ ¬ p0 < p1)) A) ([.int p0, .int p1] : List Value).toArray s 1 6 A) (F0 m 9 ls []) := by
    intro c_9 ls hl
    exact vx_throwS hx hb hl9 (own := RX5) (cls := "java/lang/IndexOutOfBoundsException") (text := "there is no such number") (names := ["java/lang/RuntimeException", "java/lang/Exception"]) hown (by decide +kernel) (by decide +kernel) (hts (.classLink RX5 194 "java/lang/IndexOutOfBoundsException") (by decide +kernel)) (hts (.initialized "java/lang/IndexOutOfBoundsException") (by decide +kernel)) hZT.2.2.2.2.2.2.1
      (vx_hat (L := vx_atS RX5 198 "java/lang/IndexOutOfBoundsException" ["java/lang/RuntimeException", "java/lang/Exception"]) (B := [.castable "java/lang/IndexOutOfBoundsException" "java/lang/IndexOutOfBoundsException", .declares (gb_yx "java/lang/RuntimeException"), .declares (gb_yx "java/lang/Exception"), .declares (gb_yx "java/lang/Throwable")]) (fun w hw => hts w ((by decide +kernel : ∀ w ∈ (vx_atS RX5 198 "java/lang/IndexOutOfBoundsException" ["java/lang/RuntimeException", "java/lang/Exception"]).filter goodWord, w ∈ wsX5_requireIndex) w hw)) (by decide +kernel) (vx_c (va_Nw.use rfl hZT.1.1) (vx_c (va_Nw.use rfl hZT.2.1.1) (vx_c (va_Nw.use rfl hZT.2.1.2.1) (vx_c (va_Nw.use rfl hZT.2.1.2.2) vx_n)))))
      (by decide +kernel) hZ.1 hZ.2.1 hS (hl.1.trans hml.symm) dX5_requireIndex_9 dX5_requireIndex_12 dX5_requireIndex_13 dX5_requireIndex_15 dX5_requireIndex_18 (fun x h9 => (hno x h9).elim) (Nat.le_of_ble_eq_true rfl) (Nat.le_of_ble_eq_true rfl) (Nat.le_of_ble_eq_true rfl) (Nat.le_of_ble_eq_true rfl) hlocks
      (fun t ha hz hk => ⟨(), trivial, ⟨rfl, c_9⟩, gb_F hS hz hk⟩) hS.2.2 (Nat.le_of_ble_eq_true rfl) (Nat.le_of_ble_eq_true rfl)
  refine lv_iload_n hx hb dX5_requireIndex_0 rfl (lv_at hl 0 rfl) ?_
  refine lv_if_lt (tgt := 9) hx hb dX5_requireIndex_1 (by decide) (fun c_1 => ?_) (fun c_1 => ?_)
  · exact hthrow (Or.inl c_1) ls hl
  · refine lv_iload_n hx hb dX5_requireIndex_4 rfl (lv_at hl 0 rfl) ?_
    refine lv_iload_n hx hb dX5_requireIndex_5 rfl (lv_at hl 1 rfl) ?_
    refine lv_icmp_lt (tgt := 19) hx hb dX5_requireIndex_6 (by decide) (fun c_2 => ?_) (fun c_2 => ?_)
    · refine vx_ret ?_
      refine W.widen (k := 1) (n := 6) (Nat.le_of_ble_eq_true rfl) (Nat.le_of_ble_eq_true rfl) ?_
      exact W.vret hx hb hr (fun t ht hW => ⟨⟨(), rfl, ⟨c_1, c_2⟩, trivial⟩, hS.F ht⟩) hS.2.2 dX5_requireIndex_19
    · exact hthrow (Or.inr c_2) ls hl
end
