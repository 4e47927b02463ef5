section
-- ===== PART A: goes FIRST, ahead of the names: the tables' words, and 'selects' of the private methods out of them =====
/-- a private method of a class that the tables say can be made, by its rows of tables_1 -/
def lw_okq (q : MethodName × Nat) : Prop := (q.1.cls ≠ "java/lang/invoke/MethodHandle" ∧ q.1.cls ≠ "java/lang/invoke/VarHandle") ∧ Cond.instantiable q.1.cls q.2 ∈ tables_1 ∧ Cond.privateMethod q.1 ∈ tables_1 ∧ Cond.instanceMethod q.1 ∈ tables_1
theorem lw_p0 : lw_okq (⟨"DefiniteRows$Piece", "turnRound", "()V"⟩, 1) := ⟨⟨by decide +kernel, by decide +kernel⟩, List.mem_of_getElem? (i := 42) (by decide +kernel), List.mem_of_getElem? (i := 74) (by decide +kernel), List.mem_of_getElem? (i := 75) (by decide +kernel)⟩
theorem lw_p1 : lw_okq (⟨"DefiniteRows", "isMirrored", "(I)Z"⟩, 5) := ⟨⟨by decide +kernel, by decide +kernel⟩, List.mem_of_getElem? (i := 15) (by decide +kernel), List.mem_of_getElem? (i := 84) (by decide +kernel), List.mem_of_getElem? (i := 85) (by decide +kernel)⟩
theorem lw_p2 : lw_okq (⟨"DefiniteRows", "pieceAt", "(I)I"⟩, 5) := ⟨⟨by decide +kernel, by decide +kernel⟩, List.mem_of_getElem? (i := 15) (by decide +kernel), List.mem_of_getElem? (i := 88) (by decide +kernel), List.mem_of_getElem? (i := 89) (by decide +kernel)⟩
theorem lw_p3 : lw_okq (⟨"DefiniteRows$Piece", "mirrors", "(LDefiniteRows$Piece;I)Z"⟩, 1) := ⟨⟨by decide +kernel, by decide +kernel⟩, List.mem_of_getElem? (i := 42) (by decide +kernel), List.mem_of_getElem? (i := 92) (by decide +kernel), List.mem_of_getElem? (i := 93) (by decide +kernel)⟩
theorem lw_p4 : lw_okq (⟨"DefiniteRows$Piece", "hasPole", "()Z"⟩, 1) := ⟨⟨by decide +kernel, by decide +kernel⟩, List.mem_of_getElem? (i := 42) (by decide +kernel), List.mem_of_getElem? (i := 96) (by decide +kernel), List.mem_of_getElem? (i := 97) (by decide +kernel)⟩
theorem lw_p5 : lw_okq (⟨"DefiniteRows$Piece", "wipe", "()V"⟩, 1) := ⟨⟨by decide +kernel, by decide +kernel⟩, List.mem_of_getElem? (i := 42) (by decide +kernel), List.mem_of_getElem? (i := 108) (by decide +kernel), List.mem_of_getElem? (i := 109) (by decide +kernel)⟩
theorem lw_p6 : lw_okq (⟨"DefiniteRows", "isCut", "(I)Z"⟩, 5) := ⟨⟨by decide +kernel, by decide +kernel⟩, List.mem_of_getElem? (i := 15) (by decide +kernel), List.mem_of_getElem? (i := 127) (by decide +kernel), List.mem_of_getElem? (i := 128) (by decide +kernel)⟩
theorem lw_p7 : lw_okq (⟨"java/lang/Throwable", "fillInStackTrace", "(I)Ljava/lang/Throwable;"⟩, 6) := ⟨⟨by decide +kernel, by decide +kernel⟩, List.mem_of_getElem? (i := 169) (by decide +kernel), List.mem_of_getElem? (i := 167) (by decide +kernel), List.mem_of_getElem? (i := 168) (by decide +kernel)⟩
theorem lw_p8 : lw_okq (⟨"DefiniteRows$Piece", "become", "(LDefiniteRows$Piece;)V"⟩, 1) := ⟨⟨by decide +kernel, by decide +kernel⟩, List.mem_of_getElem? (i := 42) (by decide +kernel), List.mem_of_getElem? (i := 215) (by decide +kernel), List.mem_of_getElem? (i := 216) (by decide +kernel)⟩
theorem lw_p9 : lw_okq (⟨"DefiniteRows$Piece", "powersAt", "(J)J"⟩, 1) := ⟨⟨by decide +kernel, by decide +kernel⟩, List.mem_of_getElem? (i := 42) (by decide +kernel), List.mem_of_getElem? (i := 282) (by decide +kernel), List.mem_of_getElem? (i := 283) (by decide +kernel)⟩
theorem lw_p10 : lw_okq (⟨"DefiniteRows$Piece", "abovePoleAt", "(J)J"⟩, 1) := ⟨⟨by decide +kernel, by decide +kernel⟩, List.mem_of_getElem? (i := 42) (by decide +kernel), List.mem_of_getElem? (i := 296) (by decide +kernel), List.mem_of_getElem? (i := 297) (by decide +kernel)⟩
theorem lw_p11 : lw_okq (⟨"DefiniteRows", "addParts", "(III)Z"⟩, 5) := ⟨⟨by decide +kernel, by decide +kernel⟩, List.mem_of_getElem? (i := 15) (by decide +kernel), List.mem_of_getElem? (i := 320) (by decide +kernel), List.mem_of_getElem? (i := 321) (by decide +kernel)⟩
theorem lw_p12 : lw_okq (⟨"DefiniteRows$Sum", "wipe", "()V"⟩, 2) := ⟨⟨by decide +kernel, by decide +kernel⟩, List.mem_of_getElem? (i := 25) (by decide +kernel), List.mem_of_getElem? (i := 324) (by decide +kernel), List.mem_of_getElem? (i := 325) (by decide +kernel)⟩
theorem lw_p13 : lw_okq (⟨"DefiniteRows", "leftBorder", "(I)I"⟩, 5) := ⟨⟨by decide +kernel, by decide +kernel⟩, List.mem_of_getElem? (i := 15) (by decide +kernel), List.mem_of_getElem? (i := 329) (by decide +kernel), List.mem_of_getElem? (i := 330) (by decide +kernel)⟩
theorem lw_p14 : lw_okq (⟨"DefiniteRows", "rightBorder", "(I)I"⟩, 5) := ⟨⟨by decide +kernel, by decide +kernel⟩, List.mem_of_getElem? (i := 15) (by decide +kernel), List.mem_of_getElem? (i := 333) (by decide +kernel), List.mem_of_getElem? (i := 334) (by decide +kernel)⟩
theorem lw_p15 : lw_okq (⟨"DefiniteRows$Piece", "diverges", "(II)Z"⟩, 1) := ⟨⟨by decide +kernel, by decide +kernel⟩, List.mem_of_getElem? (i := 42) (by decide +kernel), List.mem_of_getElem? (i := 337) (by decide +kernel), List.mem_of_getElem? (i := 338) (by decide +kernel)⟩
def lw_privs_1 : List (MethodName × Nat) := [(⟨"DefiniteRows$Piece", "turnRound", "()V"⟩, 1), (⟨"DefiniteRows", "isMirrored", "(I)Z"⟩, 5), (⟨"DefiniteRows", "pieceAt", "(I)I"⟩, 5), (⟨"DefiniteRows$Piece", "mirrors", "(LDefiniteRows$Piece;I)Z"⟩, 1), (⟨"DefiniteRows$Piece", "hasPole", "()Z"⟩, 1), (⟨"DefiniteRows$Piece", "wipe", "()V"⟩, 1), (⟨"DefiniteRows", "isCut", "(I)Z"⟩, 5), (⟨"java/lang/Throwable", "fillInStackTrace", "(I)Ljava/lang/Throwable;"⟩, 6), (⟨"DefiniteRows$Piece", "become", "(LDefiniteRows$Piece;)V"⟩, 1), (⟨"DefiniteRows$Piece", "powersAt", "(J)J"⟩, 1), (⟨"DefiniteRows$Piece", "abovePoleAt", "(J)J"⟩, 1), (⟨"DefiniteRows", "addParts", "(III)Z"⟩, 5), (⟨"DefiniteRows$Sum", "wipe", "()V"⟩, 2), (⟨"DefiniteRows", "leftBorder", "(I)I"⟩, 5), (⟨"DefiniteRows", "rightBorder", "(I)I"⟩, 5), (⟨"DefiniteRows$Piece", "diverges", "(II)Z"⟩, 1)]
theorem lw_r1 : ∀ q ∈ lw_privs_1, lw_okq q := List.forall_mem_cons.mpr ⟨lw_p0, List.forall_mem_cons.mpr ⟨lw_p1, List.forall_mem_cons.mpr ⟨lw_p2, List.forall_mem_cons.mpr ⟨lw_p3, List.forall_mem_cons.mpr ⟨lw_p4, List.forall_mem_cons.mpr ⟨lw_p5, List.forall_mem_cons.mpr ⟨lw_p6, List.forall_mem_cons.mpr ⟨lw_p7, List.forall_mem_cons.mpr ⟨lw_p8, List.forall_mem_cons.mpr ⟨lw_p9, List.forall_mem_cons.mpr ⟨lw_p10, List.forall_mem_cons.mpr ⟨lw_p11, List.forall_mem_cons.mpr ⟨lw_p12, List.forall_mem_cons.mpr ⟨lw_p13, List.forall_mem_cons.mpr ⟨lw_p14, List.forall_mem_cons.mpr ⟨lw_p15, fun _ h => absurd h List.not_mem_nil⟩⟩⟩⟩⟩⟩⟩⟩⟩⟩⟩⟩⟩⟩⟩⟩
theorem lw_p16 : lw_okq (⟨"DefiniteRows$Piece", "hasEndlessTail", "()Z"⟩, 1) := ⟨⟨by decide +kernel, by decide +kernel⟩, List.mem_of_getElem? (i := 42) (by decide +kernel), List.mem_of_getElem? (i := 342) (by decide +kernel), List.mem_of_getElem? (i := 343) (by decide +kernel)⟩
theorem lw_p17 : lw_okq (⟨"DefiniteRows$Sum", "addPrimitive", "(LDefiniteRows$Piece;II)V"⟩, 2) := ⟨⟨by decide +kernel, by decide +kernel⟩, List.mem_of_getElem? (i := 25) (by decide +kernel), List.mem_of_getElem? (i := 346) (by decide +kernel), List.mem_of_getElem? (i := 347) (by decide +kernel)⟩
theorem lw_p18 : lw_okq (⟨"DefiniteRows$Piece", "twelfthsOfPowersPrimitive", "(J)J"⟩, 1) := ⟨⟨by decide +kernel, by decide +kernel⟩, List.mem_of_getElem? (i := 42) (by decide +kernel), List.mem_of_getElem? (i := 351) (by decide +kernel), List.mem_of_getElem? (i := 352) (by decide +kernel)⟩
theorem lw_p19 : lw_okq (⟨"DefiniteRows$Sum", "addLogarithm", "(II)V"⟩, 2) := ⟨⟨by decide +kernel, by decide +kernel⟩, List.mem_of_getElem? (i := 25) (by decide +kernel), List.mem_of_getElem? (i := 362) (by decide +kernel), List.mem_of_getElem? (i := 363) (by decide +kernel)⟩
theorem lw_p20 : lw_okq (⟨"DefiniteRowsModel", "turned", "([III)I"⟩, 13) := ⟨⟨by decide +kernel, by decide +kernel⟩, List.mem_of_getElem? (i := 388) (by decide +kernel), List.mem_of_getElem? (i := 465) (by decide +kernel), List.mem_of_getElem? (i := 466) (by decide +kernel)⟩
theorem lw_p21 : lw_okq (⟨"DefiniteRowsModel", "hasPole", "(I)Z"⟩, 13) := ⟨⟨by decide +kernel, by decide +kernel⟩, List.mem_of_getElem? (i := 388) (by decide +kernel), List.mem_of_getElem? (i := 481) (by decide +kernel), List.mem_of_getElem? (i := 482) (by decide +kernel)⟩
theorem lw_p22 : lw_okq (⟨"DefiniteRowsModel", "raise", "(I)I"⟩, 13) := ⟨⟨by decide +kernel, by decide +kernel⟩, List.mem_of_getElem? (i := 388) (by decide +kernel), List.mem_of_getElem? (i := 485) (by decide +kernel), List.mem_of_getElem? (i := 486) (by decide +kernel)⟩
theorem lw_p23 : lw_okq (⟨"DefiniteRowsModel", "start", "()V"⟩, 13) := ⟨⟨by decide +kernel, by decide +kernel⟩, List.mem_of_getElem? (i := 388) (by decide +kernel), List.mem_of_getElem? (i := 489) (by decide +kernel), List.mem_of_getElem? (i := 490) (by decide +kernel)⟩
theorem lw_p24 : lw_okq (⟨"DefiniteRowsModel", "more", "(JJ)V"⟩, 13) := ⟨⟨by decide +kernel, by decide +kernel⟩, List.mem_of_getElem? (i := 388) (by decide +kernel), List.mem_of_getElem? (i := 493) (by decide +kernel), List.mem_of_getElem? (i := 494) (by decide +kernel)⟩
theorem lw_p25 : lw_okq (⟨"DefiniteRowsModel", "isThere", "(III)Z"⟩, 13) := ⟨⟨by decide +kernel, by decide +kernel⟩, List.mem_of_getElem? (i := 388) (by decide +kernel), List.mem_of_getElem? (i := 501) (by decide +kernel), List.mem_of_getElem? (i := 502) (by decide +kernel)⟩
theorem lw_p26 : lw_okq (⟨"DefiniteRowsModel", "putEnd", "(III)V"⟩, 13) := ⟨⟨by decide +kernel, by decide +kernel⟩, List.mem_of_getElem? (i := 388) (by decide +kernel), List.mem_of_getElem? (i := 505) (by decide +kernel), List.mem_of_getElem? (i := 506) (by decide +kernel)⟩
theorem lw_p27 : lw_okq (⟨"DefiniteRowsModel", "putLogs", "(II)V"⟩, 13) := ⟨⟨by decide +kernel, by decide +kernel⟩, List.mem_of_getElem? (i := 388) (by decide +kernel), List.mem_of_getElem? (i := 509) (by decide +kernel), List.mem_of_getElem? (i := 510) (by decide +kernel)⟩
theorem lw_p28 : lw_okq (⟨"DefiniteRowsModel", "pieceAt", "(I)I"⟩, 13) := ⟨⟨by decide +kernel, by decide +kernel⟩, List.mem_of_getElem? (i := 388) (by decide +kernel), List.mem_of_getElem? (i := 529) (by decide +kernel), List.mem_of_getElem? (i := 530) (by decide +kernel)⟩
theorem lw_p29 : lw_okq (⟨"DefiniteRowsModel", "isTurned", "(III)Z"⟩, 13) := ⟨⟨by decide +kernel, by decide +kernel⟩, List.mem_of_getElem? (i := 388) (by decide +kernel), List.mem_of_getElem? (i := 533) (by decide +kernel), List.mem_of_getElem? (i := 534) (by decide +kernel)⟩
def lw_privs_2 : List (MethodName × Nat) := [(⟨"DefiniteRows$Piece", "hasEndlessTail", "()Z"⟩, 1), (⟨"DefiniteRows$Sum", "addPrimitive", "(LDefiniteRows$Piece;II)V"⟩, 2), (⟨"DefiniteRows$Piece", "twelfthsOfPowersPrimitive", "(J)J"⟩, 1), (⟨"DefiniteRows$Sum", "addLogarithm", "(II)V"⟩, 2), (⟨"DefiniteRowsModel", "turned", "([III)I"⟩, 13), (⟨"DefiniteRowsModel", "hasPole", "(I)Z"⟩, 13), (⟨"DefiniteRowsModel", "raise", "(I)I"⟩, 13), (⟨"DefiniteRowsModel", "start", "()V"⟩, 13), (⟨"DefiniteRowsModel", "more", "(JJ)V"⟩, 13), (⟨"DefiniteRowsModel", "isThere", "(III)Z"⟩, 13), (⟨"DefiniteRowsModel", "putEnd", "(III)V"⟩, 13), (⟨"DefiniteRowsModel", "putLogs", "(II)V"⟩, 13), (⟨"DefiniteRowsModel", "pieceAt", "(I)I"⟩, 13), (⟨"DefiniteRowsModel", "isTurned", "(III)Z"⟩, 13)]
theorem lw_r2 : ∀ q ∈ lw_privs_2, lw_okq q := List.forall_mem_cons.mpr ⟨lw_p16, List.forall_mem_cons.mpr ⟨lw_p17, List.forall_mem_cons.mpr ⟨lw_p18, List.forall_mem_cons.mpr ⟨lw_p19, List.forall_mem_cons.mpr ⟨lw_p20, List.forall_mem_cons.mpr ⟨lw_p21, List.forall_mem_cons.mpr ⟨lw_p22, List.forall_mem_cons.mpr ⟨lw_p23, List.forall_mem_cons.mpr ⟨lw_p24, List.forall_mem_cons.mpr ⟨lw_p25, List.forall_mem_cons.mpr ⟨lw_p26, List.forall_mem_cons.mpr ⟨lw_p27, List.forall_mem_cons.mpr ⟨lw_p28, List.forall_mem_cons.mpr ⟨lw_p29, fun _ h => absurd h List.not_mem_nil⟩⟩⟩⟩⟩⟩⟩⟩⟩⟩⟩⟩⟩⟩
def lw_privs : List (MethodName × Nat) := lw_privs_1 ++ (lw_privs_2)
def lw_tbl : List Cond := k2_sels lw_privs ++ tables_1
theorem lw_privs_ok : ∀ q ∈ lw_privs, lw_okq q := by
  show ∀ q ∈ lw_privs_1 ++ (lw_privs_2), lw_okq q
  exact List.forall_mem_append.mpr ⟨lw_r1, lw_r2⟩
end
section
/-! ===== BEGIN words of one list among another's, by their places ===== -/
theorem goodIn_r {big : List Cond} (ws : List Cond) (ps : List Nat) (hp : ws = ps.filterMap (fun i => big[i]?)) (h : ws.all goodWord = true) : GoodIn big ws := by
  intro w hw
  have h1 := List.all_eq_true.mp h w hw
  rw [hp] at hw
  obtain ⟨i, -, hi⟩ := List.mem_filterMap.mp hw
  have hm : w ∈ big := by first | exact List.mem_of_getElem? hi | exact List.getElem?_mem hi
  exact ⟨hm, good_of_word h1⟩
theorem goodIn_app {big a b : List Cond} (ha : GoodIn big a) (hb : GoodIn big b) : GoodIn big (a ++ b) := fun w h => (List.mem_append.mp h).elim (ha w) (hb w)
theorem goodIn_ca {big a b : List Cond} {c : Cond} (ha : GoodIn big (c :: a)) (hb : GoodIn big b) : GoodIn big (c :: (a ++ b)) := fun w h => (List.mem_cons.mp h).elim (fun e => ha w (List.mem_cons.mpr (Or.inl e))) (fun h => (List.mem_append.mp h).elim (fun h => ha w (List.mem_cons.mpr (Or.inr h))) (hb w))
theorem goodIn_sub {big ws : List Cond} (hm : ∀ w ∈ ws, w ∈ big) (h : ws.all goodWord = true) : GoodIn big ws := fun w hw => ⟨hm w hw, good_of_word (List.all_eq_true.mp h w hw)⟩
/-! ===== END ===== -/

/-! ===== BEGIN exceptions that leave a method, and their catching by the caller (launches without stack traces) ===== -/
section VXA
/-! The laws vx_back, vx_callV, vx_callS, vx_callSW, vx_throw0, vx_throwS follow proofs of the library, with one case more: JvmDerived/Free/Laws.lean (Back.of_free), Shelf42/LK1.lean (callV, callS), Shelf/KitTraced.lean (throwNew0V, throwNewS). -/
/-- where a method has thrown q: the class by its name, the cell, what was written, the world -/
def vx_T (XC : String → State → State → Prop) (st : State) (q : Addr) (t : State) (mc ms : Nat) (free : Addr → Prop) : Prop :=
  ∃ (E : String) (ce : Cell) (L : List Loc), XC E st t ∧ t.heap[q]? = some ce ∧ ce.vm = .none ∧ st.vm.findClass E = some ce.cls ∧ st.WarmedH t.vm ∧ st.sameButNew ({ t with vm := st.vm } : State) L mc ms ∧ ∀ z ∈ L, free z.base
def vx_Q (Qc : Array Value → State → Outcome → State → Prop) (XC : String → State → State → Prop) (mc ms : Nat) (free : Addr → Prop) : Array Value → State → Outcome → State → Prop := fun a st o t =>
  (Qc a st o t ∧ ∃ L, FrameEnd st o t L mc ms ∧ ∀ q ∈ L, free q.base) ∨ ∃ q, o = .threw q ∧ vx_T XC st q t mc ms free
/-- a callee that returns or throws -/
def vx_Met (l : Launch) (y : MethodName) (ws : List Cond) (rm : Room) (Pc : Array Value → State → Prop) (Qc : Array Value → State → Outcome → State → Prop) (XC : String → State → State → Prop) (mc ms : Nat) (free : Addr → Prop) : Prop :=
  MetFree l y (headSpec ws rm) Pc (fun _ _ _ _ _ => True) (vx_Q Qc XC mc ms free)
def vx_Post (XC : String → State → State → Prop) (mc ms : Nat) (free : Addr → Prop) : Pt → Array Value → Addr → Pt → Prop := fun A a q B =>
  ∃ (g : JFrame) (mk : MethodId) (t : State) (L : List Loc) (E : String) (ce : Cell), B.U.heap = t.heap ∧ B.U.vm = t.vm ∧ XC E (A.U.calling g mk a) t ∧ t.heap[q]? = some ce ∧ ce.vm = .none ∧ A.U.vm.findClass E = some ce.cls ∧ B.locs = A.locs ++ L ∧ (∀ z ∈ L, free z.base) ∧ B.cells = A.cells + mc ∧ B.slots = A.slots + ms
def vx_Back (l : Launch) (R : Room) (p : Program) (e : Env) (below : List Frame) (s : State) (sargs : Array Value) (y : MethodName) (len W9 : Nat)
    (Pre : Pt → Array Value → Prop) (Post : Pt → Array Value → Option Value → Pt → Prop) (PostX : Pt → Array Value → Addr → Pt → Prop) : Prop :=
  ∀ (m : MethodId) (meth : Method) (c : Code) (A : Pt) (g : JFrame) (ig : Instr) (mk : MethodId) (a : Array Value),
    Stand p l e R s m sargs below meth c A.U A.locs A.cells A.slots → g.method = m → g.locals.size = c.maxLocals → decode c.code g.pc = .ok (ig, len) →
    2 * g.monitorRoom + (g.stack.map fun v => v.category).sum ≤ W9 → A.U.methodNamed? y = some mk → Pre A a →
    (∃ (v : Option Value) (B : Pt), Stand p l e R s m sargs below meth c B.U B.locs B.cells B.slots ∧ Post A a v B ∧
      Steps p.tables e below (doInvoke e (A.U.setTop g) [] mk a).1 (B.U.setTop { g with pc := g.pc + len, stack := v.toList ++ g.stack })) ∨
    (∃ (q : Addr) (B : Pt), Stand p l e R s m sargs below meth c B.U B.locs B.cells B.slots ∧ PostX A a q B ∧
      Steps p.tables e below (doInvoke e (A.U.setTop g) [] mk a).1 ((B.U.setTop g).pushFrame (.throwing q)))
section Payer
variable {l : Launch} {R : Room} {p : Program} {e : Env} {below : List Frame} {s : State} {sargs : Array Value} {y : MethodName} {len W9 : Nat}
theorem vx_back {ws : List Cond} {rm : Room} {Pc : Array Value → State → Prop} {Qc : Array Value → State → Outcome → State → Prop} {XC : String → State → State → Prop} {mc ms : Nat} {free : Addr → Prop} {bytes : ByteArray} {maxL : Nat} {ret : Option FieldType}
    (hM : vx_Met l y ws rm Pc Qc XC mc ms free) (hblind : FrameBlind Pc) (hrc : rm.cells = mc) (hrs : rm.slots = ms)
    (hframes : rm.frames + 1 ≤ R.frames) (hlocals : W9 + (maxL + 11) + rm.locals ≤ R.locals)
    (hws : ∀ w ∈ ws, ∀ a' U, s.WarmedH U.vm → w.before a' U = true) (hcode : Cond.code y bytes maxL ret ∈ ws) (hinit : ∀ a' U, s.WarmedH U.vm → (Cond.initialized y.cls).before a' U = true) :
    vx_Back l R p e below s sargs y len W9 (PreOf R mc ms Pc) (PostOf Qc mc ms free) (vx_Post XC mc ms free) := by
  intro m meth c A g ig mk a X hg hsize hdg hW hn hp
  have h1 : (headSpec ws rm).pre.before a A.U = true := atoms_intro fun w hw => hws w hw _ _ X.warmed
  have h2 : (Cond.code y bytes maxL ret).before a A.U = true := hws _ hcode _ _ X.warmed
  have h3 : (Cond.initialized y.cls).before a A.U = true := hinit _ _ X.warmed
  have h4 : A.cells + (headSpec ws rm).room.cells ≤ R.cells := by rw [show (headSpec ws rm).room.cells = mc from hrc]; exact hp.1
  have h5 : A.slots + (headSpec ws rm).room.slots ≤ R.slots := by rw [show (headSpec ws rm).room.slots = ms from hrs]; exact hp.2.1
  have hPc : Pc a (A.U.calling g mk a) := hblind _ _ _ _ hp.2.2
  obtain ⟨U, Ls, c0, s0⟩ := A
  dsimp only [Pt.U, Pt.locs, Pt.cells, Pt.slots] at h1 h2 h3 h4 h5 X hn hPc ⊢
  obtain ⟨methY, cY, hmY, hcY, -, hlY, -, -, -, -⟩ := Cond.code_spec hn h2
  obtain ⟨kY, hkY, -⟩ := className_of_methodNamed hn
  have hinitY : kY.init = .initialized := Cond.initialized_spec (findClass_of_methodNamed hn) hkY h3
  have h : At U g.method c below := by rw [hg]; exact X.here
  have hlocals9 : W9 + (maxL + 11) + (headSpec ws rm).room.locals ≤ R.locals := hlocals
  have happ : (headSpec ws rm).appliesLoose y e.platform (U.calling g mk a) = true :=
    Spec.appliesLoose_calling (g := g) h hdg hn hkY hinitY
      (X.room_calling (g := g) (R' := (headSpec ws rm).room) hsize hmY hcY hframes (by rw [hlY]; omega) h4 h5) h1
  obtain ⟨mid, hmid⟩ := h.above
  have hfr : (U.setTop g).frames = (.java g :: mid) ++ below := by rw [State.frames_setTop' g h.top, hmid]; rfl
  obtain ⟨o, s₂, hsteps, -, hend, hq⟩ := Steps.callFree hM p X.admits X.cas X.clock (acts := []) hfr happ hPc trivial
  have hq' : vx_Q Qc XC mc ms free a (U.calling g mk a) o s₂ := hq
  rw [State.frames_setTop' g h.top] at hend
  obtain ⟨g₀, hg0⟩ := Option.isSome_iff_exists.mp h.top
  obtain ⟨r, hr⟩ := State.topJava?_eq_some.mp hg0
  have hr' : (({ U with heap := s₂.heap, slotsUsed := s₂.slotsUsed } : State).setVm s₂.vm).frames = .java g₀ :: r := hr
  rcases hq' with ⟨hqc, L, hfe, hL⟩ | ⟨q, rfl, E, ce, L, hx, hce, hcv, hcl, hW₂, hsm, hL⟩
  · obtain ⟨⟨v, rfl⟩, hW₂, e2, q2, q3, q4, q5, q6⟩ := id hfe
    have e3 : s₂ = ({ (U.calling g mk a).setFrames s₂.frames with heap := s₂.heap, slotsUsed := s₂.slotsUsed } : State).setVm s₂.vm := by
      have : s₂ = ({ s₂ with vm := (U.calling g mk a).vm } : State).setVm s₂.vm := rfl
      rw [e2] at this
      exact this
    obtain ⟨c₂, i₂, len₂, hc₂, hd₂, hf₂⟩ := hend
    have hW' : U.WarmedH s₂.vm := hW₂
    have hcc : c₂ = c := by
      have h1 : s₂.code? g.method = U.code? g.method := by
        rw [State.code?_eq, State.code?_eq, hW'.alike.method?]
      exact Option.some.inj (hc₂.symm.trans (h1.trans h.code))
    subst hcc
    have hlen : len₂ = len := by rw [hdg] at hd₂; cases hd₂; rfl
    subst hlen
    have hs₂ : s₂ = (({ U with heap := s₂.heap, slotsUsed := s₂.slotsUsed } : State).setVm s₂.vm).setTop { g with pc := g.pc + len₂, stack := v.toList ++ g.stack } := by
      refine e3.trans ?_
      rw [hf₂, State.calling_eq h.top, State.setFrames_setFrames, State.setTop_of_frames _ hr', hr]
      rfl
    have hsame : U.sameButNew ({ U with heap := s₂.heap, slotsUsed := s₂.slotsUsed } : State) L mc ms := by
      refine ⟨?_, q2, q3, q4, q5, q6⟩
      obtain ⟨t, ht, -⟩ := State.frames_cons hr
      show ({ U with heap := s₂.heap, slotsUsed := s₂.slotsUsed } : State) = { U.setFrames U.frames with heap := s₂.heap, slotsUsed := s₂.slotsUsed }
      rw [State.setFrames_self ht]
    subst hg
    refine Or.inl ⟨v, ⟨(({ U with heap := s₂.heap, slotsUsed := s₂.slotsUsed } : State).setVm s₂.vm), Ls ++ L, c0 + mc, s0 + ms⟩,
      ⟨X.admits, X.cas, X.clock, X.frames, X.room, X.hears, X.method, X.code, (X.here.setHeapUsed s₂.heap s₂.slotsUsed).setVm hW'.alike, X.tail, State.WarmedH.trans X.warmed hW', X.limits, X.bytes, X.same.trans (hsame.setVm s.vm)⟩,
      ⟨g, mk, s₂, L, rfl, rfl, hqc, rfl, hL, rfl, rfl⟩, ?_⟩
    show Steps p.tables e below _ ((({ U with heap := s₂.heap, slotsUsed := s₂.slotsUsed } : State).setVm s₂.vm).setTop { g with pc := g.pc + len₂, stack := v.toList ++ g.stack })
    rw [← hs₂]
    exact hsteps
  · obtain ⟨e2, q2, q3, q4, q5, q6⟩ := id hsm
    have e3 : s₂ = ({ (U.calling g mk a).setFrames s₂.frames with heap := s₂.heap, slotsUsed := s₂.slotsUsed } : State).setVm s₂.vm := by
      have : s₂ = ({ s₂ with vm := (U.calling g mk a).vm } : State).setVm s₂.vm := rfl
      rw [e2] at this
      exact this
    have hf₂ : s₂.frames = .throwing q :: .java g :: U.frames.tail := hend
    have hW' : U.WarmedH s₂.vm := hW₂
    have hs₂ : s₂ = ((({ U with heap := s₂.heap, slotsUsed := s₂.slotsUsed } : State).setVm s₂.vm).setTop g).pushFrame (.throwing q) := by
      refine e3.trans ?_
      rw [hf₂, State.calling_eq h.top, State.setFrames_setFrames, State.pushFrame, State.frames_setTop _ hr', State.setTop_of_frames _ hr', State.setFrames_setFrames, hr]
      rfl
    have hsame : U.sameButNew ({ U with heap := s₂.heap, slotsUsed := s₂.slotsUsed } : State) L mc ms := by
      refine ⟨?_, q2, q3, q4, q5, q6⟩
      obtain ⟨t, ht, -⟩ := State.frames_cons hr
      show ({ U with heap := s₂.heap, slotsUsed := s₂.slotsUsed } : State) = { U.setFrames U.frames with heap := s₂.heap, slotsUsed := s₂.slotsUsed }
      rw [State.setFrames_self ht]
    subst hg
    refine Or.inr ⟨q, ⟨(({ U with heap := s₂.heap, slotsUsed := s₂.slotsUsed } : State).setVm s₂.vm), Ls ++ L, c0 + mc, s0 + ms⟩,
      ⟨X.admits, X.cas, X.clock, X.frames, X.room, X.hears, X.method, X.code, (X.here.setHeapUsed s₂.heap s₂.slotsUsed).setVm hW'.alike, X.tail, State.WarmedH.trans X.warmed hW', X.limits, X.bytes, X.same.trans (hsame.setVm s.vm)⟩,
      ⟨g, mk, s₂, L, E, ce, rfl, rfl, hx, hce, hcv, hcl, rfl, hL, rfl, rfl⟩, ?_⟩
    show Steps p.tables e below _ (((({ U with heap := s₂.heap, slotsUsed := s₂.slotsUsed } : State).setVm s₂.vm).setTop g).pushFrame (.throwing q))
    rw [← hs₂]
    exact hsteps
end Payer
section Calls
variable {p : Program} {l : Launch} {e : Env} {R : Room} {s : State} {m : MethodId} {args : Array Value} {below : List Frame} {meth : Method} {c : Code} {T : State} {locs : List Loc} {cells slots : Nat}
theorem vx_callV (X : Stand p l e R s m args below meth c T locs cells slots) (hexec : p.tables.exec = Jvm.exec) {own C : String} {index : Nat} {y : MethodName} {bytes : ByteArray} {maxL : Nat} {ret : Option FieldType}
    (hown : s.vm.findClass own = some m.cls) (hlink : (Cond.methodLink own index y).before args s = true) (hinst : (Cond.instanceMethod y).before args s = true) (hsel : (Cond.selects C y y).before args s = true)
    (hcode : (Cond.code y bytes maxL ret).before args s = true) (hy : y.cls ≠ "java/lang/invoke/MethodHandle" ∧ y.cls ≠ "java/lang/invoke/VarHandle")
    {W9 : Nat} {Pre : Pt → Array Value → Prop} {Post : Pt → Array Value → Option Value → Pt → Prop} {PostX : Pt → Array Value → Addr → Pt → Prop} (hK : vx_Back l R p e below s args y 3 W9 Pre Post PostX)
    {b : Addr} {cellB : Cell} (hcell : T.heap[b]? = some cellB) (hobj : cellB.vm.isStatics = false) (hcls : s.vm.findClass C = some cellB.cls)
    {g : JFrame} (hg : g.method = m) (hsize : g.locals.size = c.maxLocals) {argsL rest : List Value} (hlen : ∀ sig, parseMethodDescriptor y.desc = some sig → argsL.length = sig.parameters.length)
    (hstack : g.stack = argsL.reverse ++ .ref b :: rest) (hW : 2 * g.monitorRoom + (rest.map fun v => v.category).sum ≤ W9) (hdg : decode c.code g.pc = .ok (.invokevirtual index, 3))
    (hpre : ∀ vm₁, s.WarmedH vm₁ → Pre ⟨T.setVm vm₁, locs, cells, slots⟩ (Value.ref b :: argsL).toArray) :
    (∃ (v : Option Value) (vm₁ : Vm) (B : Pt), s.WarmedH vm₁ ∧ Stand p l e R s m args below meth c B.U B.locs B.cells B.slots ∧ Post ⟨T.setVm vm₁, locs, cells, slots⟩ (Value.ref b :: argsL).toArray v B ∧
      ∀ target, Steps p.tables e below (B.U.setTop { g with pc := g.pc + 3, stack := v.toList ++ rest }) target → Steps p.tables e below (T.setTop g) target) ∨
    (∃ (q : Addr) (vm₁ : Vm) (B : Pt), s.WarmedH vm₁ ∧ Stand p l e R s m args below meth c B.U B.locs B.cells B.slots ∧ PostX ⟨T.setVm vm₁, locs, cells, slots⟩ (Value.ref b :: argsL).toArray q B ∧
      Steps p.tables e below (T.setTop g) ((B.U.setTop { g with stack := rest }).pushFrame (.throwing q))) := by
  obtain ⟨mk, methM, hnamed, hmethM, hstM, habM⟩ := Cond.instanceMethod_spec hinst
  obtain ⟨methM', cM, hmethM', -, -, -, -, -, -, hsigM⟩ := Cond.code_spec hnamed hcode
  cases hmethM.symm.trans hmethM'
  obtain ⟨c2, r2, m2, q1, q2, q3, q4, kP, hkP, hkPi⟩ := Cond.selects_spec hsel
  cases hcls.symm.trans q1
  cases (State.methodFound?_of_named hnamed hy).symm.trans q2
  cases hnamed.symm.trans q3
  have hselP : selectMethod e.platform s.vm cellB.cls mk = .method mk := by rw [Launch.admits_selectMethod X.admits]; exact q4
  obtain ⟨vm₁, X₁, hstep₁⟩ := X.invokevirtual hexec hown hlink hnamed hmethM hstM hkP hkPi hy (a := b) (cell := cellB) hcell
    (fun z h => by rw [h] at hobj; cases hobj) hselP hmethM habM hkP hkPi (g := g) hg (argsL := argsL) (rest := rest) (hlen _ hsigM) hstack hdg
  rcases hK m meth c ⟨T.setVm vm₁, locs, cells, slots⟩ { g with stack := rest } (.invokevirtual index) mk (Value.ref b :: argsL).toArray X₁ hg hsize hdg hW (X₁.named hnamed) (hpre vm₁ X₁.warmed) with ⟨v, B, X', hpost, hsteps⟩ | ⟨q, B, X', hpost, hsteps⟩
  · exact Or.inl ⟨v, vm₁, B, X₁.warmed, X', hpost, fun target h => hstep₁ _ fun acts => by rw [doInvoke_state]; exact hsteps.trans h⟩
  · exact Or.inr ⟨q, vm₁, B, X₁.warmed, X', hpost, hstep₁ _ fun acts => by rw [doInvoke_state]; exact hsteps⟩
theorem vx_callS (X : Stand p l e R s m args below meth c T locs cells slots) (hexec : p.tables.exec = Jvm.exec) {own : String} {index : Nat} {y : MethodName} {bytes : ByteArray} {maxL : Nat} {ret : Option FieldType}
    (hown : s.vm.findClass own = some m.cls) (hlink : (Cond.methodLink own index y).before args s = true) (hstat : (Cond.static y).before args s = true) (hinit : (Cond.initialized y.cls).before args s = true)
    (hcode : (Cond.code y bytes maxL ret).before args s = true) (hy : y.cls ≠ "java/lang/invoke/MethodHandle" ∧ y.cls ≠ "java/lang/invoke/VarHandle")
    {W9 : Nat} {Pre : Pt → Array Value → Prop} {Post : Pt → Array Value → Option Value → Pt → Prop} {PostX : Pt → Array Value → Addr → Pt → Prop} (hK : vx_Back l R p e below s args y 3 W9 Pre Post PostX)
    {g : JFrame} (hg : g.method = m) (hsize : g.locals.size = c.maxLocals) {argsL rest : List Value} (hlen : ∀ sig, parseMethodDescriptor y.desc = some sig → argsL.length = sig.parameters.length)
    (hstack : g.stack = argsL.reverse ++ rest) (hW : 2 * g.monitorRoom + (rest.map fun v => v.category).sum ≤ W9) (hdg : decode c.code g.pc = .ok (.invokestatic index, 3))
    (hpre : ∀ vm₁, s.WarmedH vm₁ → Pre ⟨T.setVm vm₁, locs, cells, slots⟩ argsL.toArray) :
    (∃ (v : Option Value) (vm₁ : Vm) (B : Pt), s.WarmedH vm₁ ∧ Stand p l e R s m args below meth c B.U B.locs B.cells B.slots ∧ Post ⟨T.setVm vm₁, locs, cells, slots⟩ argsL.toArray v B ∧
      ∀ target, Steps p.tables e below (B.U.setTop { g with pc := g.pc + 3, stack := v.toList ++ rest }) target → Steps p.tables e below (T.setTop g) target) ∨
    (∃ (q : Addr) (vm₁ : Vm) (B : Pt), s.WarmedH vm₁ ∧ Stand p l e R s m args below meth c B.U B.locs B.cells B.slots ∧ PostX ⟨T.setVm vm₁, locs, cells, slots⟩ argsL.toArray q B ∧
      Steps p.tables e below (T.setTop g) ((B.U.setTop { g with stack := rest }).pushFrame (.throwing q))) := by
  obtain ⟨mk, hnamed⟩ := Cond.code_named hcode
  obtain ⟨methM, cM, hmethM, -, -, -, -, -, -, hsigM⟩ := Cond.code_spec hnamed hcode
  have hstatic : methM.isStatic = true := Cond.static_spec hnamed hmethM hstat
  obtain ⟨kP, hkP, -⟩ := className_of_methodNamed hnamed
  have hinitP : kP.init = .initialized := Cond.initialized_spec (findClass_of_methodNamed hnamed) hkP hinit
  obtain ⟨vm₁, X₁, hstep₁⟩ := X.invokestatic hexec hown hlink hnamed hmethM hstatic hkP hinitP hy (g := g) hg (argsL := argsL) (rest := rest) (hlen _ hsigM) hstack hdg
  rcases hK m meth c ⟨T.setVm vm₁, locs, cells, slots⟩ { g with stack := rest } (.invokestatic index) mk argsL.toArray X₁ hg hsize hdg hW (X₁.named hnamed) (hpre vm₁ X₁.warmed) with ⟨v, B, X', hpost, hsteps⟩ | ⟨q, B, X', hpost, hsteps⟩
  · exact Or.inl ⟨v, vm₁, B, X₁.warmed, X', hpost, fun target h => hstep₁ _ fun acts => by rw [doInvoke_state]; exact hsteps.trans h⟩
  · exact Or.inr ⟨q, vm₁, B, X₁.warmed, X', hpost, hstep₁ _ fun acts => by rw [doInvoke_state]; exact hsteps⟩
end Calls
theorem vx_cls {s : State} {T : State} {vm₁ : Vm} {E : String} {k : ClassId} (hW : s.WarmedH vm₁) (h : (T.setVm vm₁).vm.findClass E = some k) : s.vm.findClass E = some k := by
  have h1 : vm₁.findClass E = some k := h
  rw [hW.alike.findClass] at h1
  exact h1
/-- the method's frame g, with q thrown over it -/
def vx_W (p : Program) (l : Launch) (e : Env) (R : Room) (s : State) (m : MethodId) (args : Array Value) (below : List Frame) (meth : Method) (c : Code) (H : Heap) (locs : List Loc) (cells slots : Nat) (Q : State → Prop) (g : JFrame) (q : Addr) : Prop :=
  ∀ T : State, T.heap = H → Stand p l e R s m args below meth c T locs cells slots → ∃ t, Steps p.tables e below ((T.setTop g).pushFrame (.throwing q)) t ∧ Q t
def vx_Run (p : Program) (l : Launch) (e : Env) (R : Room) (s : State) (m : MethodId) (args : Array Value) (below : List Frame) (meth : Method) (c : Code) (H : Heap) (locs : List Loc) (cells slots mc ms : Nat) (g : JFrame) (rest : List Value) (Qa : State → Outcome → State → Prop) (XC : String → State → State → Prop) (free : Addr → Prop) : Prop :=
  ∀ T : State, T.heap = H → Stand p l e R s m args below meth c T locs cells slots →
    (∃ (v : Option Value) (st₀ t T' : State) (L : List Loc), st₀.heap = H ∧ Stand p l e R s m args below meth c T' (locs ++ L) (cells + mc) (slots + ms) ∧ (∀ q ∈ L, free q.base) ∧ T'.heap = t.heap ∧ T'.vm = t.vm ∧ Qa st₀ (.returned v) t ∧
      Goes p e below T g T' { g with pc := g.pc + 3, stack := v.toList ++ rest }) ∨
    (∃ (q : Addr) (st₀ t T' : State) (L : List Loc) (E : String) (ce : Cell), st₀.heap = H ∧ Stand p l e R s m args below meth c T' (locs ++ L) (cells + mc) (slots + ms) ∧ (∀ z ∈ L, free z.base) ∧ T'.heap = t.heap ∧ T'.vm = t.vm ∧ XC E st₀ t ∧ t.heap[q]? = some ce ∧ ce.vm = .none ∧ s.vm.findClass E = some ce.cls ∧
      Steps p.tables e below (T.setTop g) ((T'.setTop { g with stack := rest }).pushFrame (.throwing q)))
def vx_X {S : Type} (px : S → Prop) (B : String → S → State → Prop) (A : Nat → Prop) : String → State → State → Prop := fun E st t => ∃ u : S, px u ∧ B E u t ∧ va_F A st t
section Runs
variable {p : Program} {l : Launch} {e : Env} {R : Room} {s : State} {m : MethodId} {args : Array Value} {below : List Frame} {meth : Method} {c : Code} {H : Heap} {locs : List Loc} {cells slots : Nat}
variable {y : MethodName} {bytes cc : ByteArray} {maxL nL mc ms n index : Nat} {ret : Option FieldType} {ws : List Cond} {rm : Room} {Pc : Array Value → State → Prop} {Qc : Array Value → State → Outcome → State → Prop} {XC : String → State → State → Prop} {free : Addr → Prop} {Ts : List Cond} {own C : String} {b : Addr} {As rest : List Value} {g : JFrame}
theorem vx_callBack (cb : CallB R s args own index y bytes maxL ret ws rm mc ms n) (hM : vx_Met l y ws rm Pc Qc XC mc ms free) (hbl : FrameBlind Pc) : vx_Back l R p e below s args y 3 8 (PreOf R mc ms Pc) (PostOf Qc mc ms free) (vx_Post XC mc ms free) := by
  obtain ⟨hrc, hrs, hfr, hlo, hws, hcw, -, hini, -⟩ := cb
  exact vx_back (bytes := bytes) (maxL := maxL) (ret := ret) hM hbl hrc hrs hfr hlo hws hcw (fun a' U hW => word_at hW (Or.inl (by first | rfl | simp [Cond.onTables, Cond.keeps, Cond.steady])) hini)
theorem vx_runV (S : CallFix p m c cc nL s args Ts own) (hM : vx_Met l y ws rm Pc Qc XC mc ms free) (cw : CallW R s args own C index y bytes maxL ret ws rm mc ms n) (hp : PreV s H C b Pc As)
    (hg : g.method = m) (hn : As.length = n) (hsize : g.locals.size = nL) (hstack : g.stack = As.reverse ++ .ref b :: rest) (hW : 2 * g.monitorRoom + (rest.map fun v => v.category).sum ≤ 8) (hdg : decode cc g.pc = .ok (.invokevirtual index, 3)) (hf : cells + mc ≤ R.cells ∧ slots + ms ≤ R.slots) :
    vx_Run p l e R s m args below meth c H locs cells slots mc ms g rest (Qc (Value.ref b :: As).toArray) XC free := by
  have hK : vx_Back l R p e below s args y 3 8 (PreOf R mc ms Pc) (PostOf Qc mc ms free) (vx_Post XC mc ms free) := vx_callBack cw.1 hM hp.1
  obtain ⟨⟨-, -, -, -, -, -, hcode, -, hy, hlen, hl⟩, hin, hse⟩ := cw
  obtain ⟨hx, hb, hml, ho, -⟩ := S
  obtain ⟨-, ⟨cellB, hcB, hoB, hclB⟩, hPc⟩ := hp
  intro T hT X
  rcases vx_callV X hx (C := C) (bytes := bytes) (maxL := maxL) (ret := ret) ho hl hin hse hcode hy hK (by rw [hT]; exact hcB) hoB hclB hg (hsize.trans hml.symm) (argsL := As) (rest := rest) (fun sig h => hn.trans (hlen sig h)) hstack hW (by rw [hb]; exact hdg)
    (fun vm₁ hW₁ => ⟨hf.1, hf.2, hPc (T.setVm vm₁) hT hW₁⟩) with ⟨v, vm₁, ⟨U', l2, c2, s2⟩, hW₁, X', ⟨g', mk, t, L, e1, e2, hq, h1, hL, h2, h3⟩, st⟩ | ⟨q, vm₁, ⟨U', l2, c2, s2⟩, hW₁, X', ⟨g', mk, t, L, E, ce, e1, e2, hq, hce, hcv, hcl, h1, hL, h2, h3⟩, st⟩
  · dsimp only [Pt.U, Pt.locs, Pt.cells, Pt.slots] at X' e1 e2 h1 h2 h3 st
    subst h1; subst h2; subst h3
    exact Or.inl ⟨v, (T.setVm vm₁).calling g' mk (Value.ref b :: As).toArray, t, U', L, hT, X', hL, e1, e2, hq, st⟩
  · dsimp only [Pt.U, Pt.locs, Pt.cells, Pt.slots] at X' e1 e2 h1 h2 h3 st hcl
    subst h1; subst h2; subst h3
    exact Or.inr ⟨q, (T.setVm vm₁).calling g' mk (Value.ref b :: As).toArray, t, U', L, E, ce, hT, X', hL, e1, e2, hq, hce, hcv, vx_cls hW₁ hcl, st⟩
theorem vx_runS (S : CallFix p m c cc nL s args Ts own) (hM : vx_Met l y ws rm Pc Qc XC mc ms free) (cw : CallB R s args own index y bytes maxL ret ws rm mc ms n ∧ (Cond.static y).before args s = true) (hp : PreS s H Pc As)
    (hg : g.method = m) (hn : As.length = n) (hsize : g.locals.size = nL) (hstack : g.stack = As.reverse ++ rest) (hW : 2 * g.monitorRoom + (rest.map fun v => v.category).sum ≤ 8) (hdg : decode cc g.pc = .ok (.invokestatic index, 3)) (hf : cells + mc ≤ R.cells ∧ slots + ms ≤ R.slots) :
    vx_Run p l e R s m args below meth c H locs cells slots mc ms g rest (Qc As.toArray) XC free := by
  have hK : vx_Back l R p e below s args y 3 8 (PreOf R mc ms Pc) (PostOf Qc mc ms free) (vx_Post XC mc ms free) := vx_callBack cw.1 hM hp.1
  obtain ⟨⟨-, -, -, -, -, -, hcode, hini, hy, hlen, hl⟩, hstt⟩ := cw
  obtain ⟨hx, hb, hml, ho, -⟩ := S
  intro T hT X
  rcases vx_callS X hx (bytes := bytes) (maxL := maxL) (ret := ret) ho hl hstt hini hcode hy hK hg (hsize.trans hml.symm) (argsL := As) (rest := rest) (fun sig h => hn.trans (hlen sig h)) hstack hW (by rw [hb]; exact hdg)
    (fun vm₁ hW₁ => ⟨hf.1, hf.2, hp.2 (T.setVm vm₁) hT hW₁⟩) with ⟨v, vm₁, ⟨U', l2, c2, s2⟩, hW₁, X', ⟨g', mk, t, L, e1, e2, hq, h1, hL, h2, h3⟩, st⟩ | ⟨q, vm₁, ⟨U', l2, c2, s2⟩, hW₁, X', ⟨g', mk, t, L, E, ce, e1, e2, hq, hce, hcv, hcl, h1, hL, h2, h3⟩, st⟩
  · dsimp only [Pt.U, Pt.locs, Pt.cells, Pt.slots] at X' e1 e2 h1 h2 h3 st
    subst h1; subst h2; subst h3
    exact Or.inl ⟨v, (T.setVm vm₁).calling g' mk As.toArray, t, U', L, hT, X', hL, e1, e2, hq, st⟩
  · dsimp only [Pt.U, Pt.locs, Pt.cells, Pt.slots] at X' e1 e2 h1 h2 h3 st hcl
    subst h1; subst h2; subst h3
    exact Or.inr ⟨q, (T.setVm vm₁).calling g' mk As.toArray, t, U', L, E, ce, hT, X', hL, e1, e2, hq, hce, hcv, vx_cls hW₁ hcl, st⟩
end Runs
section Rows
variable {p : Program} {l : Launch} {e : Env} {R : Room} {s : State} {m : MethodId} {args : Array Value} {below : List Frame} {meth : Method} {c : Code} {H : Heap} {locs : List Loc} {cells slots : Nat} {Q : State → Prop}
variable {mc ms : Nat} {free : Addr → Prop} {A0 A1 : Nat → Prop} {H0 : Heap} {a : Array Value} {pc : Nat} {ls : Array Slot} {st0 rest : List Value}
theorem vx_keep {st₀ t T' : State} {L : List Loc} (h0 : st₀.heap = H) (e1 : T'.heap = t.heap) (hS : va_S A0 H0 H locs) (hA : ∀ q, q < H.size → A1 q → A0 q) (hf : ∀ q, free q → A0 q) (hL : ∀ q ∈ L, free q.base) (hF : va_F A1 st₀ t) :
    H.size ≤ T'.heap.size ∧ (∀ q : Nat, q < H.size → ¬ A1 q → T'.heap[q]? = H[q]?) ∧ va_S A0 H0 T'.heap (locs ++ L) := by
  obtain ⟨hz, hk⟩ := hF
  rw [h0] at hz hk
  exact ⟨by rw [e1]; exact hz, fun q h1 h2 => by rw [e1]; exact hk q h1 h2,
    ⟨Nat.le_trans hS.1 (by rw [e1]; exact hz), fun q h1 h2 => by rw [e1, hk q (Nat.lt_of_lt_of_le h1 hS.1) (fun z => h2 (hA q (Nat.lt_of_lt_of_le h1 hS.1) z))]; exact hS.2.1 q h1 h2, fun q hq => by
      rcases List.mem_append.mp hq with h | h
      · exact hS.2.2 q h
      · exact hf _ (hL q h)⟩⟩
theorem vx_calli {S SX : Type} {post : Int32 → S → Prop} {px : SX → Prop} {B : S → State → Prop} {BX : String → SX → State → Prop} {AX : Nat → Prop} (hr : vx_Run p l e R s m args below meth c H locs cells slots mc ms (F0 m pc ls st0) rest (va_Qi post B A1 a) (vx_X px BX AX) free) (hS : va_S A0 H0 H locs) (hA : ∀ q, q < H.size → A1 q → A0 q) (hf : ∀ q, free q → A0 q) (hAX : ∀ q, q < H.size → AX q → A0 q)
    (kx : ∀ (E : String) (ce : Cell) (q9 : Addr) (u : SX) (t : State) (H1 : Heap) (locs1 : List Loc), t.heap = H1 → s.vm.Alike t.vm → px u → BX E u t → H.size ≤ H1.size → (∀ q : Nat, q < H.size → ¬ AX q → H1[q]? = H[q]?) → va_S A0 H0 H1 locs1 → H1[q9]? = some ce → ce.vm = .none → s.vm.findClass E = some ce.cls → vx_W p l e R s m args below meth c H1 locs1 (cells + mc) (slots + ms) Q (F0 m pc ls rest) q9)
    (kk : ∀ (r : Int32) (u : S) (t : State) (H1 : Heap) (locs1 : List Loc), t.heap = H1 → s.vm.Alike t.vm → post r u → B u t → H.size ≤ H1.size → (∀ q : Nat, q < H.size → ¬ A1 q → H1[q]? = H[q]?) → va_S A0 H0 H1 locs1 → W p l e R s m args below meth c H1 locs1 (cells + mc) (slots + ms) Q (F0 m (pc + 3) ls (.int r :: rest))) : W p l e R s m args below meth c H locs cells slots Q (F0 m pc ls st0) := by
  intro T hT X
  rcases hr T hT X with ⟨v, st₀, t, T', L, h0, X', hL, e1, e2, ⟨⟨r, u, hv, hp, hb⟩, hF⟩, st⟩ | ⟨q, st₀, t, T', L, E, ce, h0, X', hL, e1, e2, ⟨u, hp, hb, hF⟩, hce, hcv, hcl, st⟩
  · cases hv
    obtain ⟨k1, k2, k3⟩ := vx_keep h0 e1 hS hA hf hL hF
    obtain ⟨t2, a1, b1⟩ := kk r u t T'.heap (locs ++ L) e1.symm (by rw [← e2]; exact X'.warmed.alike) hp hb k1 k2 k3 T' rfl X'
    exact ⟨t2, st t2 a1, b1⟩
  · obtain ⟨k1, k2, k3⟩ := vx_keep h0 e1 hS hAX hf hL hF
    obtain ⟨t2, a1, b1⟩ := kx E ce q u t T'.heap (locs ++ L) e1.symm (by rw [← e2]; exact X'.warmed.alike) hp hb k1 k2 k3 (by rw [e1]; exact hce) hcv hcl T' rfl X'
    exact ⟨t2, st.trans a1, b1⟩
theorem vx_calll {S SX : Type} {post : Int64 → S → Prop} {px : SX → Prop} {B : S → State → Prop} {BX : String → SX → State → Prop} {AX : Nat → Prop} (hr : vx_Run p l e R s m args below meth c H locs cells slots mc ms (F0 m pc ls st0) rest (va_Ql post B A1 a) (vx_X px BX AX) free) (hS : va_S A0 H0 H locs) (hA : ∀ q, q < H.size → A1 q → A0 q) (hf : ∀ q, free q → A0 q) (hAX : ∀ q, q < H.size → AX q → A0 q)
    (kx : ∀ (E : String) (ce : Cell) (q9 : Addr) (u : SX) (t : State) (H1 : Heap) (locs1 : List Loc), t.heap = H1 → s.vm.Alike t.vm → px u → BX E u t → H.size ≤ H1.size → (∀ q : Nat, q < H.size → ¬ AX q → H1[q]? = H[q]?) → va_S A0 H0 H1 locs1 → H1[q9]? = some ce → ce.vm = .none → s.vm.findClass E = some ce.cls → vx_W p l e R s m args below meth c H1 locs1 (cells + mc) (slots + ms) Q (F0 m pc ls rest) q9)
    (kk : ∀ (r : Int64) (u : S) (t : State) (H1 : Heap) (locs1 : List Loc), t.heap = H1 → s.vm.Alike t.vm → post r u → B u t → H.size ≤ H1.size → (∀ q : Nat, q < H.size → ¬ A1 q → H1[q]? = H[q]?) → va_S A0 H0 H1 locs1 → W p l e R s m args below meth c H1 locs1 (cells + mc) (slots + ms) Q (F0 m (pc + 3) ls (.long r :: rest))) : W p l e R s m args below meth c H locs cells slots Q (F0 m pc ls st0) := by
  intro T hT X
  rcases hr T hT X with ⟨v, st₀, t, T', L, h0, X', hL, e1, e2, ⟨⟨r, u, hv, hp, hb⟩, hF⟩, st⟩ | ⟨q, st₀, t, T', L, E, ce, h0, X', hL, e1, e2, ⟨u, hp, hb, hF⟩, hce, hcv, hcl, st⟩
  · cases hv
    obtain ⟨k1, k2, k3⟩ := vx_keep h0 e1 hS hA hf hL hF
    obtain ⟨t2, a1, b1⟩ := kk r u t T'.heap (locs ++ L) e1.symm (by rw [← e2]; exact X'.warmed.alike) hp hb k1 k2 k3 T' rfl X'
    exact ⟨t2, st t2 a1, b1⟩
  · obtain ⟨k1, k2, k3⟩ := vx_keep h0 e1 hS hAX hf hL hF
    obtain ⟨t2, a1, b1⟩ := kx E ce q u t T'.heap (locs ++ L) e1.symm (by rw [← e2]; exact X'.warmed.alike) hp hb k1 k2 k3 (by rw [e1]; exact hce) hcv hcl T' rfl X'
    exact ⟨t2, st.trans a1, b1⟩
theorem vx_callf {S SX : Type} {post : UInt32 → S → Prop} {px : SX → Prop} {B : S → State → Prop} {BX : String → SX → State → Prop} {AX : Nat → Prop} (hr : vx_Run p l e R s m args below meth c H locs cells slots mc ms (F0 m pc ls st0) rest (va_Qf post B A1 a) (vx_X px BX AX) free) (hS : va_S A0 H0 H locs) (hA : ∀ q, q < H.size → A1 q → A0 q) (hf : ∀ q, free q → A0 q) (hAX : ∀ q, q < H.size → AX q → A0 q)
    (kx : ∀ (E : String) (ce : Cell) (q9 : Addr) (u : SX) (t : State) (H1 : Heap) (locs1 : List Loc), t.heap = H1 → s.vm.Alike t.vm → px u → BX E u t → H.size ≤ H1.size → (∀ q : Nat, q < H.size → ¬ AX q → H1[q]? = H[q]?) → va_S A0 H0 H1 locs1 → H1[q9]? = some ce → ce.vm = .none → s.vm.findClass E = some ce.cls → vx_W p l e R s m args below meth c H1 locs1 (cells + mc) (slots + ms) Q (F0 m pc ls rest) q9)
    (kk : ∀ (r : UInt32) (u : S) (t : State) (H1 : Heap) (locs1 : List Loc), t.heap = H1 → s.vm.Alike t.vm → post r u → B u t → H.size ≤ H1.size → (∀ q : Nat, q < H.size → ¬ A1 q → H1[q]? = H[q]?) → va_S A0 H0 H1 locs1 → W p l e R s m args below meth c H1 locs1 (cells + mc) (slots + ms) Q (F0 m (pc + 3) ls (.float r :: rest))) : W p l e R s m args below meth c H locs cells slots Q (F0 m pc ls st0) := by
  intro T hT X
  rcases hr T hT X with ⟨v, st₀, t, T', L, h0, X', hL, e1, e2, ⟨⟨r, u, hv, hp, hb⟩, hF⟩, st⟩ | ⟨q, st₀, t, T', L, E, ce, h0, X', hL, e1, e2, ⟨u, hp, hb, hF⟩, hce, hcv, hcl, st⟩
  · cases hv
    obtain ⟨k1, k2, k3⟩ := vx_keep h0 e1 hS hA hf hL hF
    obtain ⟨t2, a1, b1⟩ := kk r u t T'.heap (locs ++ L) e1.symm (by rw [← e2]; exact X'.warmed.alike) hp hb k1 k2 k3 T' rfl X'
    exact ⟨t2, st t2 a1, b1⟩
  · obtain ⟨k1, k2, k3⟩ := vx_keep h0 e1 hS hAX hf hL hF
    obtain ⟨t2, a1, b1⟩ := kx E ce q u t T'.heap (locs ++ L) e1.symm (by rw [← e2]; exact X'.warmed.alike) hp hb k1 k2 k3 (by rw [e1]; exact hce) hcv hcl T' rfl X'
    exact ⟨t2, st.trans a1, b1⟩
theorem vx_calld {S SX : Type} {post : UInt64 → S → Prop} {px : SX → Prop} {B : S → State → Prop} {BX : String → SX → State → Prop} {AX : Nat → Prop} (hr : vx_Run p l e R s m args below meth c H locs cells slots mc ms (F0 m pc ls st0) rest (va_Qd post B A1 a) (vx_X px BX AX) free) (hS : va_S A0 H0 H locs) (hA : ∀ q, q < H.size → A1 q → A0 q) (hf : ∀ q, free q → A0 q) (hAX : ∀ q, q < H.size → AX q → A0 q)
    (kx : ∀ (E : String) (ce : Cell) (q9 : Addr) (u : SX) (t : State) (H1 : Heap) (locs1 : List Loc), t.heap = H1 → s.vm.Alike t.vm → px u → BX E u t → H.size ≤ H1.size → (∀ q : Nat, q < H.size → ¬ AX q → H1[q]? = H[q]?) → va_S A0 H0 H1 locs1 → H1[q9]? = some ce → ce.vm = .none → s.vm.findClass E = some ce.cls → vx_W p l e R s m args below meth c H1 locs1 (cells + mc) (slots + ms) Q (F0 m pc ls rest) q9)
    (kk : ∀ (r : UInt64) (u : S) (t : State) (H1 : Heap) (locs1 : List Loc), t.heap = H1 → s.vm.Alike t.vm → post r u → B u t → H.size ≤ H1.size → (∀ q : Nat, q < H.size → ¬ A1 q → H1[q]? = H[q]?) → va_S A0 H0 H1 locs1 → W p l e R s m args below meth c H1 locs1 (cells + mc) (slots + ms) Q (F0 m (pc + 3) ls (.double r :: rest))) : W p l e R s m args below meth c H locs cells slots Q (F0 m pc ls st0) := by
  intro T hT X
  rcases hr T hT X with ⟨v, st₀, t, T', L, h0, X', hL, e1, e2, ⟨⟨r, u, hv, hp, hb⟩, hF⟩, st⟩ | ⟨q, st₀, t, T', L, E, ce, h0, X', hL, e1, e2, ⟨u, hp, hb, hF⟩, hce, hcv, hcl, st⟩
  · cases hv
    obtain ⟨k1, k2, k3⟩ := vx_keep h0 e1 hS hA hf hL hF
    obtain ⟨t2, a1, b1⟩ := kk r u t T'.heap (locs ++ L) e1.symm (by rw [← e2]; exact X'.warmed.alike) hp hb k1 k2 k3 T' rfl X'
    exact ⟨t2, st t2 a1, b1⟩
  · obtain ⟨k1, k2, k3⟩ := vx_keep h0 e1 hS hAX hf hL hF
    obtain ⟨t2, a1, b1⟩ := kx E ce q u t T'.heap (locs ++ L) e1.symm (by rw [← e2]; exact X'.warmed.alike) hp hb k1 k2 k3 (by rw [e1]; exact hce) hcv hcl T' rfl X'
    exact ⟨t2, st.trans a1, b1⟩
theorem vx_callv {S SX : Type} {post : S → Prop} {px : SX → Prop} {B : S → State → Prop} {BX : String → SX → State → Prop} {AX : Nat → Prop} (hr : vx_Run p l e R s m args below meth c H locs cells slots mc ms (F0 m pc ls st0) rest (va_Qv post B A1 a) (vx_X px BX AX) free) (hS : va_S A0 H0 H locs) (hA : ∀ q, q < H.size → A1 q → A0 q) (hf : ∀ q, free q → A0 q) (hAX : ∀ q, q < H.size → AX q → A0 q)
    (kx : ∀ (E : String) (ce : Cell) (q9 : Addr) (u : SX) (t : State) (H1 : Heap) (locs1 : List Loc), t.heap = H1 → s.vm.Alike t.vm → px u → BX E u t → H.size ≤ H1.size → (∀ q : Nat, q < H.size → ¬ AX q → H1[q]? = H[q]?) → va_S A0 H0 H1 locs1 → H1[q9]? = some ce → ce.vm = .none → s.vm.findClass E = some ce.cls → vx_W p l e R s m args below meth c H1 locs1 (cells + mc) (slots + ms) Q (F0 m pc ls rest) q9)
    (kk : ∀ (u : S) (t : State) (H1 : Heap) (locs1 : List Loc), t.heap = H1 → s.vm.Alike t.vm → post u → B u t → H.size ≤ H1.size → (∀ q : Nat, q < H.size → ¬ A1 q → H1[q]? = H[q]?) → va_S A0 H0 H1 locs1 → W p l e R s m args below meth c H1 locs1 (cells + mc) (slots + ms) Q (F0 m (pc + 3) ls (rest))) : W p l e R s m args below meth c H locs cells slots Q (F0 m pc ls st0) := by
  intro T hT X
  rcases hr T hT X with ⟨v, st₀, t, T', L, h0, X', hL, e1, e2, ⟨⟨u, hv, hp, hb⟩, hF⟩, st⟩ | ⟨q, st₀, t, T', L, E, ce, h0, X', hL, e1, e2, ⟨u, hp, hb, hF⟩, hce, hcv, hcl, st⟩
  · cases hv
    obtain ⟨k1, k2, k3⟩ := vx_keep h0 e1 hS hA hf hL hF
    obtain ⟨t2, a1, b1⟩ := kk u t T'.heap (locs ++ L) e1.symm (by rw [← e2]; exact X'.warmed.alike) hp hb k1 k2 k3 T' rfl X'
    exact ⟨t2, st t2 a1, b1⟩
  · obtain ⟨k1, k2, k3⟩ := vx_keep h0 e1 hS hAX hf hL hF
    obtain ⟨t2, a1, b1⟩ := kx E ce q u t T'.heap (locs ++ L) e1.symm (by rw [← e2]; exact X'.warmed.alike) hp hb k1 k2 k3 (by rw [e1]; exact hce) hcv hcl T' rfl X'
    exact ⟨t2, st.trans a1, b1⟩
/-- caught by the row x of this method's table; the rows ahead don't take it -/
theorem vx_catch {own name : String} {E : String} {ce : Cell} {q : Addr} (hown : s.vm.findClass own = some m.cls) (pre : List ExceptionTableEntry) (x : ExceptionTableEntry) (suf : List ExceptionTableEntry) (hsplit : c.exceptionTable.toList = pre ++ x :: suf)
    (hpass : ∀ z ∈ pre, covers z pc = false ∨ (z.catchType ≠ 0 ∧ ∃ nm : String, (Cond.classLink own z.catchType nm).before args s = true ∧ va_Nc E nm s)) (hx : covers x pc = true) (h0 : x.catchType ≠ 0)
    (hlink : (Cond.classLink own x.catchType name).before args s = true) (hcast : (Cond.castable E name).before args s = true) (hcell : H[q]? = some ce) (hv : ce.vm = .none) (hcl : s.vm.findClass E = some ce.cls)
    (kk : W p l e R s m args below meth c H locs cells slots Q (F0 m x.handlerPc ls [.ref q])) : vx_W p l e R s m args below meth c H locs cells slots Q (F0 m pc ls rest) q := by
  intro T hT X
  have hpl : e.platform.magicAccessors = ({} : Platform).magicAccessors := by rw [X.admits.platform]
  obtain ⟨c3, c4, hc3, hc4, hasg⟩ := Cond.castable_spec hcast
  cases Option.some.inj (hc3.symm.trans hcl)
  obtain ⟨c5, hc5, hcl5⟩ := Cond.classLink_spec hown hlink e.platform hpl
  cases Option.some.inj (hc4.symm.trans hc5)
  obtain ⟨vm', X', st⟩ := X.thenCaughtThrough q (g := F0 m pc ls rest) rfl (Steps.refl _) (by rw [hT]; exact hcell) (by rw [hv]; rfl) (by obtain ⟨k9, h9, -⟩ := Vm.findClass_spec hcl; exact ⟨k9, h9⟩) pre x suf hsplit
    (fun z hz => by
      rcases hpass z hz with h | ⟨hz0, nm, hl1, hn1⟩
      · exact Or.inl h
      · obtain ⟨c6, hc6, hcl6⟩ := Cond.classLink_spec hown hl1 e.platform hpl
        obtain ⟨a8, b8, h1, h2, h3⟩ := hn1
        cases Option.some.inj (h1.symm.trans hcl)
        cases Option.some.inj (h2.symm.trans hc6)
        exact Or.inr ⟨hz0, _, hcl6, h3⟩) hx (Or.inr ⟨h0, c4, hcl5, hasg⟩)
  obtain ⟨t, a1, b1⟩ := kk (T.setVm vm') hT X'
  exact ⟨t, st.trans a1, b1⟩
end Rows
section Ends
variable {p : Program} {l : Launch} {e : Env} {R : Room} {s : State} {m : MethodId} {args : Array Value} {below : List Frame} {meth : Method} {c : Code} {H : Heap} {locs : List Loc} {cells slots : Nat} {Q : State → Prop}
variable {mc ms : Nat} {free : Addr → Prop} {A0 A1 : Nat → Prop} {H0 : Heap} {a : Array Value} {ls : Array Slot} {st0 rest : List Value}
variable {Qc : Array Value → State → Outcome → State → Prop} {XC : String → State → State → Prop}
/-- what a body that may throw owes at its end -/
def vx_MQ (below : List Frame) (Qc : Array Value → State → Outcome → State → Prop) (XC : String → State → State → Prop) (a : Array Value) (s : State) (mc ms : Nat) (free : Addr → Prop) : State → Prop := fun t =>
  ∃ o, t.status = .running ∧ Ended t below o ∧ vx_Q Qc XC mc ms free a s o t
theorem vx_ret {g : JFrame} {mc ms : Nat} (k : W p l e R s m args below meth c H locs cells slots (MQ below Qc args s mc ms free) g) : W p l e R s m args below meth c H locs cells slots (vx_MQ below Qc XC args s mc ms free) g := by
  intro T hT X
  obtain ⟨t, a1, o, b1, b2, b3, b4⟩ := k T hT X
  exact ⟨t, a1, o, b1, b2, Or.inl ⟨b3, b4⟩⟩
/-- not caught here: it goes on to the caller -/
theorem vx_widen {g : JFrame} {q : Addr} {k n : Nat} (h1 : cells ≤ k) (h2 : slots ≤ n) (kk : vx_W p l e R s m args below meth c H locs k n Q g q) : vx_W p l e R s m args below meth c H locs cells slots Q g q := fun T hT X => kk T hT (stand_widen X h1 h2)
theorem vx_out {pc : Nat} {E : String} {ce : Cell} {q : Addr} {mc ms : Nat} (hout : ∀ x ∈ c.exceptionTable.toList, covers x pc = false) (hlocks : meth.locks = false) (hcell : H[q]? = some ce) (hv : ce.vm = .none) (hcl : s.vm.findClass E = some ce.cls)
    (hx : ∀ t : State, t.heap = H → s.vm.Alike t.vm → XC E s t) (hf : ∀ z ∈ locs, free z.base) (hc : cells ≤ mc) (hs : slots ≤ ms) :
    vx_W p l e R s m args below meth c H locs cells slots (vx_MQ below Qc XC args s mc ms free) (F0 m pc ls rest) q := by
  intro T hT X
  obtain ⟨st1, hrun, hend, hW, hsm⟩ := X.leaveThrown q (g := F0 m pc ls rest) rfl rfl rfl hout hlocks
  have hcell9 : (T.setFrames (.throwing q :: below)).heap[q]? = some ce := by
    show T.heap[q]? = some ce
    rw [hT]; exact hcell
  exact ⟨_, st1, .threw q, hrun, hend, Or.inr ⟨q, rfl, E, ce, locs, hx _ hT hW.alike, hcell9, hv, hcl, hW, hsm.mono hc hs, hf⟩⟩
theorem vx_frame {U : State} {k n : Nat} (h : s.sameButNew ({ U with vm := s.vm } : State) locs k n) : s.heap.size ≤ U.heap.size ∧ ∀ q : Nat, q < s.heap.size → (∀ z ∈ locs, z.base ≠ q) → U.heap[q]? = s.heap[q]? := by
  obtain ⟨-, h2, -, -, -, h6⟩ := h
  refine ⟨h2, fun q hq hz => ?_⟩
  obtain ⟨c9, e1, e2, e3, e4⟩ := h6 q _ (Array.getElem?_eq_getElem hq)
  have hs : c9.slots = (s.heap[q]).slots := Array.ext_getElem? fun i => e4 i fun hm => hz _ hm rfl
  have h9 : c9 = s.heap[q] := by
    rw [hs] at e2
    exact e2
  have e5 : U.heap[q]? = some c9 := e1
  rw [e5, h9, Array.getElem?_eq_getElem hq]
/-- the words of a throw but the four that speak of the heap -/
def vx_no (w : Cond) : Bool := decide (w ≠ .isRef (.static Bundle.tN "UNASSIGNED_STACK" Bundle.steD)) && decide (w ≠ .isRef (.static Bundle.tN "SUPPRESSED_SENTINEL" Bundle.listD)) && decide (w ≠ .laysStatic Bundle.tN "UNASSIGNED_STACK" Bundle.steD) && decide (w ≠ .laysStatic Bundle.tN "SUPPRESSED_SENTINEL" Bundle.listD)
def vx_at0 (own : String) (ic : Nat) (X : String) (names : List String) : List Cond := (Bundle.ownAtoms0 own ic X names).filter vx_no
def vx_atS (own : String) (ic : Nat) (X : String) (names : List String) : List Cond := (Bundle.ownAtoms own ic X names).filter vx_no
/-- a word that the tables alone decide, or a good one -/
def vx_ot (w : Cond) : Bool := w.onTables || goodWord w
theorem vx_ot_at {args a' : Array Value} {s U : State} {w : Cond} (hW : s.WarmedH U.vm) (hvm : s.vm = U.vm) (hg : vx_ot w = true) (h : w.before args s = true) : w.before a' U = true := by
  simp only [vx_ot, Bool.or_eq_true] at hg
  rcases hg with hg | hg
  · exact va_tabs hg hvm h
  · exact word_at hW (good_of_word hg) h
/-- a list's words: the good ones out of the method's own list, the others by premises of their own -/
theorem vx_hat {args : Array Value} {s : State} {L B : List Cond} (h1 : ∀ w ∈ L.filter goodWord, w.before args s = true) (h2 : ∀ w ∈ L.filter (fun w => !goodWord w), w ∈ B) (h3 : ∀ w ∈ B, w.before args s = true) : ∀ w ∈ L, w.before args s = true := by
  intro w hw
  by_cases g : goodWord w = true
  · exact h1 w (List.mem_filter.mpr ⟨hw, g⟩)
  · refine h3 w (h2 w (List.mem_filter.mpr ⟨hw, ?_⟩))
    show (!goodWord w) = true
    cases hgw : goodWord w
    · rfl
    · exact absurd hgw g
theorem vx_c {args : Array Value} {s : State} {w : Cond} {B : List Cond} (h : w.before args s = true) (t : ∀ w ∈ B, w.before args s = true) : ∀ w' ∈ w :: B, w'.before args s = true := fun w' h' => (List.mem_cons.mp h').elim (fun e => by rw [e]; exact h) (t w')
theorem vx_n {args : Array Value} {s : State} : ∀ w ∈ ([] : List Cond), w.before args s = true := fun _ h => nomatch h
theorem vx_own {args : Array Value} {s : State} {L : List Cond} (h1 : ∀ w ∈ L.filter vx_no, w.before args s = true)
    (hU : (Cond.isRef (.static Bundle.tN "UNASSIGNED_STACK" Bundle.steD)).before args s = true) (hN : (Cond.isRef (.static Bundle.tN "SUPPRESSED_SENTINEL" Bundle.listD)).before args s = true)
    (lU : (Cond.laysStatic Bundle.tN "UNASSIGNED_STACK" Bundle.steD).before args s = true) (lN : (Cond.laysStatic Bundle.tN "SUPPRESSED_SENTINEL" Bundle.listD).before args s = true) : ∀ w ∈ L, w.before args s = true := by
  intro w hw
  by_cases e1 : w = .isRef (.static Bundle.tN "UNASSIGNED_STACK" Bundle.steD)
  · rw [e1]; exact hU
  · by_cases e2 : w = .isRef (.static Bundle.tN "SUPPRESSED_SENTINEL" Bundle.listD)
    · rw [e2]; exact hN
    · by_cases e3 : w = .laysStatic Bundle.tN "UNASSIGNED_STACK" Bundle.steD
      · rw [e3]; exact lU
      · by_cases e4 : w = .laysStatic Bundle.tN "SUPPRESSED_SENTINEL" Bundle.listD
        · rw [e4]; exact lN
        · exact h1 w (List.mem_filter.mpr ⟨hw, by unfold vx_no; rw [decide_eq_true e1, decide_eq_true e2, decide_eq_true e3, decide_eq_true e4]; rfl⟩)
/-- where a static field lies, its class's statics cell in H -/
def vx_L (C n d : String) (A : Nat → Prop) (U : State) (H : Heap) : Prop := ∃ (c : ClassId) (k : Class) (i : Nat) (f : Field) (a : Nat) (cell : Cell), U.vm.findClass C = some c ∧ U.fieldFound? C n d = some (c, k, i, f) ∧ f.isStatic = true ∧ k.statics = some a ∧ H[a]? = some cell ∧ cell.vm.isStatics = true ∧ cell.cls = c ∧ f.slot < cell.slots.size ∧ k.staticTypes[f.slot]? = some f.type ∧ ¬ A a
theorem vx_L.moved {C n d : String} {A : Nat → Prop} {u U : State} {H : Heap} (hvm : u.vm.Alike U.vm) (h : vx_L C n d A u H) : vx_L C n d A U H := by
  obtain ⟨c, k, i, f, a, cell, h1, h2, h3, h4, h5, h6, h7, h8, h9, h10⟩ := h
  obtain ⟨k', hi', he⟩ := State.fieldFound?_setVm hvm h2
  exact ⟨c, k', i, f, a, cell, by rw [hvm.findClass]; exact h1, hi', h3, by rw [he]; exact h4, h5, h6, h7, h8, by rw [he]; exact h9, h10⟩
theorem vx_L.kept {C n d : String} {A : Nat → Prop} {U : State} {H H1 : Heap} (h : vx_L C n d A U H) (hq : ∀ a : Nat, a < H.size → ¬ A a → H1[a]? = H[a]?) : vx_L C n d A U H1 := by
  obtain ⟨c, k, i, f, a, cell, h1, h2, h3, h4, h5, h6, h7, h8, h9, h10⟩ := h
  exact ⟨c, k, i, f, a, cell, h1, h2, h3, h4, by rw [hq a (Array.getElem?_eq_some_iff.mp h5).1 h10]; exact h5, h6, h7, h8, h9, h10⟩
theorem vx_L.narrow {C n d : String} {A B : Nat → Prop} {U : State} {H : Heap} (h : vx_L C n d A U H) (hAB : ∀ q, B q → A q) : vx_L C n d B U H := by
  obtain ⟨c, k, i, f, a, cell, h1, h2, h3, h4, h5, h6, h7, h8, h9, h10⟩ := h
  exact ⟨c, k, i, f, a, cell, h1, h2, h3, h4, h5, h6, h7, h8, h9, fun z => h10 (hAB _ z)⟩
theorem vx_L.word {C n d : String} {A : Nat → Prop} {s : State} {args : Array Value} (h : vx_L C n d A s s.heap) : (Cond.laysStatic C n d).before args s = true := by
  obtain ⟨c, k, i, f, a, cell, h1, h2, h3, h4, h5, h6, h7, h8, h9, -⟩ := h
  show (Cond.laysStatic C n d).holds args s none s [] = true
  exact Cond.laysStatic_of h1 h2 h3 h4 h5 h6 h7 h8 h9
/-- .. and what it holds: null or some reference -/
def vx_Zq (C n d : String) (A : Nat → Prop) (U : State) (H : Heap) : Prop := va_Zq C n d A U H ∧ vx_L C n d A U H
theorem vx_Zq.moved {C n d : String} {A : Nat → Prop} {u U : State} {H : Heap} (hvm : u.vm.Alike U.vm) (h : vx_Zq C n d A u H) : vx_Zq C n d A U H := ⟨va_Zq.moved hvm h.1, vx_L.moved hvm h.2⟩
theorem vx_Zq.kept {C n d : String} {A : Nat → Prop} {U : State} {H H1 : Heap} (h : vx_Zq C n d A U H) (hq : ∀ a : Nat, a < H.size → ¬ A a → H1[a]? = H[a]?) : vx_Zq C n d A U H1 := ⟨va_Zq.kept h.1 hq, vx_L.kept h.2 hq⟩
theorem vx_Zq.narrow {C n d : String} {A B : Nat → Prop} {U : State} {H : Heap} (h : vx_Zq C n d A U H) (hAB : ∀ q, B q → A q) : vx_Zq C n d B U H := ⟨va_Zq.narrow h.1 hAB, vx_L.narrow h.2 hAB⟩
theorem vx_Zqof {args : Array Value} {s : State} {C n d : String} {A : Nat → Prop} (hl : (Cond.laysStatic C n d).before args s = true) (hini : (Cond.initialized C).before args s = true) (h : (Cond.isRef (.static C n d)).before args s = true) (hA : ∀ a : Nat, a < s.heap.size → ¬ A a) : vx_Zq C n d A s s.heap := by
  refine ⟨va_Zqof hl hini h hA, ?_⟩
  obtain ⟨c, k, i, f, a, cell, h1, h2, h3, h4, h5, h6, h7, h8, h9⟩ := Cond.laysStatic_spec hl
  exact ⟨c, k, i, f, a, cell, h1, h2, h3, h4, h5, h6, h7, h8, h9, hA a (Array.getElem?_eq_some_iff.mp h5).1⟩
theorem vx_isRef {C n d : String} {v : Value} {A : Nat → Prop} {s : State} {args : Array Value} (h : va_Z C n d v A s s.heap) (hv : v.isRef = true) : (Cond.isRef (.static C n d)).before args s = true := by
  obtain ⟨cf, kf, fi, f, a, cell, h1, h2, h3, h4, h5, h6, h7, -⟩ := h
  have he : (Term.static C n d).eval args s none [] s = some v := by
    simp [Term.eval, State.fieldNamed?, h1, h2, h4, h5, h6, h7]
  simp only [Cond.before, Cond.holds, Cond.value, he]
  cases v <;> simp_all [Value.isRef]
theorem vx_isRefq {C n d : String} {A : Nat → Prop} {s : State} {args : Array Value} (h : va_Zq C n d A s s.heap) : (Cond.isRef (.static C n d)).before args s = true := by
  rcases h with h | ⟨t, h⟩
  · exact vx_isRef h rfl
  · exact vx_isRef h rfl
/-- the same frame, seen from here: as if the method were called anew in this heap -/
theorem vx_rebase {T : State} (X : Stand p l e R s m args below meth c T locs cells slots) {R' : Room} (hf : R'.frames ≤ R.frames) (hl : R'.locals ≤ R.locals) (hc : cells + R'.cells ≤ R.cells) (hs : slots + R'.slots ≤ R.slots) :
    Stand p l e R' ((T.setVm s.vm).setFrames (.invoking m args :: below)) m args below meth c T [] 0 0 := by
  have htop : (T.setVm s.vm).topJava?.isSome := X.here.top
  have hF : ((T.setVm s.vm).setFrames (.invoking m args :: below)).frames = .invoking m args :: below := State.frames_setFrames _ (State.cur_lt_of_top htop)
  obtain ⟨g₀, hg0⟩ := Option.isSome_iff_exists.mp htop
  obtain ⟨r, hr⟩ := State.topJava?_eq_some.mp hg0
  have hl9 : e.platform.stackLimits (T.setVm s.vm).me = e.platform.stackLimits s.me := X.limits
  have hb9 : (T.setVm s.vm).me.stackBytes = s.me.stackBytes := X.bytes
  refine ⟨X.admits, X.cas, X.clock, hF, ?_, X.hears, X.method, X.code, X.here, X.tail, X.warmed, ?_, ?_, ?_⟩
  · have h := X.room
    have hU : ((T.setVm s.vm).setFrames (.invoking m args :: below)).localsInUse = s.localsInUse := by
      rw [State.localsInUse_invoking hF (meth := meth) (c := c) X.method X.code, State.localsInUse_invoking X.frames X.method X.code]
    simp only [State.hasRoom, Bool.and_eq_true, decide_eq_true_eq] at h ⊢
    obtain ⟨⟨⟨⟨h1, h2, h3, h4, h5, h6⟩, h7⟩, h8⟩, h9⟩ := h
    rw [X.frames, List.length_cons] at h2 h3
    have q1 := X.heapSize
    have q2 := X.used
    simp only [hF, hU, List.length_cons, State.stackLimits_setFrames, State.stackBytes_setFrames, hl9, hb9]
    refine ⟨⟨⟨⟨by omega, by omega, by omega, by omega, by omega, h6⟩, ?_⟩, ?_⟩, X.book⟩
    · show T.heap.size + R'.cells ≤ e.platform.maxCells
      omega
    · show T.slotsUsed + R'.slots ≤ e.platform.maxSlots
      omega
  · rw [State.stackLimits_setFrames]; rfl
  · rw [State.stackBytes_setFrames]; rfl
  · refine ⟨?_, Nat.le_refl _, Nat.le_refl _, ?_, ?_, fun a c9 h9 => ⟨c9, h9, rfl, rfl, fun _ _ => rfl⟩⟩
    · obtain ⟨t, ht, -⟩ := State.frames_cons hr
      show T.setVm s.vm = { ((T.setVm s.vm).setFrames (.invoking m args :: below)).setFrames (T.setVm s.vm).frames with heap := T.heap, slotsUsed := T.slotsUsed }
      rw [State.setFrames_setFrames, State.setFrames_self ht]
      rfl
    · show T.slotsUsed = T.slotsUsed + ((T.heap.toList.drop T.heap.size).map (·.slots.size)).sum
      rw [List.drop_eq_nil_of_le (Nat.le_of_eq Array.length_toList)]
      rfl
    · show ((T.heap.toList.drop T.heap.size).map (·.slots.size)).sum ≤ 0
      rw [List.drop_eq_nil_of_le (Nat.le_of_eq Array.length_toList)]
      exact Nat.le_refl _
/-- 'throw new E()': new; dup; invokespecial; athrow -/
theorem vx_throw0 {cc : ByteArray} {pc : Nat} (hexec : p.tables.exec = Jvm.exec) (hb : c.code = cc) (hl : l.stackTraces = false) {own cls : String} {names : List String} {ik ic mc ms : Nat} {A : Nat → Prop}
    (hown : s.vm.findClass own = some m.cls) (hcls : Bundle.fit cls = true) (hnames : ∀ n ∈ names, Bundle.fit n = true)
    (hk : (Cond.classLink own ik cls).before args s = true) (hini : (Cond.initialized cls).before args s = true) (hat : ∀ w ∈ vx_at0 own ic cls names, w.before args s = true)
    (hgood : ∀ w ∈ Cond.classLink own ik cls :: Cond.initialized cls :: vx_at0 own ic cls names, vx_ot w = true)
    (hU : vx_Zq Bundle.tN "UNASSIGNED_STACK" Bundle.steD A s s.heap) (hN : vx_Zq Bundle.tN "SUPPRESSED_SENTINEL" Bundle.listD A s s.heap) (hS : va_S A s.heap H locs) (hsize : ls.size = c.maxLocals)
    (d0 : decode cc pc = .ok (.new ik, 3)) (d3 : decode cc (pc + 3) = .ok (.dup, 1)) (d4 : decode cc (pc + 4) = .ok (.invokespecial ic, 3)) (d7 : decode cc (pc + 7) = .ok (.athrow, 1))
    (hout : ∀ x ∈ c.exceptionTable.toList, covers x (pc + 7) = false)
    (hRframes : names.length + 3 < R.frames) (hRlocals : (rest.map fun v => v.category).sum + (13 * (names.length + 1) + 42) ≤ R.locals) (hRcells : cells + 1 ≤ R.cells) (hRslots : slots + 6 ≤ R.slots) (hlocks : meth.locks = false)
    (hx : ∀ t : State, s.vm.Alike t.vm → H.size ≤ t.heap.size → (∀ q : Nat, q < H.size → t.heap[q]? = H[q]?) → XC cls s t)
    (hf : ∀ z ∈ locs, free z.base) (hc : cells + 1 ≤ mc) (hs : slots + 6 ≤ ms) :
    W p l e R s m args below meth c H locs cells slots (vx_MQ below Qc XC args s mc ms free) (F0 m pc ls rest) := by
  intro T hT X
  have htr : e.platform.stackTraces = false := (show e.platform.stackTraces = l.stackTraces by rw [X.admits.platform]).trans hl
  have Y := vx_rebase X (R' := { frames := R.frames, locals := R.locals, cells := 1, slots := 6 }) (Nat.le_refl _) (Nat.le_refl _) hRcells hRslots
  obtain ⟨s', hA⟩ : ∃ z, z = (T.setVm s.vm).setFrames (.invoking m args :: below) := ⟨_, rfl⟩
  rw [← hA] at Y
  have hvm : s'.vm = s.vm := by rw [hA]; rfl
  have hhp : s'.heap = H := by rw [hA]; exact hT
  have hW0 : s.WarmedH s'.vm := by rw [hvm]; exact State.WarmedH.refl s
  have hat' : ∀ w ∈ vx_at0 own ic cls names, w.before args s' = true := fun w hw => vx_ot_at hW0 hvm.symm (hgood w (List.mem_cons_of_mem _ (List.mem_cons_of_mem _ hw))) (hat w hw)
  have hk' : (Cond.classLink own ik cls).before args s' = true := vx_ot_at hW0 hvm.symm (hgood _ List.mem_cons_self) hk
  have hini' : (Cond.initialized cls).before args s' = true := vx_ot_at hW0 hvm.symm (hgood _ (List.mem_cons_of_mem _ List.mem_cons_self)) hini
  have hU' : vx_Zq Bundle.tN "UNASSIGNED_STACK" Bundle.steD A s' s'.heap := by rw [hhp]; exact vx_Zq.moved hW0.alike (hU.kept hS.2.1)
  have hN' : vx_Zq Bundle.tN "SUPPRESSED_SENTINEL" Bundle.listD A s' s'.heap := by rw [hhp]; exact vx_Zq.moved hW0.alike (hN.kept hS.2.1)
  have h : ∀ w ∈ Bundle.ownAtoms0 own ic cls names, w.before args s' = true := vx_own hat' (vx_isRefq hU'.1) (vx_isRefq hN'.1) hU'.2.word hN'.2.word
  have hown' : s'.vm.findClass own = some m.cls := by rw [hvm]; exact hown
  have hins : (Cond.instantiable cls 6).before args s' = true := h _ (by simp [Bundle.ownAtoms0])
  obtain ⟨vm₁, cX, kX, hfX, hkX, -, -, X₁, st1⟩ := Y.newCold hexec (own := own) (C := cls) (index := ik) (n := 6) hown' hk' hins hini'
    (g := F0 m pc ls rest) rfl (by rw [hb]; exact d0) (Nat.le_refl _) (Nat.le_refl _)
  generalize hT1 : (T.setVm vm₁).pushCell { cls := cX, slots := kX.instanceTypes.map defaultValue, vm := .none } = T1 at X₁ st1
  have hcat : (Value.ref T.heap.size).category = 1 := rfl
  have hcellA : T1.heap[T.heap.size]? = some (freshCell cX kX) := by rw [← hT1]; exact State.heap_pushCell_size _ _
  have d3' : decode c.code (pc + 3) = .ok (.dup, 1) := by rw [hb]; exact d3
  obtain ⟨U, hsteps, hrun, hend, hW, hsame, ce, hce, hO⟩ := X₁.ctorThrow0 hexec htr (own := own) (cls := cls) (names := names) (ic := ic) hown' hcls hnames h (fun x hx => nomatch hx) hfX hkX hcellA (by rw [hhp, hT]; exact Nat.le_refl _)
    (g := { method := m, pc := pc + 4, locals := ls, stack := .ref T.heap.size :: .ref T.heap.size :: rest, locked := none }) rfl hsize rfl rfl (rest := rest) rfl
    (by rw [hb]; exact d4) (by rw [hb]; exact d7) hout hRframes (by simp only [List.map_cons, List.sum_cons, hcat]; omega) hlocks
  obtain ⟨f1, f2⟩ := vx_frame hsame
  rw [hhp] at f1 f2
  have hWs : s.WarmedH U.vm := State.WarmedH.trans hW0 hW
  have hcl : s.vm.findClass cls = some ce.cls := by
    have h9 := hO.cls
    rw [hvm] at h9
    exact h9
  have hall : s.sameButNew ({ U with vm := s.vm } : State) locs mc ms := by
    subst hA
    obtain ⟨e1, e2⟩ := hsame
    rw [State.setFrames_setFrames] at e1
    have h2 : (T.setVm s.vm).sameButNew ({ U with vm := s.vm } : State) [] (0 + 1) (0 + 6) := ⟨e1, e2⟩
    have h3 := X.same.trans h2
    rw [List.append_nil] at h3
    exact h3.mono hc hs
  refine ⟨U, ?_, .threw T.heap.size, hrun, hend, Or.inr ⟨T.heap.size, rfl, cls, ce, locs, hx U hWs.alike f1 (fun q hq => f2 q hq (fun z hz => nomatch hz)), hce, hO.vm, hcl, hWs, hall, hf⟩⟩
  refine st1 _ ?_
  show Steps p.tables e below (T1.setTop { method := m, pc := pc + 3, locals := ls, stack := .ref T.heap.size :: rest, locked := none }) _
  jvm_step X₁.here [X₁.here.top, hexec, d3', Value.category]
  exact hsteps
/-- 'throw new E("text")': new; dup; ldc; invokespecial; athrow -/
theorem vx_throwS {cc : ByteArray} {pc : Nat} (hexec : p.tables.exec = Jvm.exec) (hb : c.code = cc) (hl : l.stackTraces = false) {own cls text : String} {names : List String} {ik is ic mc ms sa : Nat} {A : Nat → Prop}
    (hown : s.vm.findClass own = some m.cls) (hcls : Bundle.fit cls = true) (hnames : ∀ n ∈ names, Bundle.fit n = true)
    (hk : (Cond.classLink own ik cls).before args s = true) (hini : (Cond.initialized cls).before args s = true) (hstr : vk_R own is text sa s) (hat : ∀ w ∈ vx_atS own ic cls names, w.before args s = true)
    (hgood : ∀ w ∈ Cond.classLink own ik cls :: Cond.initialized cls :: vx_atS own ic cls names, vx_ot w = true)
    (hU : vx_Zq Bundle.tN "UNASSIGNED_STACK" Bundle.steD A s s.heap) (hN : vx_Zq Bundle.tN "SUPPRESSED_SENTINEL" Bundle.listD A s s.heap) (hS : va_S A s.heap H locs) (hsize : ls.size = c.maxLocals)
    (d0 : decode cc pc = .ok (.new ik, 3)) (d3 : decode cc (pc + 3) = .ok (.dup, 1)) (d4 : decode cc (pc + 4) = .ok (.ldc is, 2)) (d6 : decode cc (pc + 6) = .ok (.invokespecial ic, 3)) (d9 : decode cc (pc + 9) = .ok (.athrow, 1))
    (hout : ∀ x ∈ c.exceptionTable.toList, covers x (pc + 9) = false)
    (hRframes : names.length + 3 < R.frames) (hRlocals : (rest.map fun v => v.category).sum + (13 * (names.length + 1) + 43) ≤ R.locals) (hRcells : cells + 1 ≤ R.cells) (hRslots : slots + 6 ≤ R.slots) (hlocks : meth.locks = false)
    (hx : ∀ t : State, s.vm.Alike t.vm → H.size ≤ t.heap.size → (∀ q : Nat, q < H.size → t.heap[q]? = H[q]?) → XC cls s t)
    (hf : ∀ z ∈ locs, free z.base) (hc : cells + 1 ≤ mc) (hs : slots + 6 ≤ ms) :
    W p l e R s m args below meth c H locs cells slots (vx_MQ below Qc XC args s mc ms free) (F0 m pc ls rest) := by
  intro T hT X
  have htr : e.platform.stackTraces = false := (show e.platform.stackTraces = l.stackTraces by rw [X.admits.platform]).trans hl
  have Y := vx_rebase X (R' := { frames := R.frames, locals := R.locals, cells := 1, slots := 6 }) (Nat.le_refl _) (Nat.le_refl _) hRcells hRslots
  obtain ⟨s', hA⟩ : ∃ z, z = (T.setVm s.vm).setFrames (.invoking m args :: below) := ⟨_, rfl⟩
  rw [← hA] at Y
  have hvm : s'.vm = s.vm := by rw [hA]; rfl
  have hhp : s'.heap = H := by rw [hA]; exact hT
  have hW0 : s.WarmedH s'.vm := by rw [hvm]; exact State.WarmedH.refl s
  have hat' : ∀ w ∈ vx_atS own ic cls names, w.before args s' = true := fun w hw => vx_ot_at hW0 hvm.symm (hgood w (List.mem_cons_of_mem _ (List.mem_cons_of_mem _ hw))) (hat w hw)
  have hk' : (Cond.classLink own ik cls).before args s' = true := vx_ot_at hW0 hvm.symm (hgood _ List.mem_cons_self) hk
  have hini' : (Cond.initialized cls).before args s' = true := vx_ot_at hW0 hvm.symm (hgood _ (List.mem_cons_of_mem _ List.mem_cons_self)) hini
  have hU' : vx_Zq Bundle.tN "UNASSIGNED_STACK" Bundle.steD A s' s'.heap := by rw [hhp]; exact vx_Zq.moved hW0.alike (hU.kept hS.2.1)
  have hN' : vx_Zq Bundle.tN "SUPPRESSED_SENTINEL" Bundle.listD A s' s'.heap := by rw [hhp]; exact vx_Zq.moved hW0.alike (hN.kept hS.2.1)
  have h : ∀ w ∈ Bundle.ownAtoms own ic cls names, w.before args s' = true := vx_own hat' (vx_isRefq hU'.1) (vx_isRefq hN'.1) hU'.2.word hN'.2.word
  have hown' : s'.vm.findClass own = some m.cls := by rw [hvm]; exact hown
  have hins : (Cond.instantiable cls 6).before args s' = true := h _ (by simp [Bundle.ownAtoms])
  obtain ⟨vm₁, cX, kX, hfX, hkX, -, -, X₁, st1⟩ := Y.newCold hexec (own := own) (C := cls) (index := ik) (n := 6) hown' hk' hins hini'
    (g := F0 m pc ls rest) rfl (by rw [hb]; exact d0) (Nat.le_refl _) (Nat.le_refl _)
  generalize hT1 : (T.setVm vm₁).pushCell { cls := cX, slots := kX.instanceTypes.map defaultValue, vm := .none } = T1 at X₁ st1
  have hcat : (Value.ref T.heap.size).category = 1 := rfl
  have hcellA : T1.heap[T.heap.size]? = some (freshCell cX kX) := by rw [← hT1]; exact State.heap_pushCell_size _ _
  have d3' : decode c.code (pc + 3) = .ok (.dup, 1) := by rw [hb]; exact d3
  have d4' : decode c.code (pc + 4) = .ok (.ldc is, 2) := by rw [hb]; exact d4
  have hstr' : vk_R own is text sa s' := vk_R.warm hW0 hstr
  obtain ⟨U, hsteps, hrun, hend, hW, hsame, ce, hce, hO⟩ := X₁.ctorThrowS hexec htr (own := own) (cls := cls) (names := names) (ic := ic) hown' hcls hnames h (fun x hx => nomatch hx) hfX hkX hcellA (by rw [hhp, hT]; exact Nat.le_refl _) (msg := .ref sa) rfl
    (g := { method := m, pc := pc + 6, locals := ls, stack := .ref sa :: .ref T.heap.size :: .ref T.heap.size :: rest, locked := none }) rfl hsize rfl rfl (rest := rest) rfl
    (by rw [hb]; exact d6) (by rw [hb]; exact d9) hout hRframes (by simp only [List.map_cons, List.sum_cons, hcat]; omega) hlocks
  obtain ⟨f1, f2⟩ := vx_frame hsame
  rw [hhp] at f1 f2
  have hWs : s.WarmedH U.vm := State.WarmedH.trans hW0 hW
  have hcl : s.vm.findClass cls = some ce.cls := by
    have h9 := hO.cls
    rw [hvm] at h9
    exact h9
  have hall : s.sameButNew ({ U with vm := s.vm } : State) locs mc ms := by
    subst hA
    obtain ⟨e1, e2⟩ := hsame
    rw [State.setFrames_setFrames] at e1
    have h2 : (T.setVm s.vm).sameButNew ({ U with vm := s.vm } : State) [] (0 + 1) (0 + 6) := ⟨e1, e2⟩
    have h3 := X.same.trans h2
    rw [List.append_nil] at h3
    exact h3.mono hc hs
  refine ⟨U, ?_, .threw T.heap.size, hrun, hend, Or.inr ⟨T.heap.size, rfl, cls, ce, locs, hx U hWs.alike f1 (fun q hq => f2 q hq (fun z hz => nomatch hz)), hce, hO.vm, hcl, hWs, hall, hf⟩⟩
  refine st1 _ ?_
  show Steps p.tables e below (T1.setTop { method := m, pc := pc + 3, locals := ls, stack := .ref T.heap.size :: rest, locked := none }) _
  jvm_step X₁.here [X₁.here.top, hexec, d3', Value.category]
  exact X₁.ldcString hexec (own := own) (text := text) (index := is) (a := sa) hown' hstr'.1 hstr'.2
    (g := { method := m, pc := pc + 4, locals := ls, stack := .ref T.heap.size :: .ref T.heap.size :: rest, locked := none }) rfl d4' _ hsteps
/-- 'throw new E("text")', the text by a wide index -/
theorem vx_throwSW {cc : ByteArray} {pc : Nat} (hexec : p.tables.exec = Jvm.exec) (hb : c.code = cc) (hl : l.stackTraces = false) {own cls text : String} {names : List String} {ik is ic mc ms sa : Nat} {A : Nat → Prop}
    (hown : s.vm.findClass own = some m.cls) (hcls : Bundle.fit cls = true) (hnames : ∀ n ∈ names, Bundle.fit n = true)
    (hk : (Cond.classLink own ik cls).before args s = true) (hini : (Cond.initialized cls).before args s = true) (hstr : vk_R own is text sa s) (hat : ∀ w ∈ vx_atS own ic cls names, w.before args s = true)
    (hgood : ∀ w ∈ Cond.classLink own ik cls :: Cond.initialized cls :: vx_atS own ic cls names, vx_ot w = true)
    (hU : vx_Zq Bundle.tN "UNASSIGNED_STACK" Bundle.steD A s s.heap) (hN : vx_Zq Bundle.tN "SUPPRESSED_SENTINEL" Bundle.listD A s s.heap) (hS : va_S A s.heap H locs) (hsize : ls.size = c.maxLocals)
    (d0 : decode cc pc = .ok (.new ik, 3)) (d3 : decode cc (pc + 3) = .ok (.dup, 1)) (d4 : decode cc (pc + 4) = .ok (.ldc_w is, 3)) (d7 : decode cc (pc + 7) = .ok (.invokespecial ic, 3)) (d10 : decode cc (pc + 10) = .ok (.athrow, 1))
    (hout : ∀ x ∈ c.exceptionTable.toList, covers x (pc + 10) = false)
    (hRframes : names.length + 3 < R.frames) (hRlocals : (rest.map fun v => v.category).sum + (13 * (names.length + 1) + 43) ≤ R.locals) (hRcells : cells + 1 ≤ R.cells) (hRslots : slots + 6 ≤ R.slots) (hlocks : meth.locks = false)
    (hx : ∀ t : State, s.vm.Alike t.vm → H.size ≤ t.heap.size → (∀ q : Nat, q < H.size → t.heap[q]? = H[q]?) → XC cls s t)
    (hf : ∀ z ∈ locs, free z.base) (hc : cells + 1 ≤ mc) (hs : slots + 6 ≤ ms) :
    W p l e R s m args below meth c H locs cells slots (vx_MQ below Qc XC args s mc ms free) (F0 m pc ls rest) := by
  intro T hT X
  have htr : e.platform.stackTraces = false := (show e.platform.stackTraces = l.stackTraces by rw [X.admits.platform]).trans hl
  have Y := vx_rebase X (R' := { frames := R.frames, locals := R.locals, cells := 1, slots := 6 }) (Nat.le_refl _) (Nat.le_refl _) hRcells hRslots
  obtain ⟨s', hA⟩ : ∃ z, z = (T.setVm s.vm).setFrames (.invoking m args :: below) := ⟨_, rfl⟩
  rw [← hA] at Y
  have hvm : s'.vm = s.vm := by rw [hA]; rfl
  have hhp : s'.heap = H := by rw [hA]; exact hT
  have hW0 : s.WarmedH s'.vm := by rw [hvm]; exact State.WarmedH.refl s
  have hat' : ∀ w ∈ vx_atS own ic cls names, w.before args s' = true := fun w hw => vx_ot_at hW0 hvm.symm (hgood w (List.mem_cons_of_mem _ (List.mem_cons_of_mem _ hw))) (hat w hw)
  have hk' : (Cond.classLink own ik cls).before args s' = true := vx_ot_at hW0 hvm.symm (hgood _ List.mem_cons_self) hk
  have hini' : (Cond.initialized cls).before args s' = true := vx_ot_at hW0 hvm.symm (hgood _ (List.mem_cons_of_mem _ List.mem_cons_self)) hini
  have hU' : vx_Zq Bundle.tN "UNASSIGNED_STACK" Bundle.steD A s' s'.heap := by rw [hhp]; exact vx_Zq.moved hW0.alike (hU.kept hS.2.1)
  have hN' : vx_Zq Bundle.tN "SUPPRESSED_SENTINEL" Bundle.listD A s' s'.heap := by rw [hhp]; exact vx_Zq.moved hW0.alike (hN.kept hS.2.1)
  have h : ∀ w ∈ Bundle.ownAtoms own ic cls names, w.before args s' = true := vx_own hat' (vx_isRefq hU'.1) (vx_isRefq hN'.1) hU'.2.word hN'.2.word
  have hown' : s'.vm.findClass own = some m.cls := by rw [hvm]; exact hown
  have hins : (Cond.instantiable cls 6).before args s' = true := h _ (by simp [Bundle.ownAtoms])
  obtain ⟨vm₁, cX, kX, hfX, hkX, -, -, X₁, st1⟩ := Y.newCold hexec (own := own) (C := cls) (index := ik) (n := 6) hown' hk' hins hini'
    (g := F0 m pc ls rest) rfl (by rw [hb]; exact d0) (Nat.le_refl _) (Nat.le_refl _)
  generalize hT1 : (T.setVm vm₁).pushCell { cls := cX, slots := kX.instanceTypes.map defaultValue, vm := .none } = T1 at X₁ st1
  have hcat : (Value.ref T.heap.size).category = 1 := rfl
  have hcellA : T1.heap[T.heap.size]? = some (freshCell cX kX) := by rw [← hT1]; exact State.heap_pushCell_size _ _
  have d3' : decode c.code (pc + 3) = .ok (.dup, 1) := by rw [hb]; exact d3
  have d4' : decode c.code (pc + 4) = .ok (.ldc_w is, 3) := by rw [hb]; exact d4
  have hstr' : vk_R own is text sa s' := vk_R.warm hW0 hstr
  obtain ⟨U, hsteps, hrun, hend, hW, hsame, ce, hce, hO⟩ := X₁.ctorThrowS hexec htr (own := own) (cls := cls) (names := names) (ic := ic) hown' hcls hnames h (fun x hx => nomatch hx) hfX hkX hcellA (by rw [hhp, hT]; exact Nat.le_refl _) (msg := .ref sa) rfl
    (g := { method := m, pc := pc + 7, locals := ls, stack := .ref sa :: .ref T.heap.size :: .ref T.heap.size :: rest, locked := none }) rfl hsize rfl rfl (rest := rest) rfl
    (by rw [hb]; exact d7) (by rw [hb]; exact d10) hout hRframes (by simp only [List.map_cons, List.sum_cons, hcat]; omega) hlocks
  obtain ⟨f1, f2⟩ := vx_frame hsame
  rw [hhp] at f1 f2
  have hWs : s.WarmedH U.vm := State.WarmedH.trans hW0 hW
  have hcl : s.vm.findClass cls = some ce.cls := by
    have h9 := hO.cls
    rw [hvm] at h9
    exact h9
  have hall : s.sameButNew ({ U with vm := s.vm } : State) locs mc ms := by
    subst hA
    obtain ⟨e1, e2⟩ := hsame
    rw [State.setFrames_setFrames] at e1
    have h2 : (T.setVm s.vm).sameButNew ({ U with vm := s.vm } : State) [] (0 + 1) (0 + 6) := ⟨e1, e2⟩
    have h3 := X.same.trans h2
    rw [List.append_nil] at h3
    exact h3.mono hc hs
  refine ⟨U, ?_, .threw T.heap.size, hrun, hend, Or.inr ⟨T.heap.size, rfl, cls, ce, locs, hx U hWs.alike f1 (fun q hq => f2 q hq (fun z hz => nomatch hz)), hce, hO.vm, hcl, hWs, hall, hf⟩⟩
  refine st1 _ ?_
  show Steps p.tables e below (T1.setTop { method := m, pc := pc + 3, locals := ls, stack := .ref T.heap.size :: rest, locked := none }) _
  jvm_step X₁.here [X₁.here.top, hexec, d3', Value.category]
  exact X₁.ldcStringW hexec (own := own) (text := text) (index := is) (a := sa) hown' hstr'.1 hstr'.2
    (g := { method := m, pc := pc + 4, locals := ls, stack := .ref T.heap.size :: .ref T.heap.size :: rest, locked := none }) rfl d4' _ hsteps
end Ends
section Bodies
variable {l : Launch}
theorem vx_ofW {y : MethodName} {ws ws' : List Cond} {rm : Room} {Pc : Array Value → State → Prop} {Qc : Array Value → State → Outcome → State → Prop} {XC : String → State → State → Prop} {mc ms : Nat} {free : Addr → Prop} {cc : ByteArray} {maxL : Nat} {ret : Option FieldType}
    (hy : plainName y.cls = true) (hw : ws = Cond.code y cc maxL ret :: ws')
    (body : ∀ p e s m args below meth c s₁, BodyLoose p l y (headSpec ws rm) cc maxL ret e s m args below meth c s₁ → c.maxLocals = maxL → (∀ x ∈ c.exceptionTable.toList, False) → Pc args s →
      W p l e (headSpec ws rm).room s m args below meth c s.heap [] 0 0 (vx_MQ below Qc XC args s mc ms free) (entryFrame m args maxL)) : vx_Met l y ws rm Pc Qc XC mc ms free := by
  refine MetFree.of_bodyS (code := cc) (maxLocals := maxL) (ret := ret) hy ?_ ?_
  · intro args s m h hn
    obtain ⟨meth, c, h1, h2, h3, h4, h5, h6, -, -⟩ := Cond.code_spec hn (atoms_spec (ws := ws) h _ (by rw [hw]; exact List.mem_cons_self))
    exact ⟨meth, c, h1, h2, h3, h4, h5, h6⟩
  · intro p e s m args below meth c s₁ B hml hP _
    have hh0 : s₁.heap = s.heap := by rw [B.state]; rfl
    have ht : ∀ x ∈ c.exceptionTable.toList, False := by
      obtain ⟨meth9, c9, h1, h2, -, -, -, -, h7, -⟩ := Cond.code_spec B.named (atoms_spec (ws := ws) B.pre _ (by rw [hw]; exact List.mem_cons_self))
      cases Option.some.inj (h1.symm.trans B.method)
      cases Option.some.inj (h2.symm.trans (Stand.of_body B).code)
      intro x hx
      rw [Array.isEmpty_iff.mp h7] at hx
      cases hx
    obtain ⟨t, a1, o, b1, b2, b3⟩ := body p e s m args below meth c s₁ B hml ht hP s₁ hh0 (Stand.of_body B)
    exact ⟨t, o, a1, b1, b2, b3⟩
/-- the table of a body with handlers -/
theorem vx_table {p : Program} {x y : MethodName} {S : Spec} {cc bytes : ByteArray} {maxL maxL' : Nat} {ret ret' : Option FieldType} {e : Env} {s s₁ : State} {m : MethodId} {args : Array Value} {below : List Frame} {meth : Method} {c : Code} {hh : List (Nat × Nat × Nat × Nat)}
    (B : BodyLoose p l y S cc maxL ret e s m args below meth c s₁) (h : (Cond.codeWith y bytes maxL' ret' hh).before args s = true) : c.exceptionTable.toList = tableOf hh := by
  obtain ⟨m9, meth9, c9, hn9, h1, h2, -, -, h6, -⟩ := Cond.codeWith_spec h
  cases Option.some.inj (hn9.symm.trans B.named)
  cases Option.some.inj (h1.symm.trans B.method)
  cases Option.some.inj (h2.symm.trans (Stand.of_body B).code)
  rw [← h6, table_eq]
end Bodies
end VXA
/-! ===== END ===== -/
/-! ===== BEGIN a static call of a method with an exception table ===== -/
section VXS
variable {p : Program} {l : Launch} {e : Env} {R : Room} {s : State} {m : MethodId} {args : Array Value} {below : List Frame} {meth : Method} {c : Code} {T : State} {H : Heap} {locs : List Loc} {cells slots : Nat}
abbrev vx_CSW (R : Room) (s : State) (args : Array Value) (own : String) (index : Nat) (y : MethodName) (bytes : ByteArray) (maxL : Nat) (ret : Option FieldType) (hh : List (Nat × Nat × Nat × Nat)) (ws : List Cond) (rm : Room) (mc ms n : Nat) : Prop :=
  (rm.cells = mc ∧ rm.slots = ms ∧ rm.frames + 1 ≤ R.frames ∧ 8 + (maxL + 11) + rm.locals ≤ R.locals ∧ (∀ w ∈ ws, ∀ (a' : Array Value) (U : State), s.WarmedH U.vm → w.before a' U = true) ∧ Cond.codeWith y bytes maxL ret hh ∈ ws) ∧
  (Cond.codeWith y bytes maxL ret hh).before args s = true ∧ (Cond.initialized y.cls).before args s = true ∧ (y.cls ≠ "java/lang/invoke/MethodHandle" ∧ y.cls ≠ "java/lang/invoke/VarHandle") ∧
  (∀ sig, parseMethodDescriptor y.desc = some sig → n = sig.parameters.length) ∧ (Cond.methodLink own index y).before args s = true ∧ (Cond.static y).before args s = true
theorem vx_cwSW {own : String} {index maxL mc ms : Nat} {y : MethodName} {bytes : ByteArray} {ret : Option FieldType} {hh : List (Nat × Nat × Nat × Nat)} {Ts ws ws' : List Cond} {rm : Room} (n : Nat) (ht : ∀ w ∈ Ts, w.before args s = true) (hT : GoodIn Ts (va_wsS own index y ws)) (hw : ws = Cond.codeWith y bytes maxL ret hh :: ws') (hrc : rm.cells = mc) (hrs : rm.slots = ms)
    (hd : y.cls ≠ "java/lang/invoke/MethodHandle" ∧ y.cls ≠ "java/lang/invoke/VarHandle" ∧ (parseMethodDescriptor y.desc).map (fun d => d.parameters.length) = some n) (hR : rm.frames + 1 ≤ R.frames ∧ 8 + (maxL + 11) + rm.locals ≤ R.locals) :
    vx_CSW R s args own index y bytes maxL ret hh ws rm mc ms n := by
  have ok : ∀ w ∈ va_wsS own index y ws, w.before args s = true := fun w h => ht w (hT w h).1
  have hG : GoodIn Ts ws := fun w h => hT w (by unfold va_wsS; exact List.mem_append_right _ h)
  have hc : Cond.codeWith y bytes maxL ret hh ∈ ws := by rw [hw]; exact List.mem_cons_self
  refine ⟨⟨hrc, hrs, hR.1, hR.2, pay_in ht hG, hc⟩, ht _ (hG _ hc).1, ok _ (by simp [va_wsS]), ⟨hd.1, hd.2.1⟩, fun sig h => ?_, ok _ (by simp [va_wsS]), ok _ (by simp [va_wsS])⟩
  have h2 := hd.2.2
  rw [h] at h2
  exact (Option.some.inj h2).symm
theorem vx_callSW (X : Stand p l e R s m args below meth c T locs cells slots) (hexec : p.tables.exec = Jvm.exec) {own : String} {index : Nat} {y : MethodName} {bytes : ByteArray} {maxL : Nat} {ret : Option FieldType} {hh : List (Nat × Nat × Nat × Nat)}
    (hown : s.vm.findClass own = some m.cls) (hlink : (Cond.methodLink own index y).before args s = true) (hstat : (Cond.static y).before args s = true) (hinit : (Cond.initialized y.cls).before args s = true)
    (hcode : (Cond.codeWith y bytes maxL ret hh).before args s = true) (hy : y.cls ≠ "java/lang/invoke/MethodHandle" ∧ y.cls ≠ "java/lang/invoke/VarHandle")
    {W9 : Nat} {Pre : Pt → Array Value → Prop} {Post : Pt → Array Value → Option Value → Pt → Prop} (hK : Back l R p e below s args y 3 W9 Pre Post)
    {g : JFrame} (hg : g.method = m) (hsize : g.locals.size = c.maxLocals) {argsL rest : List Value} (hlen : ∀ sig, parseMethodDescriptor y.desc = some sig → argsL.length = sig.parameters.length)
    (hstack : g.stack = argsL.reverse ++ rest) (hW : 2 * g.monitorRoom + (rest.map fun v => v.category).sum ≤ W9) (hdg : decode c.code g.pc = .ok (.invokestatic index, 3))
    (hpre : ∀ vm₁, s.WarmedH vm₁ → Pre ⟨T.setVm vm₁, locs, cells, slots⟩ argsL.toArray) :
    ∃ (v : Option Value) (vm₁ : Vm) (B : Pt), s.WarmedH vm₁ ∧ Stand p l e R s m args below meth c B.U B.locs B.cells B.slots ∧ Post ⟨T.setVm vm₁, locs, cells, slots⟩ argsL.toArray v B ∧
      ∀ target, Steps p.tables e below (B.U.setTop { g with pc := g.pc + 3, stack := v.toList ++ rest }) target → Steps p.tables e below (T.setTop g) target := by
  obtain ⟨mk, methM, cM, hnamed, hmethM, -, -, -, -, -, -, hsigM⟩ := Cond.codeWith_spec hcode
  have hstatic : methM.isStatic = true := Cond.static_spec hnamed hmethM hstat
  obtain ⟨kP, hkP, -⟩ := className_of_methodNamed hnamed
  have hinitP : kP.init = .initialized := Cond.initialized_spec (findClass_of_methodNamed hnamed) hkP hinit
  obtain ⟨vm₁, X₁, hstep₁⟩ := X.invokestatic hexec hown hlink hnamed hmethM hstatic hkP hinitP hy (g := g) hg (argsL := argsL) (rest := rest) (hlen _ hsigM) hstack hdg
  obtain ⟨v, B, X', hpost, hsteps⟩ := hK m meth c ⟨T.setVm vm₁, locs, cells, slots⟩ { g with stack := rest } (.invokestatic index) mk argsL.toArray X₁ hg hsize hdg hW (X₁.named hnamed) (hpre vm₁ X₁.warmed)
  exact ⟨v, vm₁, B, X₁.warmed, X', hpost, fun target h => hstep₁ _ fun acts => by rw [doInvoke_state]; exact hsteps.trans h⟩
theorem vx_runSW {y : MethodName} {bytes cc : ByteArray} {maxL nL mc ms n index : Nat} {ret : Option FieldType} {hh : List (Nat × Nat × Nat × Nat)} {ws : List Cond} {rm : Room} {Pc : Array Value → State → Prop} {Qc : Array Value → State → Outcome → State → Prop} {free : Addr → Prop} {Ts : List Cond} {own : String} {As rest : List Value} {g : JFrame}
    (S : CallFix p m c cc nL s args Ts own) (hM : Met l y ws rm Pc Qc mc ms free) (cw : vx_CSW R s args own index y bytes maxL ret hh ws rm mc ms n) (hp : PreS s H Pc As)
    (hg : g.method = m) (hn : As.length = n) (hsize : g.locals.size = nL) (hstack : g.stack = As.reverse ++ rest) (hW : 2 * g.monitorRoom + (rest.map fun v => v.category).sum ≤ 8) (hdg : decode cc g.pc = .ok (.invokestatic index, 3)) (hf : cells + mc ≤ R.cells ∧ slots + ms ≤ R.slots) :
    va_Run p l e R s m args below meth c H locs cells slots mc ms g rest (Qc As.toArray) (free) := by
  obtain ⟨⟨hrc, hrs, hfr, hlo, hws, hcw⟩, hcode, hini, hy, hlen, hl, hstt⟩ := cw
  have hK : Back l R p e below s args y 3 8 (PreOf R mc ms Pc) (PostOf Qc mc ms free) := va_backW (hh := hh) (bytes := bytes) (maxL := maxL) (ret := ret) hM hp.1 hrc hrs hfr hlo hws hcw (fun a' U hW => word_at hW (Or.inl (by first | rfl | simp [Cond.onTables, Cond.keeps, Cond.steady])) hini)
  obtain ⟨hx, hb, hml, ho, -⟩ := S
  intro T hT X
  obtain ⟨v, vm₁, ⟨U', l2, c2, s2⟩, hW₁, X', ⟨g', mk, t, L, e1, e2, hq, h1, hL, h2, h3⟩, st⟩ := vx_callSW X hx (hh := hh) (bytes := bytes) (maxL := maxL) (ret := ret) ho hl hstt hini hcode hy hK hg (hsize.trans hml.symm) (argsL := As) (rest := rest) (fun sig h => hn.trans (hlen sig h)) hstack hW (by rw [hb]; exact hdg)
    (fun vm₁ hW₁ => ⟨hf.1, hf.2, hp.2 (T.setVm vm₁) hT hW₁⟩)
  dsimp only [Pt.U, Pt.locs, Pt.cells, Pt.slots] at X' e1 e2 h1 h2 h3 st
  subst h1; subst h2; subst h3
  exact ⟨v, (T.setVm vm₁).calling g' mk As.toArray, t, U', L, hT, X', hL, e1, e2, hq, st⟩
/-- not caught here, past rows that name other classes: it goes on to the caller -/
theorem vx_outP {p : Program} {l : Launch} {e : Env} {R : Room} {s : State} {m : MethodId} {args : Array Value} {below : List Frame} {meth : Method} {c : Code} {H : Heap} {locs : List Loc} {cells slots : Nat} {free : Addr → Prop} {ls : Array Slot} {rest : List Value} {Qc : Array Value → State → Outcome → State → Prop} {XC : String → State → State → Prop}
    {pc : Nat} {own E : String} {ce : Cell} {q : Addr} {mc ms : Nat} (hown : s.vm.findClass own = some m.cls) (hlocks : meth.locks = false)
    (hpass : ∀ z ∈ c.exceptionTable.toList, covers z pc = false ∨ (z.catchType ≠ 0 ∧ ∃ nm : String, (Cond.classLink own z.catchType nm).before args s = true ∧ va_Nc E nm s)) (hcell : H[q]? = some ce) (hv : ce.vm = .none) (hcl : s.vm.findClass E = some ce.cls)
    (hx : ∀ t : State, t.heap = H → s.vm.Alike t.vm → XC E s t) (hf : ∀ z ∈ locs, free z.base) (hc : cells ≤ mc) (hs : slots ≤ ms) :
    vx_W p l e R s m args below meth c H locs cells slots (vx_MQ below Qc XC args s mc ms free) (F0 m pc ls rest) q := by
  intro T hT X
  have hpl : e.platform.magicAccessors = ({} : Platform).magicAccessors := by rw [X.admits.platform]
  obtain ⟨vm', hW', X', st⟩ := X.outThrough hlocks q (g := F0 m pc ls rest) rfl rfl rfl (cell := ce) (by rw [hT]; exact hcell) (by rw [hv]; rfl)
    (by obtain ⟨k9, h9, -⟩ := Vm.findClass_spec hcl; exact ⟨k9, h9⟩) (fun z hz => by
      rcases hpass z hz with h | ⟨hz0, nm, hl1, hn1⟩
      · exact Or.inl h
      · obtain ⟨c6, hc6, hcl6⟩ := Cond.classLink_spec hown hl1 e.platform hpl
        obtain ⟨a8, b8, h1, h2, h3⟩ := hn1
        cases Option.some.inj (h1.symm.trans hcl)
        cases Option.some.inj (h2.symm.trans hc6)
        exact Or.inr ⟨hz0, _, hcl6, h3⟩)
  obtain ⟨g₀, hfr⟩ := X'.frames_eq
  have hcell9 : ((T.setVm vm').setFrames (.throwing q :: below)).heap[q]? = some ce := by
    show T.heap[q]? = some ce
    rw [hT]; exact hcell
  have hend : Ended ((T.setVm vm').setFrames (.throwing q :: below)) below (.threw q) := State.frames_setFrames _ (State.cur_lt_of_frames hfr)
  refine ⟨(T.setVm vm').setFrames (.throwing q :: below), ?_, .threw q, X'.here.running, hend, Or.inr ⟨q, rfl, E, ce, locs, hx _ hT (X'.ends _).1.alike, hcell9, hv, hcl, (X'.ends _).1, (X'.ends _).2.mono hc hs, hf⟩⟩
  rw [X.pushThrowing_eq]
  exact st
/-- a thing of a world lies in the heap -/
theorem vx_lt {D : va_G} {cl : List vw_C} {ws : va_W} {H1 : Heap} (h : va_P D cl ws H1) {k : Nat} {q : Nat × va_E} (hk : ws[k]? = some q) : q.1 < H1.size := (h k q hk).lt
end VXS
/-! ===== END ===== -/
/-! ===== BEGIN methods with a table of their own: called by a name, returning or throwing ===== -/
section VXH
/-! vx_backW, vx_callVX, vx_callSX, vx_callVW, vx_runVW, vx_runVX, vx_runSX, vx_ofWH follow the same proofs as their sisters above (Free/Laws.lean, Shelf42/LK1.lean); vx_outP calls Shelf42/NT130.lean (outThrough). -/
section
variable {l : Launch} {R : Room} {p : Program} {e : Env} {below : List Frame} {s : State} {sargs : Array Value} {y : MethodName} {len W9 : Nat}
theorem vx_backW {ws : List Cond} {rm : Room} {Pc : Array Value → State → Prop} {Qc : Array Value → State → Outcome → State → Prop} {XC : String → State → State → Prop} {mc ms : Nat} {free : Addr → Prop} {bytes : ByteArray} {maxL : Nat} {ret : Option FieldType} {hh : List (Nat × Nat × Nat × Nat)}
    (hM : vx_Met l y ws rm Pc Qc XC mc ms free) (hblind : FrameBlind Pc) (hrc : rm.cells = mc) (hrs : rm.slots = ms)
    (hframes : rm.frames + 1 ≤ R.frames) (hlocals : W9 + (maxL + 11) + rm.locals ≤ R.locals)
    (hws : ∀ w ∈ ws, ∀ a' U, s.WarmedH U.vm → w.before a' U = true) (hcode : Cond.codeWith y bytes maxL ret hh ∈ ws) (hinit : ∀ a' U, s.WarmedH U.vm → (Cond.initialized y.cls).before a' U = true) :
    vx_Back l R p e below s sargs y len W9 (PreOf R mc ms Pc) (PostOf Qc mc ms free) (vx_Post XC mc ms free) := by
  intro m meth c A g ig mk a X hg hsize hdg hW hn hp
  have h1 : (headSpec ws rm).pre.before a A.U = true := atoms_intro fun w hw => hws w hw _ _ X.warmed
  have h2 : (Cond.codeWith y bytes maxL ret hh).before a A.U = true := hws _ hcode _ _ X.warmed
  have h3 : (Cond.initialized y.cls).before a A.U = true := hinit _ _ X.warmed
  have h4 : A.cells + (headSpec ws rm).room.cells ≤ R.cells := by rw [show (headSpec ws rm).room.cells = mc from hrc]; exact hp.1
  have h5 : A.slots + (headSpec ws rm).room.slots ≤ R.slots := by rw [show (headSpec ws rm).room.slots = ms from hrs]; exact hp.2.1
  have hPc : Pc a (A.U.calling g mk a) := hblind _ _ _ _ hp.2.2
  obtain ⟨U, Ls, c0, s0⟩ := A
  dsimp only [Pt.U, Pt.locs, Pt.cells, Pt.slots] at h1 h2 h3 h4 h5 X hn hPc ⊢
  obtain ⟨m9, methY, cY, hn9, hmY, hcY, -, hlY, -⟩ := Cond.codeWith_spec h2
  cases Option.some.inj (hn9.symm.trans hn)
  obtain ⟨kY, hkY, -⟩ := className_of_methodNamed hn
  have hinitY : kY.init = .initialized := Cond.initialized_spec (findClass_of_methodNamed hn) hkY h3
  have h : At U g.method c below := by rw [hg]; exact X.here
  have hlocals9 : W9 + (maxL + 11) + (headSpec ws rm).room.locals ≤ R.locals := hlocals
  have happ : (headSpec ws rm).appliesLoose y e.platform (U.calling g mk a) = true :=
    Spec.appliesLoose_calling (g := g) h hdg hn hkY hinitY
      (X.room_calling (g := g) (R' := (headSpec ws rm).room) hsize hmY hcY hframes (by rw [hlY]; omega) h4 h5) h1
  obtain ⟨mid, hmid⟩ := h.above
  have hfr : (U.setTop g).frames = (.java g :: mid) ++ below := by rw [State.frames_setTop' g h.top, hmid]; rfl
  obtain ⟨o, s₂, hsteps, -, hend, hq⟩ := Steps.callFree hM p X.admits X.cas X.clock (acts := []) hfr happ hPc trivial
  have hq' : vx_Q Qc XC mc ms free a (U.calling g mk a) o s₂ := hq
  rw [State.frames_setTop' g h.top] at hend
  obtain ⟨g₀, hg0⟩ := Option.isSome_iff_exists.mp h.top
  obtain ⟨r, hr⟩ := State.topJava?_eq_some.mp hg0
  have hr' : (({ U with heap := s₂.heap, slotsUsed := s₂.slotsUsed } : State).setVm s₂.vm).frames = .java g₀ :: r := hr
  rcases hq' with ⟨hqc, L, hfe, hL⟩ | ⟨q, rfl, E, ce, L, hx, hce, hcv, hcl, hW₂, hsm, hL⟩
  · obtain ⟨⟨v, rfl⟩, hW₂, e2, q2, q3, q4, q5, q6⟩ := id hfe
    have e3 : s₂ = ({ (U.calling g mk a).setFrames s₂.frames with heap := s₂.heap, slotsUsed := s₂.slotsUsed } : State).setVm s₂.vm := by
      have : s₂ = ({ s₂ with vm := (U.calling g mk a).vm } : State).setVm s₂.vm := rfl
      rw [e2] at this
      exact this
    obtain ⟨c₂, i₂, len₂, hc₂, hd₂, hf₂⟩ := hend
    have hW' : U.WarmedH s₂.vm := hW₂
    have hcc : c₂ = c := by
      have h1 : s₂.code? g.method = U.code? g.method := by
        rw [State.code?_eq, State.code?_eq, hW'.alike.method?]
      exact Option.some.inj (hc₂.symm.trans (h1.trans h.code))
    subst hcc
    have hlen : len₂ = len := by rw [hdg] at hd₂; cases hd₂; rfl
    subst hlen
    have hs₂ : s₂ = (({ U with heap := s₂.heap, slotsUsed := s₂.slotsUsed } : State).setVm s₂.vm).setTop { g with pc := g.pc + len₂, stack := v.toList ++ g.stack } := by
      refine e3.trans ?_
      rw [hf₂, State.calling_eq h.top, State.setFrames_setFrames, State.setTop_of_frames _ hr', hr]
      rfl
    have hsame : U.sameButNew ({ U with heap := s₂.heap, slotsUsed := s₂.slotsUsed } : State) L mc ms := by
      refine ⟨?_, q2, q3, q4, q5, q6⟩
      obtain ⟨t, ht, -⟩ := State.frames_cons hr
      show ({ U with heap := s₂.heap, slotsUsed := s₂.slotsUsed } : State) = { U.setFrames U.frames with heap := s₂.heap, slotsUsed := s₂.slotsUsed }
      rw [State.setFrames_self ht]
    subst hg
    refine Or.inl ⟨v, ⟨(({ U with heap := s₂.heap, slotsUsed := s₂.slotsUsed } : State).setVm s₂.vm), Ls ++ L, c0 + mc, s0 + ms⟩,
      ⟨X.admits, X.cas, X.clock, X.frames, X.room, X.hears, X.method, X.code, (X.here.setHeapUsed s₂.heap s₂.slotsUsed).setVm hW'.alike, X.tail, State.WarmedH.trans X.warmed hW', X.limits, X.bytes, X.same.trans (hsame.setVm s.vm)⟩,
      ⟨g, mk, s₂, L, rfl, rfl, hqc, rfl, hL, rfl, rfl⟩, ?_⟩
    show Steps p.tables e below _ ((({ U with heap := s₂.heap, slotsUsed := s₂.slotsUsed } : State).setVm s₂.vm).setTop { g with pc := g.pc + len₂, stack := v.toList ++ g.stack })
    rw [← hs₂]
    exact hsteps
  · obtain ⟨e2, q2, q3, q4, q5, q6⟩ := id hsm
    have e3 : s₂ = ({ (U.calling g mk a).setFrames s₂.frames with heap := s₂.heap, slotsUsed := s₂.slotsUsed } : State).setVm s₂.vm := by
      have : s₂ = ({ s₂ with vm := (U.calling g mk a).vm } : State).setVm s₂.vm := rfl
      rw [e2] at this
      exact this
    have hf₂ : s₂.frames = .throwing q :: .java g :: U.frames.tail := hend
    have hW' : U.WarmedH s₂.vm := hW₂
    have hs₂ : s₂ = ((({ U with heap := s₂.heap, slotsUsed := s₂.slotsUsed } : State).setVm s₂.vm).setTop g).pushFrame (.throwing q) := by
      refine e3.trans ?_
      rw [hf₂, State.calling_eq h.top, State.setFrames_setFrames, State.pushFrame, State.frames_setTop _ hr', State.setTop_of_frames _ hr', State.setFrames_setFrames, hr]
      rfl
    have hsame : U.sameButNew ({ U with heap := s₂.heap, slotsUsed := s₂.slotsUsed } : State) L mc ms := by
      refine ⟨?_, q2, q3, q4, q5, q6⟩
      obtain ⟨t, ht, -⟩ := State.frames_cons hr
      show ({ U with heap := s₂.heap, slotsUsed := s₂.slotsUsed } : State) = { U.setFrames U.frames with heap := s₂.heap, slotsUsed := s₂.slotsUsed }
      rw [State.setFrames_self ht]
    subst hg
    refine Or.inr ⟨q, ⟨(({ U with heap := s₂.heap, slotsUsed := s₂.slotsUsed } : State).setVm s₂.vm), Ls ++ L, c0 + mc, s0 + ms⟩,
      ⟨X.admits, X.cas, X.clock, X.frames, X.room, X.hears, X.method, X.code, (X.here.setHeapUsed s₂.heap s₂.slotsUsed).setVm hW'.alike, X.tail, State.WarmedH.trans X.warmed hW', X.limits, X.bytes, X.same.trans (hsame.setVm s.vm)⟩,
      ⟨g, mk, s₂, L, E, ce, rfl, rfl, hx, hce, hcv, hcl, rfl, hL, rfl, rfl⟩, ?_⟩
    show Steps p.tables e below _ (((({ U with heap := s₂.heap, slotsUsed := s₂.slotsUsed } : State).setVm s₂.vm).setTop g).pushFrame (.throwing q))
    rw [← hs₂]
    exact hsteps
end
variable {p : Program} {l : Launch} {e : Env} {R : Room} {s : State} {m : MethodId} {args : Array Value} {below : List Frame} {meth : Method} {c : Code} {T : State} {H : Heap} {locs : List Loc} {cells slots : Nat}
theorem vx_callVX (X : Stand p l e R s m args below meth c T locs cells slots) (hexec : p.tables.exec = Jvm.exec) {own C : String} {index : Nat} {y : MethodName} {bytes : ByteArray} {maxL : Nat} {ret : Option FieldType} {hh : List (Nat × Nat × Nat × Nat)}
    (hown : s.vm.findClass own = some m.cls) (hlink : (Cond.methodLink own index y).before args s = true) (hinst : (Cond.instanceMethod y).before args s = true) (hsel : (Cond.selects C y y).before args s = true)
    (hcode : (Cond.codeWith y bytes maxL ret hh).before args s = true) (hy : y.cls ≠ "java/lang/invoke/MethodHandle" ∧ y.cls ≠ "java/lang/invoke/VarHandle")
    {W9 : Nat} {Pre : Pt → Array Value → Prop} {Post : Pt → Array Value → Option Value → Pt → Prop} {PostX : Pt → Array Value → Addr → Pt → Prop} (hK : vx_Back l R p e below s args y 3 W9 Pre Post PostX)
    {b : Addr} {cellB : Cell} (hcell : T.heap[b]? = some cellB) (hobj : cellB.vm.isStatics = false) (hcls : s.vm.findClass C = some cellB.cls)
    {g : JFrame} (hg : g.method = m) (hsize : g.locals.size = c.maxLocals) {argsL rest : List Value} (hlen : ∀ sig, parseMethodDescriptor y.desc = some sig → argsL.length = sig.parameters.length)
    (hstack : g.stack = argsL.reverse ++ .ref b :: rest) (hW : 2 * g.monitorRoom + (rest.map fun v => v.category).sum ≤ W9) (hdg : decode c.code g.pc = .ok (.invokevirtual index, 3))
    (hpre : ∀ vm₁, s.WarmedH vm₁ → Pre ⟨T.setVm vm₁, locs, cells, slots⟩ (Value.ref b :: argsL).toArray) :
    (∃ (v : Option Value) (vm₁ : Vm) (B : Pt), s.WarmedH vm₁ ∧ Stand p l e R s m args below meth c B.U B.locs B.cells B.slots ∧ Post ⟨T.setVm vm₁, locs, cells, slots⟩ (Value.ref b :: argsL).toArray v B ∧
      ∀ target, Steps p.tables e below (B.U.setTop { g with pc := g.pc + 3, stack := v.toList ++ rest }) target → Steps p.tables e below (T.setTop g) target) ∨
    (∃ (q : Addr) (vm₁ : Vm) (B : Pt), s.WarmedH vm₁ ∧ Stand p l e R s m args below meth c B.U B.locs B.cells B.slots ∧ PostX ⟨T.setVm vm₁, locs, cells, slots⟩ (Value.ref b :: argsL).toArray q B ∧
      Steps p.tables e below (T.setTop g) ((B.U.setTop { g with stack := rest }).pushFrame (.throwing q))) := by
  obtain ⟨mk, methM, hnamed, hmethM, hstM, habM⟩ := Cond.instanceMethod_spec hinst
  obtain ⟨m8, methM', cM, hn8, hmethM', -, -, -, -, -, -, hsigM⟩ := Cond.codeWith_spec hcode
  cases Option.some.inj (hn8.symm.trans hnamed)
  cases hmethM.symm.trans hmethM'
  obtain ⟨c2, r2, m2, q1, q2, q3, q4, kP, hkP, hkPi⟩ := Cond.selects_spec hsel
  cases hcls.symm.trans q1
  cases (State.methodFound?_of_named hnamed hy).symm.trans q2
  cases hnamed.symm.trans q3
  have hselP : selectMethod e.platform s.vm cellB.cls mk = .method mk := by rw [Launch.admits_selectMethod X.admits]; exact q4
  obtain ⟨vm₁, X₁, hstep₁⟩ := X.invokevirtual hexec hown hlink hnamed hmethM hstM hkP hkPi hy (a := b) (cell := cellB) hcell
    (fun z h => by rw [h] at hobj; cases hobj) hselP hmethM habM hkP hkPi (g := g) hg (argsL := argsL) (rest := rest) (hlen _ hsigM) hstack hdg
  rcases hK m meth c ⟨T.setVm vm₁, locs, cells, slots⟩ { g with stack := rest } (.invokevirtual index) mk (Value.ref b :: argsL).toArray X₁ hg hsize hdg hW (X₁.named hnamed) (hpre vm₁ X₁.warmed) with ⟨v, B, X', hpost, hsteps⟩ | ⟨q, B, X', hpost, hsteps⟩
  · exact Or.inl ⟨v, vm₁, B, X₁.warmed, X', hpost, fun target h => hstep₁ _ fun acts => by rw [doInvoke_state]; exact hsteps.trans h⟩
  · exact Or.inr ⟨q, vm₁, B, X₁.warmed, X', hpost, hstep₁ _ fun acts => by rw [doInvoke_state]; exact hsteps⟩
theorem vx_callSX (X : Stand p l e R s m args below meth c T locs cells slots) (hexec : p.tables.exec = Jvm.exec) {own : String} {index : Nat} {y : MethodName} {bytes : ByteArray} {maxL : Nat} {ret : Option FieldType} {hh : List (Nat × Nat × Nat × Nat)}
    (hown : s.vm.findClass own = some m.cls) (hlink : (Cond.methodLink own index y).before args s = true) (hstat : (Cond.static y).before args s = true) (hinit : (Cond.initialized y.cls).before args s = true)
    (hcode : (Cond.codeWith y bytes maxL ret hh).before args s = true) (hy : y.cls ≠ "java/lang/invoke/MethodHandle" ∧ y.cls ≠ "java/lang/invoke/VarHandle")
    {W9 : Nat} {Pre : Pt → Array Value → Prop} {Post : Pt → Array Value → Option Value → Pt → Prop} {PostX : Pt → Array Value → Addr → Pt → Prop} (hK : vx_Back l R p e below s args y 3 W9 Pre Post PostX)
    {g : JFrame} (hg : g.method = m) (hsize : g.locals.size = c.maxLocals) {argsL rest : List Value} (hlen : ∀ sig, parseMethodDescriptor y.desc = some sig → argsL.length = sig.parameters.length)
    (hstack : g.stack = argsL.reverse ++ rest) (hW : 2 * g.monitorRoom + (rest.map fun v => v.category).sum ≤ W9) (hdg : decode c.code g.pc = .ok (.invokestatic index, 3))
    (hpre : ∀ vm₁, s.WarmedH vm₁ → Pre ⟨T.setVm vm₁, locs, cells, slots⟩ argsL.toArray) :
    (∃ (v : Option Value) (vm₁ : Vm) (B : Pt), s.WarmedH vm₁ ∧ Stand p l e R s m args below meth c B.U B.locs B.cells B.slots ∧ Post ⟨T.setVm vm₁, locs, cells, slots⟩ argsL.toArray v B ∧
      ∀ target, Steps p.tables e below (B.U.setTop { g with pc := g.pc + 3, stack := v.toList ++ rest }) target → Steps p.tables e below (T.setTop g) target) ∨
    (∃ (q : Addr) (vm₁ : Vm) (B : Pt), s.WarmedH vm₁ ∧ Stand p l e R s m args below meth c B.U B.locs B.cells B.slots ∧ PostX ⟨T.setVm vm₁, locs, cells, slots⟩ argsL.toArray q B ∧
      Steps p.tables e below (T.setTop g) ((B.U.setTop { g with stack := rest }).pushFrame (.throwing q))) := by
  obtain ⟨mk, methM, cM, hnamed, hmethM, -, -, -, -, -, -, hsigM⟩ := Cond.codeWith_spec hcode
  have hstatic : methM.isStatic = true := Cond.static_spec hnamed hmethM hstat
  obtain ⟨kP, hkP, -⟩ := className_of_methodNamed hnamed
  have hinitP : kP.init = .initialized := Cond.initialized_spec (findClass_of_methodNamed hnamed) hkP hinit
  obtain ⟨vm₁, X₁, hstep₁⟩ := X.invokestatic hexec hown hlink hnamed hmethM hstatic hkP hinitP hy (g := g) hg (argsL := argsL) (rest := rest) (hlen _ hsigM) hstack hdg
  rcases hK m meth c ⟨T.setVm vm₁, locs, cells, slots⟩ { g with stack := rest } (.invokestatic index) mk argsL.toArray X₁ hg hsize hdg hW (X₁.named hnamed) (hpre vm₁ X₁.warmed) with ⟨v, B, X', hpost, hsteps⟩ | ⟨q, B, X', hpost, hsteps⟩
  · exact Or.inl ⟨v, vm₁, B, X₁.warmed, X', hpost, fun target h => hstep₁ _ fun acts => by rw [doInvoke_state]; exact hsteps.trans h⟩
  · exact Or.inr ⟨q, vm₁, B, X₁.warmed, X', hpost, hstep₁ _ fun acts => by rw [doInvoke_state]; exact hsteps⟩
theorem vx_callVW (X : Stand p l e R s m args below meth c T locs cells slots) (hexec : p.tables.exec = Jvm.exec) {own C : String} {index : Nat} {y : MethodName} {bytes : ByteArray} {maxL : Nat} {ret : Option FieldType} {hh : List (Nat × Nat × Nat × Nat)}
    (hown : s.vm.findClass own = some m.cls) (hlink : (Cond.methodLink own index y).before args s = true) (hinst : (Cond.instanceMethod y).before args s = true) (hsel : (Cond.selects C y y).before args s = true)
    (hcode : (Cond.codeWith y bytes maxL ret hh).before args s = true) (hy : y.cls ≠ "java/lang/invoke/MethodHandle" ∧ y.cls ≠ "java/lang/invoke/VarHandle")
    {W9 : Nat} {Pre : Pt → Array Value → Prop} {Post : Pt → Array Value → Option Value → Pt → Prop} (hK : Back l R p e below s args y 3 W9 Pre Post)
    {b : Addr} {cellB : Cell} (hcell : T.heap[b]? = some cellB) (hobj : cellB.vm.isStatics = false) (hcls : s.vm.findClass C = some cellB.cls)
    {g : JFrame} (hg : g.method = m) (hsize : g.locals.size = c.maxLocals) {argsL rest : List Value} (hlen : ∀ sig, parseMethodDescriptor y.desc = some sig → argsL.length = sig.parameters.length)
    (hstack : g.stack = argsL.reverse ++ .ref b :: rest) (hW : 2 * g.monitorRoom + (rest.map fun v => v.category).sum ≤ W9) (hdg : decode c.code g.pc = .ok (.invokevirtual index, 3))
    (hpre : ∀ vm₁, s.WarmedH vm₁ → Pre ⟨T.setVm vm₁, locs, cells, slots⟩ (Value.ref b :: argsL).toArray) :
    ∃ (v : Option Value) (vm₁ : Vm) (B : Pt), s.WarmedH vm₁ ∧ Stand p l e R s m args below meth c B.U B.locs B.cells B.slots ∧ Post ⟨T.setVm vm₁, locs, cells, slots⟩ (Value.ref b :: argsL).toArray v B ∧
      ∀ target, Steps p.tables e below (B.U.setTop { g with pc := g.pc + 3, stack := v.toList ++ rest }) target → Steps p.tables e below (T.setTop g) target := by
  obtain ⟨mk, methM, hnamed, hmethM, hstM, habM⟩ := Cond.instanceMethod_spec hinst
  obtain ⟨m8, methM', cM, hn8, hmethM', -, -, -, -, -, -, hsigM⟩ := Cond.codeWith_spec hcode
  cases Option.some.inj (hn8.symm.trans hnamed)
  cases hmethM.symm.trans hmethM'
  obtain ⟨c2, r2, m2, q1, q2, q3, q4, kP, hkP, hkPi⟩ := Cond.selects_spec hsel
  cases hcls.symm.trans q1
  cases (State.methodFound?_of_named hnamed hy).symm.trans q2
  cases hnamed.symm.trans q3
  have hselP : selectMethod e.platform s.vm cellB.cls mk = .method mk := by rw [Launch.admits_selectMethod X.admits]; exact q4
  obtain ⟨vm₁, X₁, hstep₁⟩ := X.invokevirtual hexec hown hlink hnamed hmethM hstM hkP hkPi hy (a := b) (cell := cellB) hcell
    (fun z h => by rw [h] at hobj; cases hobj) hselP hmethM habM hkP hkPi (g := g) hg (argsL := argsL) (rest := rest) (hlen _ hsigM) hstack hdg
  obtain ⟨v, B, X', hpost, hsteps⟩ := hK m meth c ⟨T.setVm vm₁, locs, cells, slots⟩ { g with stack := rest } (.invokevirtual index) mk (Value.ref b :: argsL).toArray X₁ hg hsize hdg hW (X₁.named hnamed) (hpre vm₁ X₁.warmed)
  exact ⟨v, vm₁, B, X₁.warmed, X', hpost, fun target h => hstep₁ _ fun acts => by rw [doInvoke_state]; exact hsteps.trans h⟩
abbrev vx_CVW (R : Room) (s : State) (args : Array Value) (own C : String) (index : Nat) (y : MethodName) (bytes : ByteArray) (maxL : Nat) (ret : Option FieldType) (hh : List (Nat × Nat × Nat × Nat)) (ws : List Cond) (rm : Room) (mc ms n : Nat) : Prop :=
  (rm.cells = mc ∧ rm.slots = ms ∧ rm.frames + 1 ≤ R.frames ∧ 8 + (maxL + 11) + rm.locals ≤ R.locals ∧ (∀ w ∈ ws, ∀ (a' : Array Value) (U : State), s.WarmedH U.vm → w.before a' U = true) ∧ Cond.codeWith y bytes maxL ret hh ∈ ws) ∧
  (Cond.codeWith y bytes maxL ret hh).before args s = true ∧ (Cond.initialized y.cls).before args s = true ∧ (y.cls ≠ "java/lang/invoke/MethodHandle" ∧ y.cls ≠ "java/lang/invoke/VarHandle") ∧
  (∀ sig, parseMethodDescriptor y.desc = some sig → n = sig.parameters.length) ∧ (Cond.methodLink own index y).before args s = true ∧ (Cond.instanceMethod y).before args s = true ∧ (Cond.selects C y y).before args s = true
theorem vx_cwVW {own C : String} {index maxL mc ms : Nat} {y : MethodName} {bytes : ByteArray} {ret : Option FieldType} {hh : List (Nat × Nat × Nat × Nat)} {Ts ws ws' : List Cond} {rm : Room} (n : Nat) (ht : ∀ w ∈ Ts, w.before args s = true) (hT : GoodIn Ts (wsV own index C y ws)) (hw : ws = Cond.codeWith y bytes maxL ret hh :: ws') (hrc : rm.cells = mc) (hrs : rm.slots = ms)
    (hd : y.cls = C ∧ y.cls ≠ "java/lang/invoke/MethodHandle" ∧ y.cls ≠ "java/lang/invoke/VarHandle" ∧ (parseMethodDescriptor y.desc).map (fun d => d.parameters.length) = some n) (hR : rm.frames + 1 ≤ R.frames ∧ 8 + (maxL + 11) + rm.locals ≤ R.locals) :
    vx_CVW R s args own C index y bytes maxL ret hh ws rm mc ms n := by
  obtain ⟨hC, hd⟩ := hd
  subst hC
  have ok : ∀ w ∈ wsV own index y.cls y ws, w.before args s = true := fun w h => ht w (hT w h).1
  have hG : GoodIn Ts ws := fun w h => hT w (by unfold wsV; exact List.mem_append_right _ h)
  have hc : Cond.codeWith y bytes maxL ret hh ∈ ws := by rw [hw]; exact List.mem_cons_self
  refine ⟨⟨hrc, hrs, hR.1, hR.2, pay_in ht hG, hc⟩, ht _ (hG _ hc).1, ok _ (by simp [wsV]), ⟨hd.1, hd.2.1⟩, fun sig h => ?_, ok _ (by simp [wsV]), ok _ (by simp [wsV]), ok _ (by simp [wsV])⟩
  have h2 := hd.2.2
  rw [h] at h2
  exact (Option.some.inj h2).symm
theorem vx_runVW {y : MethodName} {bytes cc : ByteArray} {maxL nL mc ms n index : Nat} {ret : Option FieldType} {hh : List (Nat × Nat × Nat × Nat)} {ws : List Cond} {rm : Room} {Pc : Array Value → State → Prop} {Qc : Array Value → State → Outcome → State → Prop} {free : Addr → Prop} {Ts : List Cond} {own C : String} {b : Addr} {As rest : List Value} {g : JFrame}
    (S : CallFix p m c cc nL s args Ts own) (hM : Met l y ws rm Pc Qc mc ms free) (cw : vx_CVW R s args own C index y bytes maxL ret hh ws rm mc ms n) (hp : PreV s H C b Pc As)
    (hg : g.method = m) (hn : As.length = n) (hsize : g.locals.size = nL) (hstack : g.stack = As.reverse ++ .ref b :: rest) (hW : 2 * g.monitorRoom + (rest.map fun v => v.category).sum ≤ 8) (hdg : decode cc g.pc = .ok (.invokevirtual index, 3)) (hf : cells + mc ≤ R.cells ∧ slots + ms ≤ R.slots) :
    va_Run p l e R s m args below meth c H locs cells slots mc ms g rest (Qc (Value.ref b :: As).toArray) free := by
  obtain ⟨⟨hrc, hrs, hfr, hlo, hws, hcw⟩, hcode, hini, hy, hlen, hl, hin, hse⟩ := cw
  have hK : Back l R p e below s args y 3 8 (PreOf R mc ms Pc) (PostOf Qc mc ms free) := va_backW (hh := hh) (bytes := bytes) (maxL := maxL) (ret := ret) hM hp.1 hrc hrs hfr hlo hws hcw (fun a' U hW => word_at hW (Or.inl (by first | rfl | simp [Cond.onTables, Cond.keeps, Cond.steady])) hini)
  obtain ⟨hx, hb, hml, ho, -⟩ := S
  obtain ⟨-, ⟨cellB, hcB, hoB, hclB⟩, hPc⟩ := hp
  intro T hT X
  obtain ⟨v, vm₁, ⟨U', l2, c2, s2⟩, hW₁, X', ⟨g', mk, t, L, e1, e2, hq, h1, hL, h2, h3⟩, st⟩ := vx_callVW X hx (C := C) (hh := hh) (bytes := bytes) (maxL := maxL) (ret := ret) ho hl hin hse hcode hy hK (by rw [hT]; exact hcB) hoB hclB hg (hsize.trans hml.symm) (argsL := As) (rest := rest) (fun sig h => hn.trans (hlen sig h)) hstack hW (by rw [hb]; exact hdg)
    (fun vm₁ hW₁ => ⟨hf.1, hf.2, hPc (T.setVm vm₁) hT hW₁⟩)
  dsimp only [Pt.U, Pt.locs, Pt.cells, Pt.slots] at X' e1 e2 h1 h2 h3 st
  subst h1; subst h2; subst h3
  exact ⟨v, (T.setVm vm₁).calling g' mk (Value.ref b :: As).toArray, t, U', L, hT, X', hL, e1, e2, hq, st⟩
section
variable {y : MethodName} {bytes cc : ByteArray} {maxL nL mc ms n index : Nat} {ret : Option FieldType} {ws : List Cond} {rm : Room} {Pc : Array Value → State → Prop} {Qc : Array Value → State → Outcome → State → Prop} {XC : String → State → State → Prop} {free : Addr → Prop} {Ts : List Cond} {own C : String} {b : Addr} {As rest : List Value} {g : JFrame}
theorem vx_runVX {hh : List (Nat × Nat × Nat × Nat)} (S : CallFix p m c cc nL s args Ts own) (hM : vx_Met l y ws rm Pc Qc XC mc ms free) (cw : vx_CVW R s args own C index y bytes maxL ret hh ws rm mc ms n) (hp : PreV s H C b Pc As)
    (hg : g.method = m) (hn : As.length = n) (hsize : g.locals.size = nL) (hstack : g.stack = As.reverse ++ .ref b :: rest) (hW : 2 * g.monitorRoom + (rest.map fun v => v.category).sum ≤ 8) (hdg : decode cc g.pc = .ok (.invokevirtual index, 3)) (hf : cells + mc ≤ R.cells ∧ slots + ms ≤ R.slots) :
    vx_Run p l e R s m args below meth c H locs cells slots mc ms g rest (Qc (Value.ref b :: As).toArray) XC free := by
  obtain ⟨⟨hrc, hrs, hfr, hlo, hws, hcw⟩, hcode, hini, hy, hlen, hl, hin, hse⟩ := cw
  have hK : vx_Back l R p e below s args y 3 8 (PreOf R mc ms Pc) (PostOf Qc mc ms free) (vx_Post XC mc ms free) := vx_backW (hh := hh) (bytes := bytes) (maxL := maxL) (ret := ret) hM hp.1 hrc hrs hfr hlo hws hcw (fun a' U hW => word_at hW (Or.inl (by first | rfl | simp [Cond.onTables, Cond.keeps, Cond.steady])) hini)
  obtain ⟨hx, hb, hml, ho, -⟩ := S
  obtain ⟨-, ⟨cellB, hcB, hoB, hclB⟩, hPc⟩ := hp
  intro T hT X
  rcases vx_callVX X hx (C := C) (hh := hh) (bytes := bytes) (maxL := maxL) (ret := ret) ho hl hin hse hcode hy hK (by rw [hT]; exact hcB) hoB hclB hg (hsize.trans hml.symm) (argsL := As) (rest := rest) (fun sig h => hn.trans (hlen sig h)) hstack hW (by rw [hb]; exact hdg)
    (fun vm₁ hW₁ => ⟨hf.1, hf.2, hPc (T.setVm vm₁) hT hW₁⟩) with ⟨v, vm₁, ⟨U', l2, c2, s2⟩, hW₁, X', ⟨g', mk, t, L, e1, e2, hq, h1, hL, h2, h3⟩, st⟩ | ⟨q, vm₁, ⟨U', l2, c2, s2⟩, hW₁, X', ⟨g', mk, t, L, E, ce, e1, e2, hq, hce, hcv, hcl, h1, hL, h2, h3⟩, st⟩
  · dsimp only [Pt.U, Pt.locs, Pt.cells, Pt.slots] at X' e1 e2 h1 h2 h3 st
    subst h1; subst h2; subst h3
    exact Or.inl ⟨v, (T.setVm vm₁).calling g' mk (Value.ref b :: As).toArray, t, U', L, hT, X', hL, e1, e2, hq, st⟩
  · dsimp only [Pt.U, Pt.locs, Pt.cells, Pt.slots] at X' e1 e2 h1 h2 h3 st hcl
    subst h1; subst h2; subst h3
    exact Or.inr ⟨q, (T.setVm vm₁).calling g' mk (Value.ref b :: As).toArray, t, U', L, E, ce, hT, X', hL, e1, e2, hq, hce, hcv, vx_cls hW₁ hcl, st⟩
theorem vx_runSX {hh : List (Nat × Nat × Nat × Nat)} (S : CallFix p m c cc nL s args Ts own) (hM : vx_Met l y ws rm Pc Qc XC mc ms free) (cw : vx_CSW R s args own index y bytes maxL ret hh ws rm mc ms n) (hp : PreS s H Pc As)
    (hg : g.method = m) (hn : As.length = n) (hsize : g.locals.size = nL) (hstack : g.stack = As.reverse ++ rest) (hW : 2 * g.monitorRoom + (rest.map fun v => v.category).sum ≤ 8) (hdg : decode cc g.pc = .ok (.invokestatic index, 3)) (hf : cells + mc ≤ R.cells ∧ slots + ms ≤ R.slots) :
    vx_Run p l e R s m args below meth c H locs cells slots mc ms g rest (Qc As.toArray) XC free := by
  obtain ⟨⟨hrc, hrs, hfr, hlo, hws, hcw⟩, hcode, hini, hy, hlen, hl, hstt⟩ := cw
  have hK : vx_Back l R p e below s args y 3 8 (PreOf R mc ms Pc) (PostOf Qc mc ms free) (vx_Post XC mc ms free) := vx_backW (hh := hh) (bytes := bytes) (maxL := maxL) (ret := ret) hM hp.1 hrc hrs hfr hlo hws hcw (fun a' U hW => word_at hW (Or.inl (by first | rfl | simp [Cond.onTables, Cond.keeps, Cond.steady])) hini)
  obtain ⟨hx, hb, hml, ho, -⟩ := S
  intro T hT X
  rcases vx_callSX X hx (hh := hh) (bytes := bytes) (maxL := maxL) (ret := ret) ho hl hstt hini hcode hy hK hg (hsize.trans hml.symm) (argsL := As) (rest := rest) (fun sig h => hn.trans (hlen sig h)) hstack hW (by rw [hb]; exact hdg)
    (fun vm₁ hW₁ => ⟨hf.1, hf.2, hp.2 (T.setVm vm₁) hT hW₁⟩) with ⟨v, vm₁, ⟨U', l2, c2, s2⟩, hW₁, X', ⟨g', mk, t, L, e1, e2, hq, h1, hL, h2, h3⟩, st⟩ | ⟨q, vm₁, ⟨U', l2, c2, s2⟩, hW₁, X', ⟨g', mk, t, L, E, ce, e1, e2, hq, hce, hcv, hcl, h1, hL, h2, h3⟩, st⟩
  · dsimp only [Pt.U, Pt.locs, Pt.cells, Pt.slots] at X' e1 e2 h1 h2 h3 st
    subst h1; subst h2; subst h3
    exact Or.inl ⟨v, (T.setVm vm₁).calling g' mk As.toArray, t, U', L, hT, X', hL, e1, e2, hq, st⟩
  · dsimp only [Pt.U, Pt.locs, Pt.cells, Pt.slots] at X' e1 e2 h1 h2 h3 st hcl
    subst h1; subst h2; subst h3
    exact Or.inr ⟨q, (T.setVm vm₁).calling g' mk As.toArray, t, U', L, E, ce, hT, X', hL, e1, e2, hq, hce, hcv, vx_cls hW₁ hcl, st⟩
end
end VXH
theorem vx_ofWH {l : Launch} {y : MethodName} {ws ws' : List Cond} {rm : Room} {Pc : Array Value → State → Prop} {Qc : Array Value → State → Outcome → State → Prop} {XC : String → State → State → Prop} {mc ms : Nat} {free : Addr → Prop} {cc : ByteArray} {maxL : Nat} {ret : Option FieldType} {hh : List (Nat × Nat × Nat × Nat)}
    (hy : plainName y.cls = true) (hw : ws = Cond.codeWith y cc maxL ret hh :: ws')
    (body : ∀ p e s m args below meth c s₁, BodyLoose p l y (headSpec ws rm) cc maxL ret e s m args below meth c s₁ → c.maxLocals = maxL → Pc args s →
      W p l e (headSpec ws rm).room s m args below meth c s.heap [] 0 0 (vx_MQ below Qc XC args s mc ms free) (entryFrame m args maxL)) : vx_Met l y ws rm Pc Qc XC mc ms free := by
  refine MetFree.of_bodyS (code := cc) (maxLocals := maxL) (ret := ret) hy ?_ ?_
  · intro args s m h hn
    obtain ⟨m9, meth, c, hn9, h1, h2, h3, h4, -, h5, h6, -⟩ := Cond.codeWith_spec (atoms_spec (ws := ws) h _ (by rw [hw]; exact List.mem_cons_self))
    cases hn.symm.trans hn9
    exact ⟨meth, c, h1, h2, h3, h4, h5, h6⟩
  · intro p e s m args below meth c s₁ B hml hP _
    have hh0 : s₁.heap = s.heap := by rw [B.state]; rfl
    obtain ⟨t, a1, o, b1, b2, b3⟩ := body p e s m args below meth c s₁ B hml hP s₁ hh0 (Stand.of_body B)
    exact ⟨t, o, a1, b1, b2, b3⟩
/-! ===== END ===== -/
end
section
def RX0 : String := "DefiniteRows$Piece"
def TX0 : u_T := fun k => match k with
  | _ => ("DefiniteRows$Piece", "numbers", "[I", true)
def tyX0 : Nat → FieldType := fun k => match k with
  | _ => .array .int
abbrev wsX00 : List Cond := u_ws RX0 TX0 1
theorem nmX0 : ∀ a, a < 1 → ∀ b, b < 1 → a ≠ b → (TX0 a).2.1 ≠ (TX0 b).2.1 := by decide +kernel
theorem tyX0_ok : ∀ k, k < 1 → parseFieldDescriptor (TX0 k).2.2.1 = some (tyX0 k) := by decide +kernel
def RX1 : String := "DefiniteRows$Sum"
def TX1 : u_T := fun k => match k with
  | 0 => ("DefiniteRows$Sum", "above", "J", false)
  | _ => ("DefiniteRows$Sum", "logarithms", "[I", true)
def tyX1 : Nat → FieldType := fun k => match k with
  | 0 => .long
  | _ => .array .int
abbrev wsX10 : List Cond := u_ws RX1 TX1 2
theorem nmX1 : ∀ a, a < 2 → ∀ b, b < 2 → a ≠ b → (TX1 a).2.1 ≠ (TX1 b).2.1 := by decide +kernel
theorem tyX1_ok : ∀ k, k < 2 → parseFieldDescriptor (TX1 k).2.2.1 = some (tyX1 k) := by decide +kernel
def RX2 : String := "DefiniteRows"
def TX2 : u_T := fun k => match k with
  | 0 => ("DefiniteRows", "places", "[I", true)
  | 1 => ("DefiniteRows", "pieces", "[LDefiniteRows$Piece;", true)
  | 2 => ("DefiniteRows", "sum", "LDefiniteRows$Sum;", true)
  | 3 => ("DefiniteRows", "count", "I", false)
  | _ => ("DefiniteRows", "known", "Z", false)
def tyX2 : Nat → FieldType := fun k => match k with
  | 0 => .array .int
  | 1 => .array (.object "DefiniteRows$Piece")
  | 2 => .object "DefiniteRows$Sum"
  | 3 => .int
  | _ => .boolean
abbrev wsX20 : List Cond := u_ws RX2 TX2 5
theorem nmX2 : ∀ a, a < 5 → ∀ b, b < 5 → a ≠ b → (TX2 a).2.1 ≠ (TX2 b).2.1 := by decide +kernel
theorem tyX2_ok : ∀ k, k < 5 → parseFieldDescriptor (TX2 k).2.2.1 = some (tyX2 k) := by decide +kernel
def RX3 : String := "DefiniteRowsModel"
def TX3 : u_T := fun k => match k with
  | 0 => ("DefiniteRowsModel", "code", "I", false)
  | 1 => ("DefiniteRowsModel", "cuts", "I", false)
  | 2 => ("DefiniteRowsModel", "places", "[I", true)
  | 3 => ("DefiniteRowsModel", "numbers", "[I", true)
  | 4 => ("DefiniteRowsModel", "old", "[I", true)
  | 5 => ("DefiniteRowsModel", "oldPlaces", "[I", true)
  | 6 => ("DefiniteRowsModel", "known", "Z", false)
  | 7 => ("DefiniteRowsModel", "knownUp", "J", false)
  | 8 => ("DefiniteRowsModel", "knownDown", "J", false)
  | 9 => ("DefiniteRowsModel", "knownLogs", "[I", true)
  | 10 => ("DefiniteRowsModel", "up", "J", false)
  | 11 => ("DefiniteRowsModel", "down", "J", false)
  | _ => ("DefiniteRowsModel", "logs", "[I", true)
def tyX3 : Nat → FieldType := fun k => match k with
  | 0 => .int
  | 1 => .int
  | 2 => .array .int
  | 3 => .array .int
  | 4 => .array .int
  | 5 => .array .int
  | 6 => .boolean
  | 7 => .long
  | 8 => .long
  | 9 => .array .int
  | 10 => .long
  | 11 => .long
  | _ => .array .int
abbrev wsX30 : List Cond := u_ws RX3 TX3 13
theorem nmX3 : ∀ a, a < 13 → ∀ b, b < 13 → a ≠ b → (TX3 a).2.1 ≠ (TX3 b).2.1 := by decide +kernel
theorem tyX3_ok : ∀ k, k < 13 → parseFieldDescriptor (TX3 k).2.2.1 = some (tyX3 k) := by decide +kernel
def RJ7 : String := "java/util/Arrays"
def RL : String := "DefiniteRowsLaw"
abbrev cX2_init : ByteArray := prog_1_method_1_code
def yX2_init : MethodName := ⟨RX2, "<init>", "()V"⟩
abbrev cX1_init : ByteArray := prog_3_method_1_code
def yX1_init : MethodName := ⟨RX1, "<init>", "()V"⟩
abbrev cX0_init : ByteArray := prog_2_method_1_code
def yX0_init : MethodName := ⟨RX0, "<init>", "()V"⟩
abbrev cX2_mirror : ByteArray := prog_1_method_7_code
def yX2_mirror : MethodName := ⟨RX2, "mirror", "()V"⟩
abbrev cX0_turnRound : ByteArray := prog_2_method_4_code
def yX0_turnRound : MethodName := ⟨RX0, "turnRound", "()V"⟩
abbrev cX2_symmetry : ByteArray := prog_1_method_12_code
def yX2_symmetry : MethodName := ⟨RX2, "symmetry", "()I"⟩
abbrev cX2_isMirrored : ByteArray := prog_1_method_24_code
def yX2_isMirrored : MethodName := ⟨RX2, "isMirrored", "(I)Z"⟩
abbrev cX2_pieceAt : ByteArray := prog_1_method_20_code
def yX2_pieceAt : MethodName := ⟨RX2, "pieceAt", "(I)I"⟩
abbrev cX0_mirrors : ByteArray := prog_2_method_11_code
def yX0_mirrors : MethodName := ⟨RX0, "mirrors", "(LDefiniteRows$Piece;I)Z"⟩
abbrev cX0_hasPole : ByteArray := prog_2_method_5_code
def yX0_hasPole : MethodName := ⟨RX0, "hasPole", "()Z"⟩
abbrev cX2_cuts : ByteArray := prog_1_method_13_code
def yX2_cuts : MethodName := ⟨RX2, "cuts", "()I"⟩
abbrev cX2_clear : ByteArray := prog_1_method_14_code
def yX2_clear : MethodName := ⟨RX2, "clear", "()V"⟩
abbrev cX0_wipe : ByteArray := prog_2_method_2_code
def yX0_wipe : MethodName := ⟨RX0, "wipe", "()V"⟩
abbrev cJ7_fill : ByteArray := prog_15_method_103_code
def yJ7_fill : MethodName := ⟨RJ7, "fill", "([II)V"⟩
abbrev cL_cut : ByteArray := method_3_code
def yL_cut : MethodName := ⟨RL, "cut", "(LDefiniteRows;I[J)I"⟩
abbrev cX2_cut : ByteArray := prog_1_method_2_code
def yX2_cut : MethodName := ⟨RX2, "cut", "(I)I"⟩
abbrev cX2_isWithin : ByteArray := prog_1_method_15_code
def yX2_isWithin : MethodName := ⟨RX2, "isWithin", "(II)Z"⟩
abbrev cX2_isCut : ByteArray := prog_1_method_19_code
def yX2_isCut : MethodName := ⟨RX2, "isCut", "(I)Z"⟩
abbrev cX0_become : ByteArray := prog_2_method_3_code
def yX0_become : MethodName := ⟨RX0, "become", "(LDefiniteRows$Piece;)V"⟩
abbrev cL_join : ByteArray := method_4_code
def yL_join : MethodName := ⟨RL, "join", "(LDefiniteRows;I)I"⟩
abbrev cX2_join : ByteArray := prog_1_method_3_code
def yX2_join : MethodName := ⟨RX2, "join", "(I)V"⟩
abbrev cL_put : ByteArray := method_5_code
def yL_put : MethodName := ⟨RL, "put", "(LDefiniteRows;III[J)I"⟩
abbrev cX2_put : ByteArray := prog_1_method_4_code
def yX2_put : MethodName := ⟨RX2, "put", "(III)Z"⟩
abbrev cL_at : ByteArray := method_6_code
def yL_at : MethodName := ⟨RL, "at", "(LDefiniteRows;II[J)I"⟩
abbrev cX2_at : ByteArray := prog_1_method_5_code
def yX2_at : MethodName := ⟨RX2, "at", "(II)I"⟩
abbrev cL_place : ByteArray := method_7_code
def yL_place : MethodName := ⟨RL, "place", "(LDefiniteRows;I[J)I"⟩
abbrev cX2_place : ByteArray := prog_1_method_6_code
def yX2_place : MethodName := ⟨RX2, "place", "(I)I"⟩
abbrev cL_value : ByteArray := method_8_code
def yL_value : MethodName := ⟨RL, "value", "(LDefiniteRows;II[J)I"⟩
abbrev cX2_value : ByteArray := prog_1_method_8_code
def yX2_value : MethodName := ⟨RX2, "value", "(II)J"⟩
abbrev cX2_isPart : ByteArray := prog_1_method_16_code
def yX2_isPart : MethodName := ⟨RX2, "isPart", "(I)Z"⟩
abbrev cX0_powersAt : ByteArray := prog_2_method_8_code
def yX0_powersAt : MethodName := ⟨RX0, "powersAt", "(J)J"⟩
abbrev cX2_lowestTerms : ByteArray := prog_1_method_25_code
def yX2_lowestTerms : MethodName := ⟨RX2, "lowestTerms", "(JJI)J"⟩
abbrev cX2_greatestDivisor : ByteArray := prog_1_method_26_code
def yX2_greatestDivisor : MethodName := ⟨RX2, "greatestDivisor", "(JJ)J"⟩
abbrev cX0_abovePoleAt : ByteArray := prog_2_method_9_code
def yX0_abovePoleAt : MethodName := ⟨RX0, "abovePoleAt", "(J)J"⟩
abbrev cL_integral : ByteArray := method_9_code
def yL_integral : MethodName := ⟨RL, "integral", "(LDefiniteRows;II[J)I"⟩
abbrev cX2_integral : ByteArray := prog_1_method_9_code
def yX2_integral : MethodName := ⟨RX2, "integral", "(II)Z"⟩
abbrev cX2_isEnd : ByteArray := prog_1_method_17_code
def yX2_isEnd : MethodName := ⟨RX2, "isEnd", "(I)Z"⟩
abbrev cX2_isEndless : ByteArray := prog_1_method_18_code
def yX2_isEndless : MethodName := ⟨RX2, "isEndless", "(I)Z"⟩
abbrev cX2_addParts : ByteArray := prog_1_method_23_code
def yX2_addParts : MethodName := ⟨RX2, "addParts", "(III)Z"⟩
abbrev cX1_wipe : ByteArray := prog_3_method_2_code
def yX1_wipe : MethodName := ⟨RX1, "wipe", "()V"⟩
abbrev cX2_leftBorder : ByteArray := prog_1_method_21_code
def yX2_leftBorder : MethodName := ⟨RX2, "leftBorder", "(I)I"⟩
abbrev cX2_rightBorder : ByteArray := prog_1_method_22_code
def yX2_rightBorder : MethodName := ⟨RX2, "rightBorder", "(I)I"⟩
abbrev cX0_diverges : ByteArray := prog_2_method_7_code
def yX0_diverges : MethodName := ⟨RX0, "diverges", "(II)Z"⟩
abbrev cX0_hasEndlessTail : ByteArray := prog_2_method_6_code
def yX0_hasEndlessTail : MethodName := ⟨RX0, "hasEndlessTail", "()Z"⟩
abbrev cX1_addPrimitive : ByteArray := prog_3_method_3_code
def yX1_addPrimitive : MethodName := ⟨RX1, "addPrimitive", "(LDefiniteRows$Piece;II)V"⟩
abbrev cX0_twelfthsOfPowersPrimitive : ByteArray := prog_2_method_10_code
def yX0_twelfthsOfPowersPrimitive : MethodName := ⟨RX0, "twelfthsOfPowersPrimitive", "(J)J"⟩
abbrev cX1_addLogarithm : ByteArray := prog_3_method_4_code
def yX1_addLogarithm : MethodName := ⟨RX1, "addLogarithm", "(II)V"⟩
abbrev cX2_timesIn : ByteArray := prog_1_method_27_code
def yX2_timesIn : MethodName := ⟨RX2, "timesIn", "(II)I"⟩
abbrev cL_fraction : ByteArray := method_10_code
def yL_fraction : MethodName := ⟨RL, "fraction", "(LDefiniteRows;I[J)I"⟩
abbrev cX2_fraction : ByteArray := prog_1_method_10_code
def yX2_fraction : MethodName := ⟨RX2, "fraction", "(I)J"⟩
abbrev cL_logarithm : ByteArray := method_11_code
def yL_logarithm : MethodName := ⟨RL, "logarithm", "(LDefiniteRows;I[J)I"⟩
abbrev cX2_logarithm : ByteArray := prog_1_method_11_code
def yX2_logarithm : MethodName := ⟨RX2, "logarithm", "(I)I"⟩
abbrev cX3_init : ByteArray := prog_5_method_1_code
def yX3_init : MethodName := ⟨RX3, "<init>", "()V"⟩
abbrev cX3_thrown : ByteArray := prog_5_method_2_code
def yX3_thrown : MethodName := ⟨RX3, "thrown", "()I"⟩
abbrev cX3_cut : ByteArray := prog_5_method_5_code
def yX3_cut : MethodName := ⟨RX3, "cut", "(I)I"⟩
abbrev cX3_in : ByteArray := prog_5_method_4_code
def yX3_in : MethodName := ⟨RX3, "in", "(III)Z"⟩
abbrev cX3_join : ByteArray := prog_5_method_6_code
def yX3_join : MethodName := ⟨RX3, "join", "(I)V"⟩
abbrev cX3_put : ByteArray := prog_5_method_7_code
def yX3_put : MethodName := ⟨RX3, "put", "(III)Z"⟩
abbrev cX3_at : ByteArray := prog_5_method_8_code
def yX3_at : MethodName := ⟨RX3, "at", "(II)I"⟩
abbrev cX3_place : ByteArray := prog_5_method_9_code
def yX3_place : MethodName := ⟨RX3, "place", "(I)I"⟩
abbrev cX3_mirror : ByteArray := prog_5_method_11_code
def yX3_mirror : MethodName := ⟨RX3, "mirror", "()V"⟩
abbrev cX3_turned : ByteArray := prog_5_method_10_code
def yX3_turned : MethodName := ⟨RX3, "turned", "([III)I"⟩
abbrev cX3_cuts : ByteArray := prog_5_method_12_code
def yX3_cuts : MethodName := ⟨RX3, "cuts", "()I"⟩
abbrev cX3_clear : ByteArray := prog_5_method_13_code
def yX3_clear : MethodName := ⟨RX3, "clear", "()V"⟩
abbrev cX3_value : ByteArray := prog_5_method_19_code
def yX3_value : MethodName := ⟨RX3, "value", "(II)J"⟩
abbrev cX3_hasPole : ByteArray := prog_5_method_18_code
def yX3_hasPole : MethodName := ⟨RX3, "hasPole", "(I)Z"⟩
abbrev cX3_raise : ByteArray := prog_5_method_3_code
def yX3_raise : MethodName := ⟨RX3, "raise", "(I)I"⟩
abbrev cX3_start : ByteArray := prog_5_method_14_code
def yX3_start : MethodName := ⟨RX3, "start", "()V"⟩
abbrev cX3_more : ByteArray := prog_5_method_15_code
def yX3_more : MethodName := ⟨RX3, "more", "(JJ)V"⟩
abbrev cX3_integral : ByteArray := prog_5_method_22_code
def yX3_integral : MethodName := ⟨RX3, "integral", "(II)Z"⟩
abbrev cX3_isThere : ByteArray := prog_5_method_20_code
def yX3_isThere : MethodName := ⟨RX3, "isThere", "(III)Z"⟩
abbrev cX3_putEnd : ByteArray := prog_5_method_21_code
def yX3_putEnd : MethodName := ⟨RX3, "putEnd", "(III)V"⟩
abbrev cX3_putLogs : ByteArray := prog_5_method_17_code
def yX3_putLogs : MethodName := ⟨RX3, "putLogs", "(II)V"⟩
abbrev cX3_primeOf : ByteArray := prog_5_method_16_code
def yX3_primeOf : MethodName := ⟨RX3, "primeOf", "(I)I"⟩
abbrev cX3_fraction : ByteArray := prog_5_method_23_code
def yX3_fraction : MethodName := ⟨RX3, "fraction", "(I)J"⟩
abbrev cX3_logarithm : ByteArray := prog_5_method_24_code
def yX3_logarithm : MethodName := ⟨RX3, "logarithm", "(I)I"⟩
abbrev cX3_symmetry : ByteArray := prog_5_method_27_code
def yX3_symmetry : MethodName := ⟨RX3, "symmetry", "()I"⟩
abbrev cX3_pieceAt : ByteArray := prog_5_method_25_code
def yX3_pieceAt : MethodName := ⟨RX3, "pieceAt", "(I)I"⟩
abbrev cX3_isTurned : ByteArray := prog_5_method_26_code
def yX3_isTurned : MethodName := ⟨RX3, "isTurned", "(III)Z"⟩
def gw : List Cond := lw_tbl.filter goodWord
def gn_is : Cond → Bool
  | .methodLinkNest .. => true
  | .fieldLinkNest .. => true
  | .castable .. => true
  | .declares .. => true
  | _ => false
def gn : List Cond := lw_tbl.filter gn_is
theorem gw_mem {w : Cond} (k : Nat) (h : lw_tbl[k]? = some w) (hg : goodWord w = true) : w ∈ gw := List.mem_filter.mpr ⟨List.mem_of_getElem? h, hg⟩
theorem gn_mem {w : Cond} (k : Nat) (h : lw_tbl[k]? = some w) (hg : gn_is w = true) : w ∈ gn := List.mem_filter.mpr ⟨List.mem_of_getElem? h, hg⟩
theorem gw_tbl : ∀ w ∈ gw, w ∈ lw_tbl := fun _ h => (List.mem_filter.mp h).1
theorem gn_tbl : ∀ w ∈ gn, w ∈ lw_tbl := fun _ h => (List.mem_filter.mp h).1
theorem gw_good : ∀ w ∈ gw, goodWord w = true := fun _ h => (List.mem_filter.mp h).2
def wsX2_init : List Cond := .code yX2_init cX2_init 2 (Option.none : Option Jvm.ClassFile.FieldType) :: gw
def wsX1_init : List Cond := .code yX1_init cX1_init 1 (Option.none : Option Jvm.ClassFile.FieldType) :: gw
def wsX0_init : List Cond := .code yX0_init cX0_init 1 (Option.none : Option Jvm.ClassFile.FieldType) :: gw
def wsX2_mirror : List Cond := .code yX2_mirror cX2_mirror 4 (Option.none : Option Jvm.ClassFile.FieldType) :: gw
def wsX0_turnRound : List Cond := .code yX0_turnRound cX0_turnRound 2 (Option.none : Option Jvm.ClassFile.FieldType) :: gw
def wsX2_symmetry : List Cond := .code yX2_symmetry cX2_symmetry 3 (Option.some Jvm.ClassFile.FieldType.int) :: gw
def wsX2_isMirrored : List Cond := .code yX2_isMirrored cX2_isMirrored 3 (Option.some Jvm.ClassFile.FieldType.boolean) :: gw
def wsX2_pieceAt : List Cond := .code yX2_pieceAt cX2_pieceAt 4 (Option.some Jvm.ClassFile.FieldType.int) :: gw
def wsX0_mirrors : List Cond := .code yX0_mirrors cX0_mirrors 4 (Option.some Jvm.ClassFile.FieldType.boolean) :: gw
def wsX0_hasPole : List Cond := .code yX0_hasPole cX0_hasPole 1 (Option.some Jvm.ClassFile.FieldType.boolean) :: gw
def wsX2_cuts : List Cond := .code yX2_cuts cX2_cuts 1 (Option.some Jvm.ClassFile.FieldType.int) :: gw
def wsX2_clear : List Cond := .code yX2_clear cX2_clear 1 (Option.none : Option Jvm.ClassFile.FieldType) :: gw
def wsX0_wipe : List Cond := .code yX0_wipe cX0_wipe 1 (Option.none : Option Jvm.ClassFile.FieldType) :: gw
def wsJ7_fill : List Cond := .code yJ7_fill cJ7_fill 4 (Option.none : Option Jvm.ClassFile.FieldType) :: gw
def wsL_cut : List Cond := .codeWith yL_cut cL_cut 4 (Option.some Jvm.ClassFile.FieldType.int) [((0 : Nat), (9 : Nat), (12 : Nat), (13 : Nat)), ((0 : Nat), (9 : Nat), (15 : Nat), (15 : Nat))] :: gw
def wsX2_cut : List Cond := .code yX2_cut cX2_cut 4 (Option.some Jvm.ClassFile.FieldType.int) :: gw
def wsX2_isWithin : List Cond := .code yX2_isWithin cX2_isWithin 2 (Option.some Jvm.ClassFile.FieldType.boolean) :: gw
def wsX2_isCut : List Cond := .code yX2_isCut cX2_isCut 3 (Option.some Jvm.ClassFile.FieldType.boolean) :: gw
def wsX0_become : List Cond := .code yX0_become cX0_become 2 (Option.none : Option Jvm.ClassFile.FieldType) :: gw
def wsL_join : List Cond := .codeWith yL_join cL_join 3 (Option.some Jvm.ClassFile.FieldType.int) [((0 : Nat), (5 : Nat), (8 : Nat), (21 : Nat))] :: gw
def wsX2_join : List Cond := .code yX2_join cX2_join 3 (Option.none : Option Jvm.ClassFile.FieldType) :: gw
def wsL_put : List Cond := .codeWith yL_put cL_put 6 (Option.some Jvm.ClassFile.FieldType.int) [((0 : Nat), (19 : Nat), (22 : Nat), (21 : Nat)), ((0 : Nat), (19 : Nat), (26 : Nat), (13 : Nat))] :: gw
def wsX2_put : List Cond := .code yX2_put cX2_put 6 (Option.some Jvm.ClassFile.FieldType.boolean) :: gw
def wsL_at : List Cond := .codeWith yL_at cL_at 5 (Option.some Jvm.ClassFile.FieldType.int) [((0 : Nat), (10 : Nat), (13 : Nat), (21 : Nat)), ((0 : Nat), (10 : Nat), (17 : Nat), (13 : Nat))] :: gw
def wsX2_at : List Cond := .code yX2_at cX2_at 3 (Option.some Jvm.ClassFile.FieldType.int) :: gw
def wsL_place : List Cond := .codeWith yL_place cL_place 4 (Option.some Jvm.ClassFile.FieldType.int) [((0 : Nat), (9 : Nat), (12 : Nat), (21 : Nat))] :: gw
def wsX2_place : List Cond := .code yX2_place cX2_place 2 (Option.some Jvm.ClassFile.FieldType.int) :: gw
def wsL_value : List Cond := .codeWith yL_value cL_value 5 (Option.some Jvm.ClassFile.FieldType.int) [((0 : Nat), (9 : Nat), (12 : Nat), (13 : Nat)), ((0 : Nat), (9 : Nat), (16 : Nat), (15 : Nat))] :: gw
def wsX2_value : List Cond := .code yX2_value cX2_value 8 (Option.some Jvm.ClassFile.FieldType.long) :: gw
def wsX2_isPart : List Cond := .code yX2_isPart cX2_isPart 1 (Option.some Jvm.ClassFile.FieldType.boolean) :: gw
def wsX0_powersAt : List Cond := .code yX0_powersAt cX0_powersAt 3 (Option.some Jvm.ClassFile.FieldType.long) :: gw
def wsX2_lowestTerms : List Cond := .code yX2_lowestTerms cX2_lowestTerms 7 (Option.some Jvm.ClassFile.FieldType.long) :: gw
def wsX2_greatestDivisor : List Cond := .code yX2_greatestDivisor cX2_greatestDivisor 11 (Option.some Jvm.ClassFile.FieldType.long) :: gw
def wsX0_abovePoleAt : List Cond := .code yX0_abovePoleAt cX0_abovePoleAt 3 (Option.some Jvm.ClassFile.FieldType.long) :: gw
def wsL_integral : List Cond := .codeWith yL_integral cL_integral 5 (Option.some Jvm.ClassFile.FieldType.int) [((0 : Nat), (17 : Nat), (20 : Nat), (13 : Nat))] :: gw
def wsX2_integral : List Cond := .code yX2_integral cX2_integral 3 (Option.some Jvm.ClassFile.FieldType.boolean) :: gw
def wsX2_isEnd : List Cond := .code yX2_isEnd cX2_isEnd 1 (Option.some Jvm.ClassFile.FieldType.boolean) :: gw
def wsX2_isEndless : List Cond := .code yX2_isEndless cX2_isEndless 1 (Option.some Jvm.ClassFile.FieldType.boolean) :: gw
def wsX2_addParts : List Cond := .code yX2_addParts cX2_addParts 7 (Option.some Jvm.ClassFile.FieldType.boolean) :: gw
def wsX1_wipe : List Cond := .code yX1_wipe cX1_wipe 1 (Option.none : Option Jvm.ClassFile.FieldType) :: gw
def wsX2_leftBorder : List Cond := .code yX2_leftBorder cX2_leftBorder 2 (Option.some Jvm.ClassFile.FieldType.int) :: gw
def wsX2_rightBorder : List Cond := .code yX2_rightBorder cX2_rightBorder 2 (Option.some Jvm.ClassFile.FieldType.int) :: gw
def wsX0_diverges : List Cond := .code yX0_diverges cX0_diverges 5 (Option.some Jvm.ClassFile.FieldType.boolean) :: gw
def wsX0_hasEndlessTail : List Cond := .code yX0_hasEndlessTail cX0_hasEndlessTail 2 (Option.some Jvm.ClassFile.FieldType.boolean) :: gw
def wsX1_addPrimitive : List Cond := .code yX1_addPrimitive cX1_addPrimitive 5 (Option.none : Option Jvm.ClassFile.FieldType) :: gw
def wsX0_twelfthsOfPowersPrimitive : List Cond := .code yX0_twelfthsOfPowersPrimitive cX0_twelfthsOfPowersPrimitive 3 (Option.some Jvm.ClassFile.FieldType.long) :: gw
def wsX1_addLogarithm : List Cond := .code yX1_addLogarithm cX1_addLogarithm 4 (Option.none : Option Jvm.ClassFile.FieldType) :: gw
def wsX2_timesIn : List Cond := .code yX2_timesIn cX2_timesIn 4 (Option.some Jvm.ClassFile.FieldType.int) :: gw
def wsL_fraction : List Cond := .codeWith yL_fraction cL_fraction 4 (Option.some Jvm.ClassFile.FieldType.int) [((0 : Nat), (8 : Nat), (11 : Nat), (15 : Nat)), ((0 : Nat), (8 : Nat), (14 : Nat), (13 : Nat))] :: gw
def wsX2_fraction : List Cond := .code yX2_fraction cX2_fraction 2 (Option.some Jvm.ClassFile.FieldType.long) :: gw
def wsL_logarithm : List Cond := .codeWith yL_logarithm cL_logarithm 4 (Option.some Jvm.ClassFile.FieldType.int) [((0 : Nat), (9 : Nat), (12 : Nat), (15 : Nat)), ((0 : Nat), (9 : Nat), (15 : Nat), (13 : Nat))] :: gw
def wsX2_logarithm : List Cond := .code yX2_logarithm cX2_logarithm 3 (Option.some Jvm.ClassFile.FieldType.int) :: gw
def wsX3_init : List Cond := .code yX3_init cX3_init 1 (Option.none : Option Jvm.ClassFile.FieldType) :: gw
def wsX3_thrown : List Cond := .code yX3_thrown cX3_thrown 1 (Option.some Jvm.ClassFile.FieldType.int) :: gw
def wsX3_cut : List Cond := .code yX3_cut cX3_cut 5 (Option.some Jvm.ClassFile.FieldType.int) :: gw
def wsX3_in : List Cond := .code yX3_in cX3_in 3 (Option.some Jvm.ClassFile.FieldType.boolean) :: gw
def wsX3_join : List Cond := .code yX3_join cX3_join 3 (Option.none : Option Jvm.ClassFile.FieldType) :: gw
def wsX3_put : List Cond := .code yX3_put cX3_put 5 (Option.some Jvm.ClassFile.FieldType.boolean) :: gw
def wsX3_at : List Cond := .code yX3_at cX3_at 3 (Option.some Jvm.ClassFile.FieldType.int) :: gw
def wsX3_place : List Cond := .code yX3_place cX3_place 2 (Option.some Jvm.ClassFile.FieldType.int) :: gw
def wsX3_mirror : List Cond := .code yX3_mirror cX3_mirror 3 (Option.none : Option Jvm.ClassFile.FieldType) :: gw
def wsX3_turned : List Cond := .code yX3_turned cX3_turned 5 (Option.some Jvm.ClassFile.FieldType.int) :: gw
def wsX3_cuts : List Cond := .code yX3_cuts cX3_cuts 1 (Option.some Jvm.ClassFile.FieldType.int) :: gw
def wsX3_clear : List Cond := .code yX3_clear cX3_clear 2 (Option.none : Option Jvm.ClassFile.FieldType) :: gw
def wsX3_value : List Cond := .code yX3_value cX3_value 7 (Option.some Jvm.ClassFile.FieldType.long) :: gw
def wsX3_hasPole : List Cond := .code yX3_hasPole cX3_hasPole 2 (Option.some Jvm.ClassFile.FieldType.boolean) :: gw
def wsX3_raise : List Cond := .code yX3_raise cX3_raise 2 (Option.some Jvm.ClassFile.FieldType.int) :: gw
def wsX3_start : List Cond := .code yX3_start cX3_start 2 (Option.none : Option Jvm.ClassFile.FieldType) :: gw
def wsX3_more : List Cond := .code yX3_more cX3_more 15 (Option.none : Option Jvm.ClassFile.FieldType) :: gw
def wsX3_integral : List Cond := .code yX3_integral cX3_integral 10 (Option.some Jvm.ClassFile.FieldType.boolean) :: gw
def wsX3_isThere : List Cond := .code yX3_isThere cX3_isThere 6 (Option.some Jvm.ClassFile.FieldType.boolean) :: gw
def wsX3_putEnd : List Cond := .code yX3_putEnd cX3_putEnd 8 (Option.none : Option Jvm.ClassFile.FieldType) :: gw
def wsX3_putLogs : List Cond := .code yX3_putLogs cX3_putLogs 5 (Option.none : Option Jvm.ClassFile.FieldType) :: gw
def wsX3_primeOf : List Cond := .code yX3_primeOf cX3_primeOf 1 (Option.some Jvm.ClassFile.FieldType.int) :: gw
def wsX3_fraction : List Cond := .code yX3_fraction cX3_fraction 2 (Option.some Jvm.ClassFile.FieldType.long) :: gw
def wsX3_logarithm : List Cond := .code yX3_logarithm cX3_logarithm 3 (Option.some Jvm.ClassFile.FieldType.int) :: gw
def wsX3_symmetry : List Cond := .code yX3_symmetry cX3_symmetry 4 (Option.some Jvm.ClassFile.FieldType.int) :: gw
def wsX3_pieceAt : List Cond := .code yX3_pieceAt cX3_pieceAt 3 (Option.some Jvm.ClassFile.FieldType.int) :: gw
def wsX3_isTurned : List Cond := .code yX3_isTurned cX3_isTurned 5 (Option.some Jvm.ClassFile.FieldType.boolean) :: gw
theorem se_X0_turnRound : Cond.selects RX0 yX0_turnRound yX0_turnRound ∈ gw := gw_mem 0 (by decide +kernel) rfl
theorem se_X2_isMirrored : Cond.selects RX2 yX2_isMirrored yX2_isMirrored ∈ gw := gw_mem 1 (by decide +kernel) rfl
theorem se_X2_pieceAt : Cond.selects RX2 yX2_pieceAt yX2_pieceAt ∈ gw := gw_mem 2 (by decide +kernel) rfl
theorem se_X0_mirrors : Cond.selects RX0 yX0_mirrors yX0_mirrors ∈ gw := gw_mem 3 (by decide +kernel) rfl
theorem se_X0_hasPole : Cond.selects RX0 yX0_hasPole yX0_hasPole ∈ gw := gw_mem 4 (by decide +kernel) rfl
theorem se_X0_wipe : Cond.selects RX0 yX0_wipe yX0_wipe ∈ gw := gw_mem 5 (by decide +kernel) rfl
theorem se_X2_isCut : Cond.selects RX2 yX2_isCut yX2_isCut ∈ gw := gw_mem 6 (by decide +kernel) rfl
theorem se_X0_become : Cond.selects RX0 yX0_become yX0_become ∈ gw := gw_mem 8 (by decide +kernel) rfl
theorem se_X0_powersAt : Cond.selects RX0 yX0_powersAt yX0_powersAt ∈ gw := gw_mem 9 (by decide +kernel) rfl
theorem se_X0_abovePoleAt : Cond.selects RX0 yX0_abovePoleAt yX0_abovePoleAt ∈ gw := gw_mem 10 (by decide +kernel) rfl
theorem se_X2_addParts : Cond.selects RX2 yX2_addParts yX2_addParts ∈ gw := gw_mem 11 (by decide +kernel) rfl
theorem se_X1_wipe : Cond.selects RX1 yX1_wipe yX1_wipe ∈ gw := gw_mem 12 (by decide +kernel) rfl
theorem se_X2_leftBorder : Cond.selects RX2 yX2_leftBorder yX2_leftBorder ∈ gw := gw_mem 13 (by decide +kernel) rfl
theorem se_X2_rightBorder : Cond.selects RX2 yX2_rightBorder yX2_rightBorder ∈ gw := gw_mem 14 (by decide +kernel) rfl
theorem se_X0_diverges : Cond.selects RX0 yX0_diverges yX0_diverges ∈ gw := gw_mem 15 (by decide +kernel) rfl
theorem se_X0_hasEndlessTail : Cond.selects RX0 yX0_hasEndlessTail yX0_hasEndlessTail ∈ gw := gw_mem 16 (by decide +kernel) rfl
theorem se_X1_addPrimitive : Cond.selects RX1 yX1_addPrimitive yX1_addPrimitive ∈ gw := gw_mem 17 (by decide +kernel) rfl
theorem se_X0_twelfthsOfPowersPrimitive : Cond.selects RX0 yX0_twelfthsOfPowersPrimitive yX0_twelfthsOfPowersPrimitive ∈ gw := gw_mem 18 (by decide +kernel) rfl
theorem se_X1_addLogarithm : Cond.selects RX1 yX1_addLogarithm yX1_addLogarithm ∈ gw := gw_mem 19 (by decide +kernel) rfl
theorem se_X3_turned : Cond.selects RX3 yX3_turned yX3_turned ∈ gw := gw_mem 20 (by decide +kernel) rfl
theorem se_X3_hasPole : Cond.selects RX3 yX3_hasPole yX3_hasPole ∈ gw := gw_mem 21 (by decide +kernel) rfl
theorem se_X3_raise : Cond.selects RX3 yX3_raise yX3_raise ∈ gw := gw_mem 22 (by decide +kernel) rfl
theorem se_X3_start : Cond.selects RX3 yX3_start yX3_start ∈ gw := gw_mem 23 (by decide +kernel) rfl
theorem se_X3_more : Cond.selects RX3 yX3_more yX3_more ∈ gw := gw_mem 24 (by decide +kernel) rfl
theorem se_X3_isThere : Cond.selects RX3 yX3_isThere yX3_isThere ∈ gw := gw_mem 25 (by decide +kernel) rfl
theorem se_X3_putEnd : Cond.selects RX3 yX3_putEnd yX3_putEnd ∈ gw := gw_mem 26 (by decide +kernel) rfl
theorem se_X3_putLogs : Cond.selects RX3 yX3_putLogs yX3_putLogs ∈ gw := gw_mem 27 (by decide +kernel) rfl
theorem se_X3_pieceAt : Cond.selects RX3 yX3_pieceAt yX3_pieceAt ∈ gw := gw_mem 28 (by decide +kernel) rfl
theorem se_X3_isTurned : Cond.selects RX3 yX3_isTurned yX3_isTurned ∈ gw := gw_mem 29 (by decide +kernel) rfl
theorem ini_L : Cond.initialized RL ∈ gw := gw_mem 30 (by decide +kernel) rfl
theorem ini_X2 : Cond.initialized RX2 ∈ gw := gw_mem 31 (by decide +kernel) rfl
theorem ini_X1 : Cond.initialized RX1 ∈ gw := gw_mem 32 (by decide +kernel) rfl
theorem ini_X0 : Cond.initialized RX0 ∈ gw := gw_mem 33 (by decide +kernel) rfl
theorem ini_X3 : Cond.initialized RX3 ∈ gw := gw_mem 34 (by decide +kernel) rfl
theorem ini_Throwable : Cond.initialized "java/lang/Throwable" ∈ gw := gw_mem 35 (by decide +kernel) rfl
theorem ini_Exception : Cond.initialized "java/lang/Exception" ∈ gw := gw_mem 36 (by decide +kernel) rfl
theorem ini_RuntimeException : Cond.initialized "java/lang/RuntimeException" ∈ gw := gw_mem 37 (by decide +kernel) rfl
theorem ini_IllegalArgumentException : Cond.initialized "java/lang/IllegalArgumentException" ∈ gw := gw_mem 38 (by decide +kernel) rfl
theorem ini_IllegalStateException : Cond.initialized "java/lang/IllegalStateException" ∈ gw := gw_mem 39 (by decide +kernel) rfl
theorem ini_J10 : Cond.initialized "java/lang/System" ∈ gw := gw_mem 40 (by decide +kernel) rfl
theorem ini_IndexOutOfBoundsException : Cond.initialized "java/lang/IndexOutOfBoundsException" ∈ gw := gw_mem 41 (by decide +kernel) rfl
theorem ini_J9 : Cond.initialized "java/lang/Math" ∈ gw := gw_mem 42 (by decide +kernel) rfl
theorem ini_J7 : Cond.initialized RJ7 ∈ gw := gw_mem 43 (by decide +kernel) rfl
theorem cl_L_8 : Cond.classLink RL 8 RX2 ∈ gw := gw_mem 44 (by decide +kernel) rfl
theorem ib_X2 : Cond.instantiable RX2 5 ∈ gw := gw_mem 45 (by decide +kernel) rfl
theorem ml_L_49 : Cond.methodLink RL 49 yX2_init ∈ gw := gw_mem 46 (by decide +kernel) rfl
theorem im_X2_init : Cond.instanceMethod yX2_init ∈ gw := gw_mem 47 (by decide +kernel) rfl
theorem co_X2_init : Cond.code yX2_init cX2_init 2 (Option.none : Option Jvm.ClassFile.FieldType) ∈ gw := gw_mem 48 (by decide +kernel) rfl
theorem ml_X2_1 : Cond.methodLink RX2 1 objectInit ∈ gw := gw_mem 49 (by decide +kernel) rfl
theorem im_Object_init : Cond.instanceMethod objectInit ∈ gw := gw_mem 50 (by decide +kernel) rfl
theorem co_Object_init : Cond.code objectInit ⟨#[0xb1]⟩ 1 none ∈ gw := gw_mem 51 (by decide +kernel) rfl
theorem cl_X2_13 : Cond.classLink RX2 13 RX0 ∈ gw := gw_mem 52 (by decide +kernel) rfl
theorem cl_X2_19 : Cond.classLink RX2 19 RX1 ∈ gw := gw_mem 54 (by decide +kernel) rfl
theorem ib_X1 : Cond.instantiable RX1 2 ∈ gw := gw_mem 55 (by decide +kernel) rfl
theorem mn_X2_21 : Cond.methodLinkNest RX2 21 yX1_init RX2 ∈ gn := gn_mem 56 (by decide +kernel) rfl
theorem im_X1_init : Cond.instanceMethod yX1_init ∈ gw := gw_mem 57 (by decide +kernel) rfl
theorem co_X1_init : Cond.code yX1_init cX1_init 1 (Option.none : Option Jvm.ClassFile.FieldType) ∈ gw := gw_mem 58 (by decide +kernel) rfl
theorem ml_X1_3 : Cond.methodLink RX1 3 objectInit ∈ gw := gw_mem 59 (by decide +kernel) rfl
theorem fn_X1_15 : Cond.fieldLinkNest RX1 15 RX2 "PRIMES" "[I" RX2 ∈ gn := gn_mem 60 (by decide +kernel) rfl
theorem fl_X1_9 : Cond.fieldLink RX1 9 RX1 "above" "J" ∈ gw := gw_mem 62 (by decide +kernel) rfl
theorem fn_X2_124 : Cond.fieldLinkNest RX2 124 RX1 "above" "J" RX2 ∈ gn := gn_mem 63 (by decide +kernel) rfl
theorem fl_X1_19 : Cond.fieldLink RX1 19 RX1 "logarithms" "[I" ∈ gw := gw_mem 64 (by decide +kernel) rfl
theorem fn_X2_133 : Cond.fieldLinkNest RX2 133 RX1 "logarithms" "[I" RX2 ∈ gn := gn_mem 65 (by decide +kernel) rfl
theorem ac_int : Cond.arrayClass .int ∈ gw := gw_mem 71 (by decide +kernel) rfl
theorem ib_X0 : Cond.instantiable RX0 1 ∈ gw := gw_mem 72 (by decide +kernel) rfl
theorem mn_X2_34 : Cond.methodLinkNest RX2 34 yX0_init RX2 ∈ gn := gn_mem 73 (by decide +kernel) rfl
theorem im_X0_init : Cond.instanceMethod yX0_init ∈ gw := gw_mem 74 (by decide +kernel) rfl
theorem co_X0_init : Cond.code yX0_init cX0_init 1 (Option.none : Option Jvm.ClassFile.FieldType) ∈ gw := gw_mem 75 (by decide +kernel) rfl
theorem ml_X0_3 : Cond.methodLink RX0 3 objectInit ∈ gw := gw_mem 76 (by decide +kernel) rfl
theorem fl_X0_9 : Cond.fieldLink RX0 9 RX0 "numbers" "[I" ∈ gw := gw_mem 77 (by decide +kernel) rfl
theorem fn_X1_40 : Cond.fieldLinkNest RX1 40 RX0 "numbers" "[I" RX2 ∈ gn := gn_mem 78 (by decide +kernel) rfl
theorem fn_X2_74 : Cond.fieldLinkNest RX2 74 RX0 "numbers" "[I" RX2 ∈ gn := gn_mem 79 (by decide +kernel) rfl
theorem fl_X2_9 : Cond.fieldLink RX2 9 RX2 "places" "[I" ∈ gw := gw_mem 83 (by decide +kernel) rfl
theorem fl_X2_15 : Cond.fieldLink RX2 15 RX2 "pieces" "[LDefiniteRows$Piece;" ∈ gw := gw_mem 84 (by decide +kernel) rfl
theorem fl_X2_22 : Cond.fieldLink RX2 22 RX2 "sum" "LDefiniteRows$Sum;" ∈ gw := gw_mem 85 (by decide +kernel) rfl
theorem fl_X2_26 : Cond.fieldLink RX2 26 RX2 "count" "I" ∈ gw := gw_mem 86 (by decide +kernel) rfl
theorem fl_X2_30 : Cond.fieldLink RX2 30 RX2 "known" "Z" ∈ gw := gw_mem 87 (by decide +kernel) rfl
theorem ml_L_78 : Cond.methodLink RL 78 yX2_mirror ∈ gw := gw_mem 99 (by decide +kernel) rfl
theorem im_X2_mirror : Cond.instanceMethod yX2_mirror ∈ gw := gw_mem 100 (by decide +kernel) rfl
theorem se_X2_mirror : Cond.selects RX2 yX2_mirror yX2_mirror ∈ gw := gw_mem 101 (by decide +kernel) rfl
theorem co_X2_mirror : Cond.code yX2_mirror cX2_mirror 4 (Option.none : Option Jvm.ClassFile.FieldType) ∈ gw := gw_mem 102 (by decide +kernel) rfl
theorem mn_X2_77 : Cond.methodLinkNest RX2 77 yX0_turnRound RX2 ∈ gn := gn_mem 103 (by decide +kernel) rfl
theorem im_X0_turnRound : Cond.instanceMethod yX0_turnRound ∈ gw := gw_mem 105 (by decide +kernel) rfl
theorem co_X0_turnRound : Cond.code yX0_turnRound cX0_turnRound 2 (Option.none : Option Jvm.ClassFile.FieldType) ∈ gw := gw_mem 106 (by decide +kernel) rfl
theorem fn_X0_27 : Cond.fieldLinkNest RX0 27 RX2 "MIRROR_SIGNS" "[I" RX2 ∈ gn := gn_mem 107 (by decide +kernel) rfl
theorem ml_L_94 : Cond.methodLink RL 94 yX2_symmetry ∈ gw := gw_mem 109 (by decide +kernel) rfl
theorem im_X2_symmetry : Cond.instanceMethod yX2_symmetry ∈ gw := gw_mem 110 (by decide +kernel) rfl
theorem se_X2_symmetry : Cond.selects RX2 yX2_symmetry yX2_symmetry ∈ gw := gw_mem 111 (by decide +kernel) rfl
theorem co_X2_symmetry : Cond.code yX2_symmetry cX2_symmetry 3 (Option.some Jvm.ClassFile.FieldType.int) ∈ gw := gw_mem 112 (by decide +kernel) rfl
theorem ml_X2_138 : Cond.methodLink RX2 138 yX2_isMirrored ∈ gw := gw_mem 113 (by decide +kernel) rfl
theorem im_X2_isMirrored : Cond.instanceMethod yX2_isMirrored ∈ gw := gw_mem 115 (by decide +kernel) rfl
theorem co_X2_isMirrored : Cond.code yX2_isMirrored cX2_isMirrored 3 (Option.some Jvm.ClassFile.FieldType.boolean) ∈ gw := gw_mem 116 (by decide +kernel) rfl
theorem ml_X2_55 : Cond.methodLink RX2 55 yX2_pieceAt ∈ gw := gw_mem 117 (by decide +kernel) rfl
theorem im_X2_pieceAt : Cond.instanceMethod yX2_pieceAt ∈ gw := gw_mem 119 (by decide +kernel) rfl
theorem co_X2_pieceAt : Cond.code yX2_pieceAt cX2_pieceAt 4 (Option.some Jvm.ClassFile.FieldType.int) ∈ gw := gw_mem 120 (by decide +kernel) rfl
theorem mn_X2_161 : Cond.methodLinkNest RX2 161 yX0_mirrors RX2 ∈ gn := gn_mem 121 (by decide +kernel) rfl
theorem im_X0_mirrors : Cond.instanceMethod yX0_mirrors ∈ gw := gw_mem 123 (by decide +kernel) rfl
theorem co_X0_mirrors : Cond.code yX0_mirrors cX0_mirrors 4 (Option.some Jvm.ClassFile.FieldType.boolean) ∈ gw := gw_mem 124 (by decide +kernel) rfl
theorem ml_X0_30 : Cond.methodLink RX0 30 yX0_hasPole ∈ gw := gw_mem 125 (by decide +kernel) rfl
theorem im_X0_hasPole : Cond.instanceMethod yX0_hasPole ∈ gw := gw_mem 127 (by decide +kernel) rfl
theorem co_X0_hasPole : Cond.code yX0_hasPole cX0_hasPole 1 (Option.some Jvm.ClassFile.FieldType.boolean) ∈ gw := gw_mem 128 (by decide +kernel) rfl
theorem ml_L_98 : Cond.methodLink RL 98 yX2_cuts ∈ gw := gw_mem 129 (by decide +kernel) rfl
theorem im_X2_cuts : Cond.instanceMethod yX2_cuts ∈ gw := gw_mem 130 (by decide +kernel) rfl
theorem se_X2_cuts : Cond.selects RX2 yX2_cuts yX2_cuts ∈ gw := gw_mem 131 (by decide +kernel) rfl
theorem co_X2_cuts : Cond.code yX2_cuts cX2_cuts 1 (Option.some Jvm.ClassFile.FieldType.int) ∈ gw := gw_mem 132 (by decide +kernel) rfl
theorem ml_L_102 : Cond.methodLink RL 102 yX2_clear ∈ gw := gw_mem 133 (by decide +kernel) rfl
theorem im_X2_clear : Cond.instanceMethod yX2_clear ∈ gw := gw_mem 134 (by decide +kernel) rfl
theorem se_X2_clear : Cond.selects RX2 yX2_clear yX2_clear ∈ gw := gw_mem 135 (by decide +kernel) rfl
theorem co_X2_clear : Cond.code yX2_clear cX2_clear 1 (Option.none : Option Jvm.ClassFile.FieldType) ∈ gw := gw_mem 136 (by decide +kernel) rfl
theorem mn_X2_141 : Cond.methodLinkNest RX2 141 yX0_wipe RX2 ∈ gn := gn_mem 137 (by decide +kernel) rfl
theorem im_X0_wipe : Cond.instanceMethod yX0_wipe ∈ gw := gw_mem 139 (by decide +kernel) rfl
theorem co_X0_wipe : Cond.code yX0_wipe cX0_wipe 1 (Option.none : Option Jvm.ClassFile.FieldType) ∈ gw := gw_mem 140 (by decide +kernel) rfl
theorem ml_X0_15 : Cond.methodLink RX0 15 yJ7_fill ∈ gw := gw_mem 141 (by decide +kernel) rfl
theorem sm_J7_fill : Cond.static yJ7_fill ∈ gw := gw_mem 142 (by decide +kernel) rfl
theorem co_J7_fill : Cond.code yJ7_fill cJ7_fill 4 (Option.none : Option Jvm.ClassFile.FieldType) ∈ gw := gw_mem 143 (by decide +kernel) rfl
theorem ml_L_53 : Cond.methodLink RL 53 yL_cut ∈ gw := gw_mem 144 (by decide +kernel) rfl
theorem sm_L_cut : Cond.static yL_cut ∈ gw := gw_mem 145 (by decide +kernel) rfl
theorem co_L_cut : Cond.codeWith yL_cut cL_cut 4 (Option.some Jvm.ClassFile.FieldType.int) [((0 : Nat), (9 : Nat), (12 : Nat), (13 : Nat)), ((0 : Nat), (9 : Nat), (15 : Nat), (15 : Nat))] ∈ gw := gw_mem 146 (by decide +kernel) rfl
theorem cl_L_13 : Cond.classLink RL 13 "java/lang/IllegalArgumentException" ∈ gw := gw_mem 147 (by decide +kernel) rfl
theorem cl_L_15 : Cond.classLink RL 15 "java/lang/IllegalStateException" ∈ gw := gw_mem 148 (by decide +kernel) rfl
theorem ml_L_7 : Cond.methodLink RL 7 yX2_cut ∈ gw := gw_mem 149 (by decide +kernel) rfl
theorem im_X2_cut : Cond.instanceMethod yX2_cut ∈ gw := gw_mem 150 (by decide +kernel) rfl
theorem se_X2_cut : Cond.selects RX2 yX2_cut yX2_cut ∈ gw := gw_mem 151 (by decide +kernel) rfl
theorem co_X2_cut : Cond.code yX2_cut cX2_cut 4 (Option.some Jvm.ClassFile.FieldType.int) ∈ gw := gw_mem 152 (by decide +kernel) rfl
theorem ml_X2_35 : Cond.methodLink RX2 35 yX2_isWithin ∈ gw := gw_mem 153 (by decide +kernel) rfl
theorem sm_X2_isWithin : Cond.static yX2_isWithin ∈ gw := gw_mem 154 (by decide +kernel) rfl
theorem co_X2_isWithin : Cond.code yX2_isWithin cX2_isWithin 2 (Option.some Jvm.ClassFile.FieldType.boolean) ∈ gw := gw_mem 155 (by decide +kernel) rfl
theorem ml_X2_39 : Cond.methodLink RX2 39 yX2_isCut ∈ gw := gw_mem 156 (by decide +kernel) rfl
theorem im_X2_isCut : Cond.instanceMethod yX2_isCut ∈ gw := gw_mem 158 (by decide +kernel) rfl
theorem co_X2_isCut : Cond.code yX2_isCut cX2_isCut 3 (Option.some Jvm.ClassFile.FieldType.boolean) ∈ gw := gw_mem 159 (by decide +kernel) rfl
theorem cl_X2_43 : Cond.classLink RX2 43 "java/lang/IllegalArgumentException" ∈ gw := gw_mem 160 (by decide +kernel) rfl
theorem ca_IllegalArgumentException_IllegalArgumentException : Cond.castable "java/lang/IllegalArgumentException" "java/lang/IllegalArgumentException" ∈ gn := gn_mem 162 (by decide +kernel) rfl
theorem ac_byte : Cond.arrayClass .byte ∈ gw := gw_mem 227 (by decide +kernel) rfl
theorem cl_X2_50 : Cond.classLink RX2 50 "java/lang/IllegalStateException" ∈ gw := gw_mem 228 (by decide +kernel) rfl
theorem ca_IllegalStateException_IllegalStateException : Cond.castable "java/lang/IllegalStateException" "java/lang/IllegalStateException" ∈ gn := gn_mem 230 (by decide +kernel) rfl
theorem mn_X2_59 : Cond.methodLinkNest RX2 59 yX0_become RX2 ∈ gn := gn_mem 244 (by decide +kernel) rfl
theorem im_X0_become : Cond.instanceMethod yX0_become ∈ gw := gw_mem 246 (by decide +kernel) rfl
theorem co_X0_become : Cond.code yX0_become cX0_become 2 (Option.none : Option Jvm.ClassFile.FieldType) ∈ gw := gw_mem 247 (by decide +kernel) rfl
theorem ml_X0_21 : Cond.methodLink RX0 21 arraycopyName ∈ gw := gw_mem 248 (by decide +kernel) rfl
theorem sm_arraycopy : Cond.static arraycopyName ∈ gw := gw_mem 249 (by decide +kernel) rfl
theorem na_arraycopy : Cond.native arraycopyName ∈ gw := gw_mem 250 (by decide +kernel) rfl
theorem ml_L_63 : Cond.methodLink RL 63 yL_join ∈ gw := gw_mem 251 (by decide +kernel) rfl
theorem sm_L_join : Cond.static yL_join ∈ gw := gw_mem 252 (by decide +kernel) rfl
theorem co_L_join : Cond.codeWith yL_join cL_join 3 (Option.some Jvm.ClassFile.FieldType.int) [((0 : Nat), (5 : Nat), (8 : Nat), (21 : Nat))] ∈ gw := gw_mem 253 (by decide +kernel) rfl
theorem cl_L_21 : Cond.classLink RL 21 "java/lang/IndexOutOfBoundsException" ∈ gw := gw_mem 254 (by decide +kernel) rfl
theorem ml_L_17 : Cond.methodLink RL 17 yX2_join ∈ gw := gw_mem 255 (by decide +kernel) rfl
theorem im_X2_join : Cond.instanceMethod yX2_join ∈ gw := gw_mem 256 (by decide +kernel) rfl
theorem se_X2_join : Cond.selects RX2 yX2_join yX2_join ∈ gw := gw_mem 257 (by decide +kernel) rfl
theorem co_X2_join : Cond.code yX2_join cX2_join 3 (Option.none : Option Jvm.ClassFile.FieldType) ∈ gw := gw_mem 258 (by decide +kernel) rfl
theorem cl_X2_63 : Cond.classLink RX2 63 "java/lang/IndexOutOfBoundsException" ∈ gw := gw_mem 259 (by decide +kernel) rfl
theorem ca_IndexOutOfBoundsException_IndexOutOfBoundsException : Cond.castable "java/lang/IndexOutOfBoundsException" "java/lang/IndexOutOfBoundsException" ∈ gn := gn_mem 261 (by decide +kernel) rfl
theorem ml_L_67 : Cond.methodLink RL 67 yL_put ∈ gw := gw_mem 275 (by decide +kernel) rfl
theorem sm_L_put : Cond.static yL_put ∈ gw := gw_mem 276 (by decide +kernel) rfl
theorem co_L_put : Cond.codeWith yL_put cL_put 6 (Option.some Jvm.ClassFile.FieldType.int) [((0 : Nat), (19 : Nat), (22 : Nat), (21 : Nat)), ((0 : Nat), (19 : Nat), (26 : Nat), (13 : Nat))] ∈ gw := gw_mem 277 (by decide +kernel) rfl
theorem ml_L_23 : Cond.methodLink RL 23 yX2_put ∈ gw := gw_mem 278 (by decide +kernel) rfl
theorem im_X2_put : Cond.instanceMethod yX2_put ∈ gw := gw_mem 279 (by decide +kernel) rfl
theorem se_X2_put : Cond.selects RX2 yX2_put yX2_put ∈ gw := gw_mem 280 (by decide +kernel) rfl
theorem co_X2_put : Cond.code yX2_put cX2_put 6 (Option.some Jvm.ClassFile.FieldType.boolean) ∈ gw := gw_mem 281 (by decide +kernel) rfl
theorem ml_L_71 : Cond.methodLink RL 71 yL_at ∈ gw := gw_mem 285 (by decide +kernel) rfl
theorem sm_L_at : Cond.static yL_at ∈ gw := gw_mem 286 (by decide +kernel) rfl
theorem co_L_at : Cond.codeWith yL_at cL_at 5 (Option.some Jvm.ClassFile.FieldType.int) [((0 : Nat), (10 : Nat), (13 : Nat), (21 : Nat)), ((0 : Nat), (10 : Nat), (17 : Nat), (13 : Nat))] ∈ gw := gw_mem 287 (by decide +kernel) rfl
theorem ml_L_27 : Cond.methodLink RL 27 yX2_at ∈ gw := gw_mem 288 (by decide +kernel) rfl
theorem im_X2_at : Cond.instanceMethod yX2_at ∈ gw := gw_mem 289 (by decide +kernel) rfl
theorem se_X2_at : Cond.selects RX2 yX2_at yX2_at ∈ gw := gw_mem 290 (by decide +kernel) rfl
theorem co_X2_at : Cond.code yX2_at cX2_at 3 (Option.some Jvm.ClassFile.FieldType.int) ∈ gw := gw_mem 291 (by decide +kernel) rfl
theorem ml_L_75 : Cond.methodLink RL 75 yL_place ∈ gw := gw_mem 292 (by decide +kernel) rfl
theorem sm_L_place : Cond.static yL_place ∈ gw := gw_mem 293 (by decide +kernel) rfl
theorem co_L_place : Cond.codeWith yL_place cL_place 4 (Option.some Jvm.ClassFile.FieldType.int) [((0 : Nat), (9 : Nat), (12 : Nat), (21 : Nat))] ∈ gw := gw_mem 294 (by decide +kernel) rfl
theorem ml_L_31 : Cond.methodLink RL 31 yX2_place ∈ gw := gw_mem 295 (by decide +kernel) rfl
theorem im_X2_place : Cond.instanceMethod yX2_place ∈ gw := gw_mem 296 (by decide +kernel) rfl
theorem se_X2_place : Cond.selects RX2 yX2_place yX2_place ∈ gw := gw_mem 297 (by decide +kernel) rfl
theorem co_X2_place : Cond.code yX2_place cX2_place 2 (Option.some Jvm.ClassFile.FieldType.int) ∈ gw := gw_mem 298 (by decide +kernel) rfl
theorem ml_L_82 : Cond.methodLink RL 82 yL_value ∈ gw := gw_mem 299 (by decide +kernel) rfl
theorem sm_L_value : Cond.static yL_value ∈ gw := gw_mem 300 (by decide +kernel) rfl
theorem co_L_value : Cond.codeWith yL_value cL_value 5 (Option.some Jvm.ClassFile.FieldType.int) [((0 : Nat), (9 : Nat), (12 : Nat), (13 : Nat)), ((0 : Nat), (9 : Nat), (16 : Nat), (15 : Nat))] ∈ gw := gw_mem 301 (by decide +kernel) rfl
theorem ml_L_34 : Cond.methodLink RL 34 yX2_value ∈ gw := gw_mem 302 (by decide +kernel) rfl
theorem im_X2_value : Cond.instanceMethod yX2_value ∈ gw := gw_mem 303 (by decide +kernel) rfl
theorem se_X2_value : Cond.selects RX2 yX2_value yX2_value ∈ gw := gw_mem 304 (by decide +kernel) rfl
theorem co_X2_value : Cond.code yX2_value cX2_value 8 (Option.some Jvm.ClassFile.FieldType.long) ∈ gw := gw_mem 305 (by decide +kernel) rfl
theorem ml_X2_80 : Cond.methodLink RX2 80 yX2_isPart ∈ gw := gw_mem 306 (by decide +kernel) rfl
theorem sm_X2_isPart : Cond.static yX2_isPart ∈ gw := gw_mem 307 (by decide +kernel) rfl
theorem co_X2_isPart : Cond.code yX2_isPart cX2_isPart 1 (Option.some Jvm.ClassFile.FieldType.boolean) ∈ gw := gw_mem 308 (by decide +kernel) rfl
theorem mn_X2_85 : Cond.methodLinkNest RX2 85 yX0_hasPole RX2 ∈ gn := gn_mem 310 (by decide +kernel) rfl
theorem mn_X2_89 : Cond.methodLinkNest RX2 89 yX0_powersAt RX2 ∈ gn := gn_mem 311 (by decide +kernel) rfl
theorem im_X0_powersAt : Cond.instanceMethod yX0_powersAt ∈ gw := gw_mem 313 (by decide +kernel) rfl
theorem co_X0_powersAt : Cond.code yX0_powersAt cX0_powersAt 3 (Option.some Jvm.ClassFile.FieldType.long) ∈ gw := gw_mem 314 (by decide +kernel) rfl
theorem ml_X2_93 : Cond.methodLink RX2 93 yX2_lowestTerms ∈ gw := gw_mem 315 (by decide +kernel) rfl
theorem sm_X2_lowestTerms : Cond.static yX2_lowestTerms ∈ gw := gw_mem 316 (by decide +kernel) rfl
theorem co_X2_lowestTerms : Cond.code yX2_lowestTerms cX2_lowestTerms 7 (Option.some Jvm.ClassFile.FieldType.long) ∈ gw := gw_mem 317 (by decide +kernel) rfl
theorem ml_X2_165 : Cond.methodLink RX2 165 yX2_greatestDivisor ∈ gw := gw_mem 318 (by decide +kernel) rfl
theorem sm_X2_greatestDivisor : Cond.static yX2_greatestDivisor ∈ gw := gw_mem 319 (by decide +kernel) rfl
theorem co_X2_greatestDivisor : Cond.code yX2_greatestDivisor cX2_greatestDivisor 11 (Option.some Jvm.ClassFile.FieldType.long) ∈ gw := gw_mem 320 (by decide +kernel) rfl
theorem ml_X2_169 : Cond.methodLink RX2 169 Lib.MathLoose.abs_long.x ∈ gw := gw_mem 321 (by decide +kernel) rfl
theorem sm_Mabs_long : Cond.static Lib.MathLoose.abs_long.x ∈ gw := gw_mem 322 (by decide +kernel) rfl
theorem co_Mabs_long : Cond.code Lib.MathLoose.abs_long.x Lib.MathLoose.abs_long.code 2 (some .long) ∈ gw := gw_mem 323 (by decide +kernel) rfl
theorem mn_X2_99 : Cond.methodLinkNest RX2 99 yX0_abovePoleAt RX2 ∈ gn := gn_mem 325 (by decide +kernel) rfl
theorem im_X0_abovePoleAt : Cond.instanceMethod yX0_abovePoleAt ∈ gw := gw_mem 327 (by decide +kernel) rfl
theorem co_X0_abovePoleAt : Cond.code yX0_abovePoleAt cX0_abovePoleAt 3 (Option.some Jvm.ClassFile.FieldType.long) ∈ gw := gw_mem 328 (by decide +kernel) rfl
theorem ml_L_85 : Cond.methodLink RL 85 yL_integral ∈ gw := gw_mem 329 (by decide +kernel) rfl
theorem sm_L_integral : Cond.static yL_integral ∈ gw := gw_mem 330 (by decide +kernel) rfl
theorem co_L_integral : Cond.codeWith yL_integral cL_integral 5 (Option.some Jvm.ClassFile.FieldType.int) [((0 : Nat), (17 : Nat), (20 : Nat), (13 : Nat))] ∈ gw := gw_mem 331 (by decide +kernel) rfl
theorem ml_L_38 : Cond.methodLink RL 38 yX2_integral ∈ gw := gw_mem 332 (by decide +kernel) rfl
theorem im_X2_integral : Cond.instanceMethod yX2_integral ∈ gw := gw_mem 333 (by decide +kernel) rfl
theorem se_X2_integral : Cond.selects RX2 yX2_integral yX2_integral ∈ gw := gw_mem 334 (by decide +kernel) rfl
theorem co_X2_integral : Cond.code yX2_integral cX2_integral 3 (Option.some Jvm.ClassFile.FieldType.boolean) ∈ gw := gw_mem 335 (by decide +kernel) rfl
theorem ml_X2_102 : Cond.methodLink RX2 102 yX2_isEnd ∈ gw := gw_mem 336 (by decide +kernel) rfl
theorem sm_X2_isEnd : Cond.static yX2_isEnd ∈ gw := gw_mem 337 (by decide +kernel) rfl
theorem co_X2_isEnd : Cond.code yX2_isEnd cX2_isEnd 1 (Option.some Jvm.ClassFile.FieldType.boolean) ∈ gw := gw_mem 338 (by decide +kernel) rfl
theorem ml_X2_144 : Cond.methodLink RX2 144 yX2_isEndless ∈ gw := gw_mem 339 (by decide +kernel) rfl
theorem sm_X2_isEndless : Cond.static yX2_isEndless ∈ gw := gw_mem 340 (by decide +kernel) rfl
theorem co_X2_isEndless : Cond.code yX2_isEndless cX2_isEndless 1 (Option.some Jvm.ClassFile.FieldType.boolean) ∈ gw := gw_mem 341 (by decide +kernel) rfl
theorem ml_X2_107 : Cond.methodLink RX2 107 Lib.Math.min.name ∈ gw := gw_mem 343 (by decide +kernel) rfl
theorem sm_Mmin : Cond.static Lib.Math.min.name ∈ gw := gw_mem 344 (by decide +kernel) rfl
theorem co_Mmin : Cond.code Lib.Math.min.name Lib.Math.min.code 2 (some .int) ∈ gw := gw_mem 345 (by decide +kernel) rfl
theorem ml_X2_113 : Cond.methodLink RX2 113 Lib.Math.max.name ∈ gw := gw_mem 346 (by decide +kernel) rfl
theorem sm_Mmax : Cond.static Lib.Math.max.name ∈ gw := gw_mem 347 (by decide +kernel) rfl
theorem co_Mmax : Cond.code Lib.Math.max.name Lib.Math.max.code 2 (some .int) ∈ gw := gw_mem 348 (by decide +kernel) rfl
theorem ml_X2_116 : Cond.methodLink RX2 116 yX2_addParts ∈ gw := gw_mem 349 (by decide +kernel) rfl
theorem im_X2_addParts : Cond.instanceMethod yX2_addParts ∈ gw := gw_mem 351 (by decide +kernel) rfl
theorem co_X2_addParts : Cond.code yX2_addParts cX2_addParts 7 (Option.some Jvm.ClassFile.FieldType.boolean) ∈ gw := gw_mem 352 (by decide +kernel) rfl
theorem mn_X2_147 : Cond.methodLinkNest RX2 147 yX1_wipe RX2 ∈ gn := gn_mem 353 (by decide +kernel) rfl
theorem im_X1_wipe : Cond.instanceMethod yX1_wipe ∈ gw := gw_mem 355 (by decide +kernel) rfl
theorem co_X1_wipe : Cond.code yX1_wipe cX1_wipe 1 (Option.none : Option Jvm.ClassFile.FieldType) ∈ gw := gw_mem 356 (by decide +kernel) rfl
theorem ml_X1_22 : Cond.methodLink RX1 22 yJ7_fill ∈ gw := gw_mem 357 (by decide +kernel) rfl
theorem ml_X2_148 : Cond.methodLink RX2 148 yX2_leftBorder ∈ gw := gw_mem 358 (by decide +kernel) rfl
theorem im_X2_leftBorder : Cond.instanceMethod yX2_leftBorder ∈ gw := gw_mem 360 (by decide +kernel) rfl
theorem co_X2_leftBorder : Cond.code yX2_leftBorder cX2_leftBorder 2 (Option.some Jvm.ClassFile.FieldType.int) ∈ gw := gw_mem 361 (by decide +kernel) rfl
theorem ml_X2_151 : Cond.methodLink RX2 151 yX2_rightBorder ∈ gw := gw_mem 362 (by decide +kernel) rfl
theorem im_X2_rightBorder : Cond.instanceMethod yX2_rightBorder ∈ gw := gw_mem 364 (by decide +kernel) rfl
theorem co_X2_rightBorder : Cond.code yX2_rightBorder cX2_rightBorder 2 (Option.some Jvm.ClassFile.FieldType.int) ∈ gw := gw_mem 365 (by decide +kernel) rfl
theorem mn_X2_154 : Cond.methodLinkNest RX2 154 yX0_diverges RX2 ∈ gn := gn_mem 366 (by decide +kernel) rfl
theorem im_X0_diverges : Cond.instanceMethod yX0_diverges ∈ gw := gw_mem 368 (by decide +kernel) rfl
theorem co_X0_diverges : Cond.code yX0_diverges cX0_diverges 5 (Option.some Jvm.ClassFile.FieldType.boolean) ∈ gw := gw_mem 369 (by decide +kernel) rfl
theorem mn_X0_34 : Cond.methodLinkNest RX0 34 yX2_isEndless RX2 ∈ gn := gn_mem 370 (by decide +kernel) rfl
theorem ml_X0_38 : Cond.methodLink RX0 38 yX0_hasEndlessTail ∈ gw := gw_mem 371 (by decide +kernel) rfl
theorem im_X0_hasEndlessTail : Cond.instanceMethod yX0_hasEndlessTail ∈ gw := gw_mem 373 (by decide +kernel) rfl
theorem co_X0_hasEndlessTail : Cond.code yX0_hasEndlessTail cX0_hasEndlessTail 2 (Option.some Jvm.ClassFile.FieldType.boolean) ∈ gw := gw_mem 374 (by decide +kernel) rfl
theorem mn_X2_157 : Cond.methodLinkNest RX2 157 yX1_addPrimitive RX2 ∈ gn := gn_mem 375 (by decide +kernel) rfl
theorem im_X1_addPrimitive : Cond.instanceMethod yX1_addPrimitive ∈ gw := gw_mem 377 (by decide +kernel) rfl
theorem co_X1_addPrimitive : Cond.code yX1_addPrimitive cX1_addPrimitive 5 (Option.none : Option Jvm.ClassFile.FieldType) ∈ gw := gw_mem 378 (by decide +kernel) rfl
theorem mn_X1_28 : Cond.methodLinkNest RX1 28 yX2_isEndless RX2 ∈ gn := gn_mem 379 (by decide +kernel) rfl
theorem mn_X1_32 : Cond.methodLinkNest RX1 32 yX0_twelfthsOfPowersPrimitive RX2 ∈ gn := gn_mem 380 (by decide +kernel) rfl
theorem im_X0_twelfthsOfPowersPrimitive : Cond.instanceMethod yX0_twelfthsOfPowersPrimitive ∈ gw := gw_mem 382 (by decide +kernel) rfl
theorem co_X0_twelfthsOfPowersPrimitive : Cond.code yX0_twelfthsOfPowersPrimitive cX0_twelfthsOfPowersPrimitive 3 (Option.some Jvm.ClassFile.FieldType.long) ∈ gw := gw_mem 383 (by decide +kernel) rfl
theorem kl_X0_41 : Cond.constantLong RX0 41 3 ∈ gw := gw_mem 384 (by decide +kernel) rfl
theorem kl_X1_38 : Cond.constantLong RX1 38 128066400 ∈ gw := gw_mem 385 (by decide +kernel) rfl
theorem mn_X1_43 : Cond.methodLinkNest RX1 43 yX0_hasPole RX2 ∈ gn := gn_mem 386 (by decide +kernel) rfl
theorem kl_X1_47 : Cond.constantLong RX1 47 1536796800 ∈ gw := gw_mem 387 (by decide +kernel) rfl
theorem ml_X1_49 : Cond.methodLink RX1 49 Lib.Math.abs.name ∈ gw := gw_mem 388 (by decide +kernel) rfl
theorem sm_Mabs : Cond.static Lib.Math.abs.name ∈ gw := gw_mem 389 (by decide +kernel) rfl
theorem co_Mabs : Cond.code Lib.Math.abs.name Lib.Math.abs.code 1 (some .int) ∈ gw := gw_mem 390 (by decide +kernel) rfl
theorem ml_X1_55 : Cond.methodLink RX1 55 yX1_addLogarithm ∈ gw := gw_mem 391 (by decide +kernel) rfl
theorem im_X1_addLogarithm : Cond.instanceMethod yX1_addLogarithm ∈ gw := gw_mem 393 (by decide +kernel) rfl
theorem co_X1_addLogarithm : Cond.code yX1_addLogarithm cX1_addLogarithm 4 (Option.none : Option Jvm.ClassFile.FieldType) ∈ gw := gw_mem 394 (by decide +kernel) rfl
theorem mn_X1_59 : Cond.methodLinkNest RX1 59 yX2_timesIn RX2 ∈ gn := gn_mem 395 (by decide +kernel) rfl
theorem sm_X2_timesIn : Cond.static yX2_timesIn ∈ gw := gw_mem 396 (by decide +kernel) rfl
theorem co_X2_timesIn : Cond.code yX2_timesIn cX2_timesIn 4 (Option.some Jvm.ClassFile.FieldType.int) ∈ gw := gw_mem 397 (by decide +kernel) rfl
theorem ml_L_88 : Cond.methodLink RL 88 yL_fraction ∈ gw := gw_mem 398 (by decide +kernel) rfl
theorem sm_L_fraction : Cond.static yL_fraction ∈ gw := gw_mem 399 (by decide +kernel) rfl
theorem co_L_fraction : Cond.codeWith yL_fraction cL_fraction 4 (Option.some Jvm.ClassFile.FieldType.int) [((0 : Nat), (8 : Nat), (11 : Nat), (15 : Nat)), ((0 : Nat), (8 : Nat), (14 : Nat), (13 : Nat))] ∈ gw := gw_mem 400 (by decide +kernel) rfl
theorem ml_L_42 : Cond.methodLink RL 42 yX2_fraction ∈ gw := gw_mem 401 (by decide +kernel) rfl
theorem im_X2_fraction : Cond.instanceMethod yX2_fraction ∈ gw := gw_mem 402 (by decide +kernel) rfl
theorem se_X2_fraction : Cond.selects RX2 yX2_fraction yX2_fraction ∈ gw := gw_mem 403 (by decide +kernel) rfl
theorem co_X2_fraction : Cond.code yX2_fraction cX2_fraction 2 (Option.some Jvm.ClassFile.FieldType.long) ∈ gw := gw_mem 404 (by decide +kernel) rfl
theorem kl_X2_128 : Cond.constantLong RX2 128 1536796800 ∈ gw := gw_mem 407 (by decide +kernel) rfl
theorem ml_L_91 : Cond.methodLink RL 91 yL_logarithm ∈ gw := gw_mem 408 (by decide +kernel) rfl
theorem sm_L_logarithm : Cond.static yL_logarithm ∈ gw := gw_mem 409 (by decide +kernel) rfl
theorem co_L_logarithm : Cond.codeWith yL_logarithm cL_logarithm 4 (Option.some Jvm.ClassFile.FieldType.int) [((0 : Nat), (9 : Nat), (12 : Nat), (15 : Nat)), ((0 : Nat), (9 : Nat), (15 : Nat), (13 : Nat))] ∈ gw := gw_mem 410 (by decide +kernel) rfl
theorem ml_L_46 : Cond.methodLink RL 46 yX2_logarithm ∈ gw := gw_mem 411 (by decide +kernel) rfl
theorem im_X2_logarithm : Cond.instanceMethod yX2_logarithm ∈ gw := gw_mem 412 (by decide +kernel) rfl
theorem se_X2_logarithm : Cond.selects RX2 yX2_logarithm yX2_logarithm ∈ gw := gw_mem 413 (by decide +kernel) rfl
theorem co_X2_logarithm : Cond.code yX2_logarithm cX2_logarithm 3 (Option.some Jvm.ClassFile.FieldType.int) ∈ gw := gw_mem 414 (by decide +kernel) rfl
theorem fl_X2_130 : Cond.fieldLink RX2 130 RX2 "PRIMES" "[I" ∈ gw := gw_mem 415 (by decide +kernel) rfl
theorem cl_L_50 : Cond.classLink RL 50 RX3 ∈ gw := gw_mem 417 (by decide +kernel) rfl
theorem ib_X3 : Cond.instantiable RX3 13 ∈ gw := gw_mem 418 (by decide +kernel) rfl
theorem ml_L_52 : Cond.methodLink RL 52 yX3_init ∈ gw := gw_mem 419 (by decide +kernel) rfl
theorem im_X3_init : Cond.instanceMethod yX3_init ∈ gw := gw_mem 420 (by decide +kernel) rfl
theorem co_X3_init : Cond.code yX3_init cX3_init 1 (Option.none : Option Jvm.ClassFile.FieldType) ∈ gw := gw_mem 421 (by decide +kernel) rfl
theorem ml_X3_1 : Cond.methodLink RX3 1 objectInit ∈ gw := gw_mem 422 (by decide +kernel) rfl
theorem fl_X3_28 : Cond.fieldLink RX3 28 RX3 "code" "I" ∈ gw := gw_mem 423 (by decide +kernel) rfl
theorem fl_X3_32 : Cond.fieldLink RX3 32 RX3 "cuts" "I" ∈ gw := gw_mem 424 (by decide +kernel) rfl
theorem fl_X3_7 : Cond.fieldLink RX3 7 RX3 "places" "[I" ∈ gw := gw_mem 425 (by decide +kernel) rfl
theorem fl_X3_13 : Cond.fieldLink RX3 13 RX3 "numbers" "[I" ∈ gw := gw_mem 426 (by decide +kernel) rfl
theorem fl_X3_16 : Cond.fieldLink RX3 16 RX3 "old" "[I" ∈ gw := gw_mem 427 (by decide +kernel) rfl
theorem fl_X3_19 : Cond.fieldLink RX3 19 RX3 "oldPlaces" "[I" ∈ gw := gw_mem 428 (by decide +kernel) rfl
theorem fl_X3_43 : Cond.fieldLink RX3 43 RX3 "known" "Z" ∈ gw := gw_mem 429 (by decide +kernel) rfl
theorem fl_X3_85 : Cond.fieldLink RX3 85 RX3 "knownUp" "J" ∈ gw := gw_mem 430 (by decide +kernel) rfl
theorem fl_X3_88 : Cond.fieldLink RX3 88 RX3 "knownDown" "J" ∈ gw := gw_mem 431 (by decide +kernel) rfl
theorem fl_X3_22 : Cond.fieldLink RX3 22 RX3 "knownLogs" "[I" ∈ gw := gw_mem 432 (by decide +kernel) rfl
theorem fl_X3_47 : Cond.fieldLink RX3 47 RX3 "up" "J" ∈ gw := gw_mem 433 (by decide +kernel) rfl
theorem fl_X3_51 : Cond.fieldLink RX3 51 RX3 "down" "J" ∈ gw := gw_mem 434 (by decide +kernel) rfl
theorem fl_X3_25 : Cond.fieldLink RX3 25 RX3 "logs" "[I" ∈ gw := gw_mem 435 (by decide +kernel) rfl
theorem ml_L_59 : Cond.methodLink RL 59 yX3_thrown ∈ gw := gw_mem 463 (by decide +kernel) rfl
theorem im_X3_thrown : Cond.instanceMethod yX3_thrown ∈ gw := gw_mem 464 (by decide +kernel) rfl
theorem se_X3_thrown : Cond.selects RX3 yX3_thrown yX3_thrown ∈ gw := gw_mem 465 (by decide +kernel) rfl
theorem co_X3_thrown : Cond.code yX3_thrown cX3_thrown 1 (Option.some Jvm.ClassFile.FieldType.int) ∈ gw := gw_mem 466 (by decide +kernel) rfl
theorem ml_L_58 : Cond.methodLink RL 58 yX3_cut ∈ gw := gw_mem 467 (by decide +kernel) rfl
theorem im_X3_cut : Cond.instanceMethod yX3_cut ∈ gw := gw_mem 468 (by decide +kernel) rfl
theorem se_X3_cut : Cond.selects RX3 yX3_cut yX3_cut ∈ gw := gw_mem 469 (by decide +kernel) rfl
theorem co_X3_cut : Cond.code yX3_cut cX3_cut 5 (Option.some Jvm.ClassFile.FieldType.int) ∈ gw := gw_mem 470 (by decide +kernel) rfl
theorem ml_X3_35 : Cond.methodLink RX3 35 yX3_in ∈ gw := gw_mem 471 (by decide +kernel) rfl
theorem sm_X3_in : Cond.static yX3_in ∈ gw := gw_mem 472 (by decide +kernel) rfl
theorem co_X3_in : Cond.code yX3_in cX3_in 3 (Option.some Jvm.ClassFile.FieldType.boolean) ∈ gw := gw_mem 473 (by decide +kernel) rfl
theorem ml_L_66 : Cond.methodLink RL 66 yX3_join ∈ gw := gw_mem 474 (by decide +kernel) rfl
theorem im_X3_join : Cond.instanceMethod yX3_join ∈ gw := gw_mem 475 (by decide +kernel) rfl
theorem se_X3_join : Cond.selects RX3 yX3_join yX3_join ∈ gw := gw_mem 476 (by decide +kernel) rfl
theorem co_X3_join : Cond.code yX3_join cX3_join 3 (Option.none : Option Jvm.ClassFile.FieldType) ∈ gw := gw_mem 477 (by decide +kernel) rfl
theorem ml_L_70 : Cond.methodLink RL 70 yX3_put ∈ gw := gw_mem 478 (by decide +kernel) rfl
theorem im_X3_put : Cond.instanceMethod yX3_put ∈ gw := gw_mem 479 (by decide +kernel) rfl
theorem se_X3_put : Cond.selects RX3 yX3_put yX3_put ∈ gw := gw_mem 480 (by decide +kernel) rfl
theorem co_X3_put : Cond.code yX3_put cX3_put 5 (Option.some Jvm.ClassFile.FieldType.boolean) ∈ gw := gw_mem 481 (by decide +kernel) rfl
theorem ml_L_74 : Cond.methodLink RL 74 yX3_at ∈ gw := gw_mem 482 (by decide +kernel) rfl
theorem im_X3_at : Cond.instanceMethod yX3_at ∈ gw := gw_mem 483 (by decide +kernel) rfl
theorem se_X3_at : Cond.selects RX3 yX3_at yX3_at ∈ gw := gw_mem 484 (by decide +kernel) rfl
theorem co_X3_at : Cond.code yX3_at cX3_at 3 (Option.some Jvm.ClassFile.FieldType.int) ∈ gw := gw_mem 485 (by decide +kernel) rfl
theorem ml_L_77 : Cond.methodLink RL 77 yX3_place ∈ gw := gw_mem 486 (by decide +kernel) rfl
theorem im_X3_place : Cond.instanceMethod yX3_place ∈ gw := gw_mem 487 (by decide +kernel) rfl
theorem se_X3_place : Cond.selects RX3 yX3_place yX3_place ∈ gw := gw_mem 488 (by decide +kernel) rfl
theorem co_X3_place : Cond.code yX3_place cX3_place 2 (Option.some Jvm.ClassFile.FieldType.int) ∈ gw := gw_mem 489 (by decide +kernel) rfl
theorem ml_L_81 : Cond.methodLink RL 81 yX3_mirror ∈ gw := gw_mem 490 (by decide +kernel) rfl
theorem im_X3_mirror : Cond.instanceMethod yX3_mirror ∈ gw := gw_mem 491 (by decide +kernel) rfl
theorem se_X3_mirror : Cond.selects RX3 yX3_mirror yX3_mirror ∈ gw := gw_mem 492 (by decide +kernel) rfl
theorem co_X3_mirror : Cond.code yX3_mirror cX3_mirror 3 (Option.none : Option Jvm.ClassFile.FieldType) ∈ gw := gw_mem 493 (by decide +kernel) rfl
theorem ml_X3_39 : Cond.methodLink RX3 39 yX3_turned ∈ gw := gw_mem 494 (by decide +kernel) rfl
theorem im_X3_turned : Cond.instanceMethod yX3_turned ∈ gw := gw_mem 496 (by decide +kernel) rfl
theorem co_X3_turned : Cond.code yX3_turned cX3_turned 5 (Option.some Jvm.ClassFile.FieldType.int) ∈ gw := gw_mem 497 (by decide +kernel) rfl
theorem ml_L_101 : Cond.methodLink RL 101 yX3_cuts ∈ gw := gw_mem 498 (by decide +kernel) rfl
theorem im_X3_cuts : Cond.instanceMethod yX3_cuts ∈ gw := gw_mem 499 (by decide +kernel) rfl
theorem se_X3_cuts : Cond.selects RX3 yX3_cuts yX3_cuts ∈ gw := gw_mem 500 (by decide +kernel) rfl
theorem co_X3_cuts : Cond.code yX3_cuts cX3_cuts 1 (Option.some Jvm.ClassFile.FieldType.int) ∈ gw := gw_mem 501 (by decide +kernel) rfl
theorem ml_L_105 : Cond.methodLink RL 105 yX3_clear ∈ gw := gw_mem 502 (by decide +kernel) rfl
theorem im_X3_clear : Cond.instanceMethod yX3_clear ∈ gw := gw_mem 503 (by decide +kernel) rfl
theorem se_X3_clear : Cond.selects RX3 yX3_clear yX3_clear ∈ gw := gw_mem 504 (by decide +kernel) rfl
theorem co_X3_clear : Cond.code yX3_clear cX3_clear 2 (Option.none : Option Jvm.ClassFile.FieldType) ∈ gw := gw_mem 505 (by decide +kernel) rfl
theorem ml_L_84 : Cond.methodLink RL 84 yX3_value ∈ gw := gw_mem 506 (by decide +kernel) rfl
theorem im_X3_value : Cond.instanceMethod yX3_value ∈ gw := gw_mem 507 (by decide +kernel) rfl
theorem se_X3_value : Cond.selects RX3 yX3_value yX3_value ∈ gw := gw_mem 508 (by decide +kernel) rfl
theorem co_X3_value : Cond.code yX3_value cX3_value 7 (Option.some Jvm.ClassFile.FieldType.long) ∈ gw := gw_mem 509 (by decide +kernel) rfl
theorem ml_X3_58 : Cond.methodLink RX3 58 yX3_hasPole ∈ gw := gw_mem 510 (by decide +kernel) rfl
theorem im_X3_hasPole : Cond.instanceMethod yX3_hasPole ∈ gw := gw_mem 512 (by decide +kernel) rfl
theorem co_X3_hasPole : Cond.code yX3_hasPole cX3_hasPole 2 (Option.some Jvm.ClassFile.FieldType.boolean) ∈ gw := gw_mem 513 (by decide +kernel) rfl
theorem ml_X3_62 : Cond.methodLink RX3 62 yX3_raise ∈ gw := gw_mem 514 (by decide +kernel) rfl
theorem im_X3_raise : Cond.instanceMethod yX3_raise ∈ gw := gw_mem 516 (by decide +kernel) rfl
theorem co_X3_raise : Cond.code yX3_raise cX3_raise 2 (Option.some Jvm.ClassFile.FieldType.int) ∈ gw := gw_mem 517 (by decide +kernel) rfl
theorem ml_X3_65 : Cond.methodLink RX3 65 yX3_start ∈ gw := gw_mem 518 (by decide +kernel) rfl
theorem im_X3_start : Cond.instanceMethod yX3_start ∈ gw := gw_mem 520 (by decide +kernel) rfl
theorem co_X3_start : Cond.code yX3_start cX3_start 2 (Option.none : Option Jvm.ClassFile.FieldType) ∈ gw := gw_mem 521 (by decide +kernel) rfl
theorem ml_X3_68 : Cond.methodLink RX3 68 yX3_more ∈ gw := gw_mem 522 (by decide +kernel) rfl
theorem im_X3_more : Cond.instanceMethod yX3_more ∈ gw := gw_mem 524 (by decide +kernel) rfl
theorem co_X3_more : Cond.code yX3_more cX3_more 15 (Option.none : Option Jvm.ClassFile.FieldType) ∈ gw := gw_mem 525 (by decide +kernel) rfl
theorem ml_L_87 : Cond.methodLink RL 87 yX3_integral ∈ gw := gw_mem 526 (by decide +kernel) rfl
theorem im_X3_integral : Cond.instanceMethod yX3_integral ∈ gw := gw_mem 527 (by decide +kernel) rfl
theorem se_X3_integral : Cond.selects RX3 yX3_integral yX3_integral ∈ gw := gw_mem 528 (by decide +kernel) rfl
theorem co_X3_integral : Cond.code yX3_integral cX3_integral 10 (Option.some Jvm.ClassFile.FieldType.boolean) ∈ gw := gw_mem 529 (by decide +kernel) rfl
theorem ml_X3_78 : Cond.methodLink RX3 78 yX3_isThere ∈ gw := gw_mem 530 (by decide +kernel) rfl
theorem im_X3_isThere : Cond.instanceMethod yX3_isThere ∈ gw := gw_mem 532 (by decide +kernel) rfl
theorem co_X3_isThere : Cond.code yX3_isThere cX3_isThere 6 (Option.some Jvm.ClassFile.FieldType.boolean) ∈ gw := gw_mem 533 (by decide +kernel) rfl
theorem ml_X3_81 : Cond.methodLink RX3 81 yX3_putEnd ∈ gw := gw_mem 534 (by decide +kernel) rfl
theorem im_X3_putEnd : Cond.instanceMethod yX3_putEnd ∈ gw := gw_mem 536 (by decide +kernel) rfl
theorem co_X3_putEnd : Cond.code yX3_putEnd cX3_putEnd 8 (Option.none : Option Jvm.ClassFile.FieldType) ∈ gw := gw_mem 537 (by decide +kernel) rfl
theorem ml_X3_72 : Cond.methodLink RX3 72 yX3_putLogs ∈ gw := gw_mem 538 (by decide +kernel) rfl
theorem im_X3_putLogs : Cond.instanceMethod yX3_putLogs ∈ gw := gw_mem 540 (by decide +kernel) rfl
theorem co_X3_putLogs : Cond.code yX3_putLogs cX3_putLogs 5 (Option.none : Option Jvm.ClassFile.FieldType) ∈ gw := gw_mem 541 (by decide +kernel) rfl
theorem ml_X3_54 : Cond.methodLink RX3 54 yX3_primeOf ∈ gw := gw_mem 542 (by decide +kernel) rfl
theorem sm_X3_primeOf : Cond.static yX3_primeOf ∈ gw := gw_mem 543 (by decide +kernel) rfl
theorem co_X3_primeOf : Cond.code yX3_primeOf cX3_primeOf 1 (Option.some Jvm.ClassFile.FieldType.int) ∈ gw := gw_mem 544 (by decide +kernel) rfl
theorem kl_X3_76 : Cond.constantLong RX3 76 2 ∈ gw := gw_mem 545 (by decide +kernel) rfl
theorem ml_L_90 : Cond.methodLink RL 90 yX3_fraction ∈ gw := gw_mem 546 (by decide +kernel) rfl
theorem im_X3_fraction : Cond.instanceMethod yX3_fraction ∈ gw := gw_mem 547 (by decide +kernel) rfl
theorem se_X3_fraction : Cond.selects RX3 yX3_fraction yX3_fraction ∈ gw := gw_mem 548 (by decide +kernel) rfl
theorem co_X3_fraction : Cond.code yX3_fraction cX3_fraction 2 (Option.some Jvm.ClassFile.FieldType.long) ∈ gw := gw_mem 549 (by decide +kernel) rfl
theorem ml_L_93 : Cond.methodLink RL 93 yX3_logarithm ∈ gw := gw_mem 550 (by decide +kernel) rfl
theorem im_X3_logarithm : Cond.instanceMethod yX3_logarithm ∈ gw := gw_mem 551 (by decide +kernel) rfl
theorem se_X3_logarithm : Cond.selects RX3 yX3_logarithm yX3_logarithm ∈ gw := gw_mem 552 (by decide +kernel) rfl
theorem co_X3_logarithm : Cond.code yX3_logarithm cX3_logarithm 3 (Option.some Jvm.ClassFile.FieldType.int) ∈ gw := gw_mem 553 (by decide +kernel) rfl
theorem ml_L_97 : Cond.methodLink RL 97 yX3_symmetry ∈ gw := gw_mem 554 (by decide +kernel) rfl
theorem im_X3_symmetry : Cond.instanceMethod yX3_symmetry ∈ gw := gw_mem 555 (by decide +kernel) rfl
theorem se_X3_symmetry : Cond.selects RX3 yX3_symmetry yX3_symmetry ∈ gw := gw_mem 556 (by decide +kernel) rfl
theorem co_X3_symmetry : Cond.code yX3_symmetry cX3_symmetry 4 (Option.some Jvm.ClassFile.FieldType.int) ∈ gw := gw_mem 557 (by decide +kernel) rfl
theorem ml_X3_91 : Cond.methodLink RX3 91 yX3_pieceAt ∈ gw := gw_mem 558 (by decide +kernel) rfl
theorem im_X3_pieceAt : Cond.instanceMethod yX3_pieceAt ∈ gw := gw_mem 560 (by decide +kernel) rfl
theorem co_X3_pieceAt : Cond.code yX3_pieceAt cX3_pieceAt 3 (Option.some Jvm.ClassFile.FieldType.int) ∈ gw := gw_mem 561 (by decide +kernel) rfl
theorem ml_X3_94 : Cond.methodLink RX3 94 yX3_isTurned ∈ gw := gw_mem 562 (by decide +kernel) rfl
theorem im_X3_isTurned : Cond.instanceMethod yX3_isTurned ∈ gw := gw_mem 564 (by decide +kernel) rfl
theorem co_X3_isTurned : Cond.code yX3_isTurned cX3_isTurned 5 (Option.some Jvm.ClassFile.FieldType.boolean) ∈ gw := gw_mem 565 (by decide +kernel) rfl
theorem ac_long : Cond.arrayClass .long ∈ gw := gw_mem 566 (by decide +kernel) rfl
theorem inX0 : ∀ w ∈ wsX00, w ∈ gw := by decide +kernel
theorem inX1 : ∀ w ∈ wsX10, w ∈ gw := by decide +kernel
theorem inX2 : ∀ w ∈ wsX20, w ∈ gw := by decide +kernel
theorem inX3 : ∀ w ∈ wsX30, w ∈ gw := by decide +kernel
abbrev vwCl : List vw_C := [(RX0, TX0, 1), (RX1, TX1, 2), (RX2, TX2, 5), (RX3, TX3, 13)]
theorem gw_V {own C : String} {y : MethodName} {bytes : ByteArray} {maxL idx : Nat} {ret : Option FieldType} (h1 : Cond.methodLink own idx y ∈ gw) (h2 : Cond.instanceMethod y ∈ gw) (h3 : Cond.selects C y y ∈ gw) (h4 : Cond.initialized C ∈ gw) (h5 : Cond.code y bytes maxL ret ∈ gw) : GoodIn gw (wsV own idx C y (Cond.code y bytes maxL ret :: gw)) := by
  intro w hw
  have hm : w ∈ gw := by
    simp only [wsV, List.cons_append, List.nil_append, List.mem_cons] at hw
    rcases hw with rfl | rfl | rfl | rfl | rfl | hw
    · exact h1
    · exact h2
    · exact h3
    · exact h4
    · exact h5
    · exact hw
  exact ⟨hm, good_of_word (gw_good w hm)⟩
theorem gw_S {own : String} {y : MethodName} {bytes : ByteArray} {maxL idx : Nat} {ret : Option FieldType} (h1 : Cond.methodLink own idx y ∈ gw) (h2 : Cond.static y ∈ gw) (h4 : Cond.initialized y.cls ∈ gw) (h5 : Cond.code y bytes maxL ret ∈ gw) : GoodIn gw (va_wsS own idx y (Cond.code y bytes maxL ret :: gw)) := by
  intro w hw
  have hm : w ∈ gw := by
    simp only [va_wsS, List.cons_append, List.nil_append, List.mem_cons] at hw
    rcases hw with rfl | rfl | rfl | rfl | hw
    · exact h1
    · exact h2
    · exact h4
    · exact h5
    · exact hw
  exact ⟨hm, good_of_word (gw_good w hm)⟩
theorem gw_C {c : Cond} (h : c ∈ gw) : GoodIn gw (c :: gw) := by
  intro w hw
  have hm : w ∈ gw := by
    rcases List.mem_cons.mp hw with rfl | hw
    · exact h
    · exact hw
  exact ⟨hm, good_of_word (gw_good w hm)⟩
theorem dJ7_fill_0 : decode cJ7_fill 0 = .ok (.iconst 0, 1) := by decide +kernel
theorem dJ7_fill_1 : decode cJ7_fill 1 = .ok (.istore_n 2, 1) := by decide +kernel
theorem dJ7_fill_2 : decode cJ7_fill 2 = .ok (.aload_n 0, 1) := by decide +kernel
theorem dJ7_fill_3 : decode cJ7_fill 3 = .ok (.arraylength, 1) := by decide +kernel
theorem dJ7_fill_4 : decode cJ7_fill 4 = .ok (.istore_n 3, 1) := by decide +kernel
theorem dJ7_fill_5 : decode cJ7_fill 5 = .ok (.iload_n 2, 1) := by decide +kernel
theorem dJ7_fill_6 : decode cJ7_fill 6 = .ok (.iload_n 3, 1) := by decide +kernel
theorem dJ7_fill_7 : decode cJ7_fill 7 = .ok (.if_icmp .ge 13, 3) := by decide +kernel
theorem dJ7_fill_10 : decode cJ7_fill 10 = .ok (.aload_n 0, 1) := by decide +kernel
theorem dJ7_fill_11 : decode cJ7_fill 11 = .ok (.iload_n 2, 1) := by decide +kernel
theorem dJ7_fill_12 : decode cJ7_fill 12 = .ok (.iload_n 1, 1) := by decide +kernel
theorem dJ7_fill_13 : decode cJ7_fill 13 = .ok (.iastore, 1) := by decide +kernel
theorem dJ7_fill_14 : decode cJ7_fill 14 = .ok (.iinc 2 1, 3) := by decide +kernel
theorem dJ7_fill_17 : decode cJ7_fill 17 = .ok (.goto (-12), 3) := by decide +kernel
theorem dJ7_fill_20 : decode cJ7_fill 20 = .ok (.return_, 1) := by decide +kernel
end
section
theorem dX0_init_0 : decode cX0_init 0 = .ok (.aload_n 0, 1) := by decide +kernel
theorem dX0_init_1 : decode cX0_init 1 = .ok (.invokespecial 3, 3) := by decide +kernel
theorem dX0_init_4 : decode cX0_init 4 = .ok (.aload_n 0, 1) := by decide +kernel
theorem dX0_init_5 : decode cX0_init 5 = .ok (.bipush 8, 2) := by decide +kernel
theorem dX0_init_7 : decode cX0_init 7 = .ok (.newarray .int, 2) := by decide +kernel
theorem dX0_init_9 : decode cX0_init 9 = .ok (.putfield 9, 3) := by decide +kernel
theorem dX0_init_12 : decode cX0_init 12 = .ok (.return_, 1) := by decide +kernel
theorem dX0_wipe_0 : decode cX0_wipe 0 = .ok (.aload_n 0, 1) := by decide +kernel
theorem dX0_wipe_1 : decode cX0_wipe 1 = .ok (.getfield 9, 3) := by decide +kernel
theorem dX0_wipe_4 : decode cX0_wipe 4 = .ok (.iconst 0, 1) := by decide +kernel
theorem dX0_wipe_5 : decode cX0_wipe 5 = .ok (.invokestatic 15, 3) := by decide +kernel
theorem dX0_wipe_8 : decode cX0_wipe 8 = .ok (.return_, 1) := by decide +kernel
theorem dX0_become_0 : decode cX0_become 0 = .ok (.aload_n 1, 1) := by decide +kernel
theorem dX0_become_1 : decode cX0_become 1 = .ok (.getfield 9, 3) := by decide +kernel
theorem dX0_become_4 : decode cX0_become 4 = .ok (.iconst 0, 1) := by decide +kernel
theorem dX0_become_5 : decode cX0_become 5 = .ok (.aload_n 0, 1) := by decide +kernel
theorem dX0_become_6 : decode cX0_become 6 = .ok (.getfield 9, 3) := by decide +kernel
theorem dX0_become_9 : decode cX0_become 9 = .ok (.iconst 0, 1) := by decide +kernel
theorem dX0_become_10 : decode cX0_become 10 = .ok (.bipush 8, 2) := by decide +kernel
theorem dX0_become_12 : decode cX0_become 12 = .ok (.invokestatic 21, 3) := by decide +kernel
theorem dX0_become_15 : decode cX0_become 15 = .ok (.return_, 1) := by decide +kernel
theorem dX0_turnRound_0 : decode cX0_turnRound 0 = .ok (.iconst 0, 1) := by decide +kernel
theorem dX0_turnRound_1 : decode cX0_turnRound 1 = .ok (.istore_n 1, 1) := by decide +kernel
theorem dX0_turnRound_2 : decode cX0_turnRound 2 = .ok (.iload_n 1, 1) := by decide +kernel
theorem dX0_turnRound_3 : decode cX0_turnRound 3 = .ok (.bipush 8, 2) := by decide +kernel
theorem dX0_turnRound_5 : decode cX0_turnRound 5 = .ok (.if_icmp .ge 23, 3) := by decide +kernel
theorem dX0_turnRound_8 : decode cX0_turnRound 8 = .ok (.aload_n 0, 1) := by decide +kernel
theorem dX0_turnRound_9 : decode cX0_turnRound 9 = .ok (.getfield 9, 3) := by decide +kernel
theorem dX0_turnRound_12 : decode cX0_turnRound 12 = .ok (.iload_n 1, 1) := by decide +kernel
theorem dX0_turnRound_13 : decode cX0_turnRound 13 = .ok (.dup2, 1) := by decide +kernel
theorem dX0_turnRound_14 : decode cX0_turnRound 14 = .ok (.iaload, 1) := by decide +kernel
theorem dX0_turnRound_15 : decode cX0_turnRound 15 = .ok (.getstatic 27, 3) := by decide +kernel
theorem dX0_turnRound_18 : decode cX0_turnRound 18 = .ok (.iload_n 1, 1) := by decide +kernel
theorem dX0_turnRound_19 : decode cX0_turnRound 19 = .ok (.iaload, 1) := by decide +kernel
theorem dX0_turnRound_20 : decode cX0_turnRound 20 = .ok (.imul, 1) := by decide +kernel
theorem dX0_turnRound_21 : decode cX0_turnRound 21 = .ok (.iastore, 1) := by decide +kernel
theorem dX0_turnRound_22 : decode cX0_turnRound 22 = .ok (.iinc 1 1, 3) := by decide +kernel
theorem dX0_turnRound_25 : decode cX0_turnRound 25 = .ok (.goto (-23), 3) := by decide +kernel
theorem dX0_turnRound_28 : decode cX0_turnRound 28 = .ok (.return_, 1) := by decide +kernel
theorem dX0_hasPole_0 : decode cX0_hasPole 0 = .ok (.aload_n 0, 1) := by decide +kernel
theorem dX0_hasPole_1 : decode cX0_hasPole 1 = .ok (.getfield 9, 3) := by decide +kernel
theorem dX0_hasPole_4 : decode cX0_hasPole 4 = .ok (.iconst 4, 1) := by decide +kernel
theorem dX0_hasPole_5 : decode cX0_hasPole 5 = .ok (.iaload, 1) := by decide +kernel
theorem dX0_hasPole_6 : decode cX0_hasPole 6 = .ok (.ifCond .ne 22, 3) := by decide +kernel
theorem dX0_hasPole_9 : decode cX0_hasPole 9 = .ok (.aload_n 0, 1) := by decide +kernel
theorem dX0_hasPole_10 : decode cX0_hasPole 10 = .ok (.getfield 9, 3) := by decide +kernel
theorem dX0_hasPole_13 : decode cX0_hasPole 13 = .ok (.iconst 5, 1) := by decide +kernel
theorem dX0_hasPole_14 : decode cX0_hasPole 14 = .ok (.iaload, 1) := by decide +kernel
theorem dX0_hasPole_15 : decode cX0_hasPole 15 = .ok (.ifCond .ne 13, 3) := by decide +kernel
theorem dX0_hasPole_18 : decode cX0_hasPole 18 = .ok (.aload_n 0, 1) := by decide +kernel
theorem dX0_hasPole_19 : decode cX0_hasPole 19 = .ok (.getfield 9, 3) := by decide +kernel
theorem dX0_hasPole_22 : decode cX0_hasPole 22 = .ok (.bipush 6, 2) := by decide +kernel
theorem dX0_hasPole_24 : decode cX0_hasPole 24 = .ok (.iaload, 1) := by decide +kernel
theorem dX0_hasPole_25 : decode cX0_hasPole 25 = .ok (.ifCond .eq 7, 3) := by decide +kernel
theorem dX0_hasPole_28 : decode cX0_hasPole 28 = .ok (.iconst 1, 1) := by decide +kernel
theorem dX0_hasPole_29 : decode cX0_hasPole 29 = .ok (.goto 4, 3) := by decide +kernel
theorem dX0_hasPole_32 : decode cX0_hasPole 32 = .ok (.iconst 0, 1) := by decide +kernel
theorem dX0_hasPole_33 : decode cX0_hasPole 33 = .ok (.ireturn, 1) := by decide +kernel
theorem dX0_hasEndlessTail_0 : decode cX0_hasEndlessTail 0 = .ok (.iconst 0, 1) := by decide +kernel
theorem dX0_hasEndlessTail_1 : decode cX0_hasEndlessTail 1 = .ok (.istore_n 1, 1) := by decide +kernel
theorem dX0_hasEndlessTail_2 : decode cX0_hasEndlessTail 2 = .ok (.iload_n 1, 1) := by decide +kernel
theorem dX0_hasEndlessTail_3 : decode cX0_hasEndlessTail 3 = .ok (.iconst 4, 1) := by decide +kernel
theorem dX0_hasEndlessTail_4 : decode cX0_hasEndlessTail 4 = .ok (.if_icmp .gt 20, 3) := by decide +kernel
theorem dX0_hasEndlessTail_7 : decode cX0_hasEndlessTail 7 = .ok (.aload_n 0, 1) := by decide +kernel
theorem dX0_hasEndlessTail_8 : decode cX0_hasEndlessTail 8 = .ok (.getfield 9, 3) := by decide +kernel
theorem dX0_hasEndlessTail_11 : decode cX0_hasEndlessTail 11 = .ok (.iload_n 1, 1) := by decide +kernel
theorem dX0_hasEndlessTail_12 : decode cX0_hasEndlessTail 12 = .ok (.iaload, 1) := by decide +kernel
theorem dX0_hasEndlessTail_13 : decode cX0_hasEndlessTail 13 = .ok (.ifCond .eq 5, 3) := by decide +kernel
theorem dX0_hasEndlessTail_16 : decode cX0_hasEndlessTail 16 = .ok (.iconst 1, 1) := by decide +kernel
theorem dX0_hasEndlessTail_17 : decode cX0_hasEndlessTail 17 = .ok (.ireturn, 1) := by decide +kernel
theorem dX0_hasEndlessTail_18 : decode cX0_hasEndlessTail 18 = .ok (.iinc 1 1, 3) := by decide +kernel
theorem dX0_hasEndlessTail_21 : decode cX0_hasEndlessTail 21 = .ok (.goto (-19), 3) := by decide +kernel
theorem dX0_hasEndlessTail_24 : decode cX0_hasEndlessTail 24 = .ok (.iconst 0, 1) := by decide +kernel
theorem dX0_hasEndlessTail_25 : decode cX0_hasEndlessTail 25 = .ok (.ireturn, 1) := by decide +kernel
theorem dX0_diverges_0 : decode cX0_diverges 0 = .ok (.aload_n 0, 1) := by decide +kernel
theorem dX0_diverges_1 : decode cX0_diverges 1 = .ok (.invokevirtual 30, 3) := by decide +kernel
theorem dX0_diverges_4 : decode cX0_diverges 4 = .ok (.ifCond .eq 29, 3) := by decide +kernel
theorem dX0_diverges_7 : decode cX0_diverges 7 = .ok (.aload_n 0, 1) := by decide +kernel
theorem dX0_diverges_8 : decode cX0_diverges 8 = .ok (.getfield 9, 3) := by decide +kernel
theorem dX0_diverges_11 : decode cX0_diverges 11 = .ok (.bipush 7, 2) := by decide +kernel
theorem dX0_diverges_13 : decode cX0_diverges 13 = .ok (.iaload, 1) := by decide +kernel
theorem dX0_diverges_14 : decode cX0_diverges 14 = .ok (.iload_n 1, 1) := by decide +kernel
theorem dX0_diverges_15 : decode cX0_diverges 15 = .ok (.if_icmp .lt 18, 3) := by decide +kernel
theorem dX0_diverges_18 : decode cX0_diverges 18 = .ok (.aload_n 0, 1) := by decide +kernel
theorem dX0_diverges_19 : decode cX0_diverges 19 = .ok (.getfield 9, 3) := by decide +kernel
theorem dX0_diverges_22 : decode cX0_diverges 22 = .ok (.bipush 7, 2) := by decide +kernel
theorem dX0_diverges_24 : decode cX0_diverges 24 = .ok (.iaload, 1) := by decide +kernel
theorem dX0_diverges_25 : decode cX0_diverges 25 = .ok (.iload_n 2, 1) := by decide +kernel
theorem dX0_diverges_26 : decode cX0_diverges 26 = .ok (.if_icmp .gt 7, 3) := by decide +kernel
theorem dX0_diverges_29 : decode cX0_diverges 29 = .ok (.iconst 1, 1) := by decide +kernel
theorem dX0_diverges_30 : decode cX0_diverges 30 = .ok (.goto 4, 3) := by decide +kernel
theorem dX0_diverges_33 : decode cX0_diverges 33 = .ok (.iconst 0, 1) := by decide +kernel
theorem dX0_diverges_34 : decode cX0_diverges 34 = .ok (.istore_n 3, 1) := by decide +kernel
theorem dX0_diverges_35 : decode cX0_diverges 35 = .ok (.iload_n 1, 1) := by decide +kernel
theorem dX0_diverges_36 : decode cX0_diverges 36 = .ok (.invokestatic 34, 3) := by decide +kernel
theorem dX0_diverges_39 : decode cX0_diverges 39 = .ok (.ifCond .ne 10, 3) := by decide +kernel
theorem dX0_diverges_42 : decode cX0_diverges 42 = .ok (.iload_n 2, 1) := by decide +kernel
theorem dX0_diverges_43 : decode cX0_diverges 43 = .ok (.invokestatic 34, 3) := by decide +kernel
theorem dX0_diverges_46 : decode cX0_diverges 46 = .ok (.ifCond .eq 7, 3) := by decide +kernel
theorem dX0_diverges_49 : decode cX0_diverges 49 = .ok (.iconst 1, 1) := by decide +kernel
theorem dX0_diverges_50 : decode cX0_diverges 50 = .ok (.goto 4, 3) := by decide +kernel
theorem dX0_diverges_53 : decode cX0_diverges 53 = .ok (.iconst 0, 1) := by decide +kernel
theorem dX0_diverges_54 : decode cX0_diverges 54 = .ok (.istore 4, 2) := by decide +kernel
theorem dX0_diverges_56 : decode cX0_diverges 56 = .ok (.iload_n 3, 1) := by decide +kernel
theorem dX0_diverges_57 : decode cX0_diverges 57 = .ok (.ifCond .ne 15, 3) := by decide +kernel
theorem dX0_diverges_60 : decode cX0_diverges 60 = .ok (.iload 4, 2) := by decide +kernel
theorem dX0_diverges_62 : decode cX0_diverges 62 = .ok (.ifCond .eq 14, 3) := by decide +kernel
theorem dX0_diverges_65 : decode cX0_diverges 65 = .ok (.aload_n 0, 1) := by decide +kernel
theorem dX0_diverges_66 : decode cX0_diverges 66 = .ok (.invokevirtual 38, 3) := by decide +kernel
theorem dX0_diverges_69 : decode cX0_diverges 69 = .ok (.ifCond .eq 7, 3) := by decide +kernel
theorem dX0_diverges_72 : decode cX0_diverges 72 = .ok (.iconst 1, 1) := by decide +kernel
theorem dX0_diverges_73 : decode cX0_diverges 73 = .ok (.goto 4, 3) := by decide +kernel
theorem dX0_diverges_76 : decode cX0_diverges 76 = .ok (.iconst 0, 1) := by decide +kernel
theorem dX0_diverges_77 : decode cX0_diverges 77 = .ok (.ireturn, 1) := by decide +kernel
theorem dX0_powersAt_0 : decode cX0_powersAt 0 = .ok (.aload_n 0, 1) := by decide +kernel
theorem dX0_powersAt_1 : decode cX0_powersAt 1 = .ok (.getfield 9, 3) := by decide +kernel
theorem dX0_powersAt_4 : decode cX0_powersAt 4 = .ok (.iconst 0, 1) := by decide +kernel
theorem dX0_powersAt_5 : decode cX0_powersAt 5 = .ok (.iaload, 1) := by decide +kernel
theorem dX0_powersAt_6 : decode cX0_powersAt 6 = .ok (.i2l, 1) := by decide +kernel
theorem dX0_powersAt_7 : decode cX0_powersAt 7 = .ok (.lload_n 1, 1) := by decide +kernel
theorem dX0_powersAt_8 : decode cX0_powersAt 8 = .ok (.aload_n 0, 1) := by decide +kernel
theorem dX0_powersAt_9 : decode cX0_powersAt 9 = .ok (.getfield 9, 3) := by decide +kernel
theorem dX0_powersAt_12 : decode cX0_powersAt 12 = .ok (.iconst 1, 1) := by decide +kernel
theorem dX0_powersAt_13 : decode cX0_powersAt 13 = .ok (.iaload, 1) := by decide +kernel
theorem dX0_powersAt_14 : decode cX0_powersAt 14 = .ok (.i2l, 1) := by decide +kernel
theorem dX0_powersAt_15 : decode cX0_powersAt 15 = .ok (.lload_n 1, 1) := by decide +kernel
theorem dX0_powersAt_16 : decode cX0_powersAt 16 = .ok (.aload_n 0, 1) := by decide +kernel
theorem dX0_powersAt_17 : decode cX0_powersAt 17 = .ok (.getfield 9, 3) := by decide +kernel
theorem dX0_powersAt_20 : decode cX0_powersAt 20 = .ok (.iconst 2, 1) := by decide +kernel
theorem dX0_powersAt_21 : decode cX0_powersAt 21 = .ok (.iaload, 1) := by decide +kernel
theorem dX0_powersAt_22 : decode cX0_powersAt 22 = .ok (.i2l, 1) := by decide +kernel
theorem dX0_powersAt_23 : decode cX0_powersAt 23 = .ok (.lload_n 1, 1) := by decide +kernel
theorem dX0_powersAt_24 : decode cX0_powersAt 24 = .ok (.aload_n 0, 1) := by decide +kernel
theorem dX0_powersAt_25 : decode cX0_powersAt 25 = .ok (.getfield 9, 3) := by decide +kernel
theorem dX0_powersAt_28 : decode cX0_powersAt 28 = .ok (.iconst 3, 1) := by decide +kernel
theorem dX0_powersAt_29 : decode cX0_powersAt 29 = .ok (.iaload, 1) := by decide +kernel
theorem dX0_powersAt_30 : decode cX0_powersAt 30 = .ok (.i2l, 1) := by decide +kernel
theorem dX0_powersAt_31 : decode cX0_powersAt 31 = .ok (.lmul, 1) := by decide +kernel
theorem dX0_powersAt_32 : decode cX0_powersAt 32 = .ok (.ladd, 1) := by decide +kernel
theorem dX0_powersAt_33 : decode cX0_powersAt 33 = .ok (.lmul, 1) := by decide +kernel
theorem dX0_powersAt_34 : decode cX0_powersAt 34 = .ok (.ladd, 1) := by decide +kernel
theorem dX0_powersAt_35 : decode cX0_powersAt 35 = .ok (.lmul, 1) := by decide +kernel
theorem dX0_powersAt_36 : decode cX0_powersAt 36 = .ok (.ladd, 1) := by decide +kernel
theorem dX0_powersAt_37 : decode cX0_powersAt 37 = .ok (.lreturn, 1) := by decide +kernel
theorem dX0_abovePoleAt_0 : decode cX0_abovePoleAt 0 = .ok (.aload_n 0, 1) := by decide +kernel
theorem dX0_abovePoleAt_1 : decode cX0_abovePoleAt 1 = .ok (.getfield 9, 3) := by decide +kernel
theorem dX0_abovePoleAt_4 : decode cX0_abovePoleAt 4 = .ok (.bipush 6, 2) := by decide +kernel
theorem dX0_abovePoleAt_6 : decode cX0_abovePoleAt 6 = .ok (.iaload, 1) := by decide +kernel
theorem dX0_abovePoleAt_7 : decode cX0_abovePoleAt 7 = .ok (.i2l, 1) := by decide +kernel
theorem dX0_abovePoleAt_8 : decode cX0_abovePoleAt 8 = .ok (.lload_n 1, 1) := by decide +kernel
theorem dX0_abovePoleAt_9 : decode cX0_abovePoleAt 9 = .ok (.aload_n 0, 1) := by decide +kernel
theorem dX0_abovePoleAt_10 : decode cX0_abovePoleAt 10 = .ok (.getfield 9, 3) := by decide +kernel
theorem dX0_abovePoleAt_13 : decode cX0_abovePoleAt 13 = .ok (.iconst 5, 1) := by decide +kernel
theorem dX0_abovePoleAt_14 : decode cX0_abovePoleAt 14 = .ok (.iaload, 1) := by decide +kernel
theorem dX0_abovePoleAt_15 : decode cX0_abovePoleAt 15 = .ok (.i2l, 1) := by decide +kernel
theorem dX0_abovePoleAt_16 : decode cX0_abovePoleAt 16 = .ok (.lload_n 1, 1) := by decide +kernel
theorem dX0_abovePoleAt_17 : decode cX0_abovePoleAt 17 = .ok (.aload_n 0, 1) := by decide +kernel
theorem dX0_abovePoleAt_18 : decode cX0_abovePoleAt 18 = .ok (.getfield 9, 3) := by decide +kernel
theorem dX0_abovePoleAt_21 : decode cX0_abovePoleAt 21 = .ok (.iconst 4, 1) := by decide +kernel
theorem dX0_abovePoleAt_22 : decode cX0_abovePoleAt 22 = .ok (.iaload, 1) := by decide +kernel
theorem dX0_abovePoleAt_23 : decode cX0_abovePoleAt 23 = .ok (.i2l, 1) := by decide +kernel
theorem dX0_abovePoleAt_24 : decode cX0_abovePoleAt 24 = .ok (.lmul, 1) := by decide +kernel
theorem dX0_abovePoleAt_25 : decode cX0_abovePoleAt 25 = .ok (.ladd, 1) := by decide +kernel
theorem dX0_abovePoleAt_26 : decode cX0_abovePoleAt 26 = .ok (.lmul, 1) := by decide +kernel
theorem dX0_abovePoleAt_27 : decode cX0_abovePoleAt 27 = .ok (.ladd, 1) := by decide +kernel
theorem dX0_abovePoleAt_28 : decode cX0_abovePoleAt 28 = .ok (.lreturn, 1) := by decide +kernel
theorem dX0_twelfthsOfPowersPrimitive_0 : decode cX0_twelfthsOfPowersPrimitive 0 = .ok (.lload_n 1, 1) := by decide +kernel
theorem dX0_twelfthsOfPowersPrimitive_1 : decode cX0_twelfthsOfPowersPrimitive 1 = .ok (.bipush 12, 2) := by decide +kernel
theorem dX0_twelfthsOfPowersPrimitive_3 : decode cX0_twelfthsOfPowersPrimitive 3 = .ok (.aload_n 0, 1) := by decide +kernel
theorem dX0_twelfthsOfPowersPrimitive_4 : decode cX0_twelfthsOfPowersPrimitive 4 = .ok (.getfield 9, 3) := by decide +kernel
theorem dX0_twelfthsOfPowersPrimitive_7 : decode cX0_twelfthsOfPowersPrimitive 7 = .ok (.iconst 0, 1) := by decide +kernel
theorem dX0_twelfthsOfPowersPrimitive_8 : decode cX0_twelfthsOfPowersPrimitive 8 = .ok (.iaload, 1) := by decide +kernel
theorem dX0_twelfthsOfPowersPrimitive_9 : decode cX0_twelfthsOfPowersPrimitive 9 = .ok (.imul, 1) := by decide +kernel
theorem dX0_twelfthsOfPowersPrimitive_10 : decode cX0_twelfthsOfPowersPrimitive 10 = .ok (.i2l, 1) := by decide +kernel
theorem dX0_twelfthsOfPowersPrimitive_11 : decode cX0_twelfthsOfPowersPrimitive 11 = .ok (.lload_n 1, 1) := by decide +kernel
theorem dX0_twelfthsOfPowersPrimitive_12 : decode cX0_twelfthsOfPowersPrimitive 12 = .ok (.bipush 6, 2) := by decide +kernel
theorem dX0_twelfthsOfPowersPrimitive_14 : decode cX0_twelfthsOfPowersPrimitive 14 = .ok (.aload_n 0, 1) := by decide +kernel
theorem dX0_twelfthsOfPowersPrimitive_15 : decode cX0_twelfthsOfPowersPrimitive 15 = .ok (.getfield 9, 3) := by decide +kernel
theorem dX0_twelfthsOfPowersPrimitive_18 : decode cX0_twelfthsOfPowersPrimitive 18 = .ok (.iconst 1, 1) := by decide +kernel
theorem dX0_twelfthsOfPowersPrimitive_19 : decode cX0_twelfthsOfPowersPrimitive 19 = .ok (.iaload, 1) := by decide +kernel
theorem dX0_twelfthsOfPowersPrimitive_20 : decode cX0_twelfthsOfPowersPrimitive 20 = .ok (.imul, 1) := by decide +kernel
theorem dX0_twelfthsOfPowersPrimitive_21 : decode cX0_twelfthsOfPowersPrimitive 21 = .ok (.i2l, 1) := by decide +kernel
theorem dX0_twelfthsOfPowersPrimitive_22 : decode cX0_twelfthsOfPowersPrimitive 22 = .ok (.lload_n 1, 1) := by decide +kernel
theorem dX0_twelfthsOfPowersPrimitive_23 : decode cX0_twelfthsOfPowersPrimitive 23 = .ok (.iconst 4, 1) := by decide +kernel
theorem dX0_twelfthsOfPowersPrimitive_24 : decode cX0_twelfthsOfPowersPrimitive 24 = .ok (.aload_n 0, 1) := by decide +kernel
theorem dX0_twelfthsOfPowersPrimitive_25 : decode cX0_twelfthsOfPowersPrimitive 25 = .ok (.getfield 9, 3) := by decide +kernel
theorem dX0_twelfthsOfPowersPrimitive_28 : decode cX0_twelfthsOfPowersPrimitive 28 = .ok (.iconst 2, 1) := by decide +kernel
theorem dX0_twelfthsOfPowersPrimitive_29 : decode cX0_twelfthsOfPowersPrimitive 29 = .ok (.iaload, 1) := by decide +kernel
theorem dX0_twelfthsOfPowersPrimitive_30 : decode cX0_twelfthsOfPowersPrimitive 30 = .ok (.imul, 1) := by decide +kernel
theorem dX0_twelfthsOfPowersPrimitive_31 : decode cX0_twelfthsOfPowersPrimitive 31 = .ok (.i2l, 1) := by decide +kernel
theorem dX0_twelfthsOfPowersPrimitive_32 : decode cX0_twelfthsOfPowersPrimitive 32 = .ok (.lload_n 1, 1) := by decide +kernel
theorem dX0_twelfthsOfPowersPrimitive_33 : decode cX0_twelfthsOfPowersPrimitive 33 = .ok (.ldc2_w 41, 3) := by decide +kernel
theorem dX0_twelfthsOfPowersPrimitive_36 : decode cX0_twelfthsOfPowersPrimitive 36 = .ok (.lmul, 1) := by decide +kernel
theorem dX0_twelfthsOfPowersPrimitive_37 : decode cX0_twelfthsOfPowersPrimitive 37 = .ok (.aload_n 0, 1) := by decide +kernel
theorem dX0_twelfthsOfPowersPrimitive_38 : decode cX0_twelfthsOfPowersPrimitive 38 = .ok (.getfield 9, 3) := by decide +kernel
theorem dX0_twelfthsOfPowersPrimitive_41 : decode cX0_twelfthsOfPowersPrimitive 41 = .ok (.iconst 3, 1) := by decide +kernel
theorem dX0_twelfthsOfPowersPrimitive_42 : decode cX0_twelfthsOfPowersPrimitive 42 = .ok (.iaload, 1) := by decide +kernel
theorem dX0_twelfthsOfPowersPrimitive_43 : decode cX0_twelfthsOfPowersPrimitive 43 = .ok (.i2l, 1) := by decide +kernel
theorem dX0_twelfthsOfPowersPrimitive_44 : decode cX0_twelfthsOfPowersPrimitive 44 = .ok (.lmul, 1) := by decide +kernel
theorem dX0_twelfthsOfPowersPrimitive_45 : decode cX0_twelfthsOfPowersPrimitive 45 = .ok (.ladd, 1) := by decide +kernel
theorem dX0_twelfthsOfPowersPrimitive_46 : decode cX0_twelfthsOfPowersPrimitive 46 = .ok (.lmul, 1) := by decide +kernel
theorem dX0_twelfthsOfPowersPrimitive_47 : decode cX0_twelfthsOfPowersPrimitive 47 = .ok (.ladd, 1) := by decide +kernel
theorem dX0_twelfthsOfPowersPrimitive_48 : decode cX0_twelfthsOfPowersPrimitive 48 = .ok (.lmul, 1) := by decide +kernel
theorem dX0_twelfthsOfPowersPrimitive_49 : decode cX0_twelfthsOfPowersPrimitive 49 = .ok (.ladd, 1) := by decide +kernel
theorem dX0_twelfthsOfPowersPrimitive_50 : decode cX0_twelfthsOfPowersPrimitive 50 = .ok (.lmul, 1) := by decide +kernel
theorem dX0_twelfthsOfPowersPrimitive_51 : decode cX0_twelfthsOfPowersPrimitive 51 = .ok (.lreturn, 1) := by decide +kernel
theorem dX0_mirrors_0 : decode cX0_mirrors 0 = .ok (.iconst 0, 1) := by decide +kernel
theorem dX0_mirrors_1 : decode cX0_mirrors 1 = .ok (.istore_n 3, 1) := by decide +kernel
theorem dX0_mirrors_2 : decode cX0_mirrors 2 = .ok (.iload_n 3, 1) := by decide +kernel
theorem dX0_mirrors_3 : decode cX0_mirrors 3 = .ok (.bipush 7, 2) := by decide +kernel
theorem dX0_mirrors_5 : decode cX0_mirrors 5 = .ok (.if_icmp .ge 34, 3) := by decide +kernel
theorem dX0_mirrors_8 : decode cX0_mirrors 8 = .ok (.aload_n 0, 1) := by decide +kernel
theorem dX0_mirrors_9 : decode cX0_mirrors 9 = .ok (.getfield 9, 3) := by decide +kernel
theorem dX0_mirrors_12 : decode cX0_mirrors 12 = .ok (.iload_n 3, 1) := by decide +kernel
theorem dX0_mirrors_13 : decode cX0_mirrors 13 = .ok (.iaload, 1) := by decide +kernel
theorem dX0_mirrors_14 : decode cX0_mirrors 14 = .ok (.iload_n 2, 1) := by decide +kernel
theorem dX0_mirrors_15 : decode cX0_mirrors 15 = .ok (.getstatic 27, 3) := by decide +kernel
theorem dX0_mirrors_18 : decode cX0_mirrors 18 = .ok (.iload_n 3, 1) := by decide +kernel
theorem dX0_mirrors_19 : decode cX0_mirrors 19 = .ok (.iaload, 1) := by decide +kernel
theorem dX0_mirrors_20 : decode cX0_mirrors 20 = .ok (.imul, 1) := by decide +kernel
theorem dX0_mirrors_21 : decode cX0_mirrors 21 = .ok (.aload_n 1, 1) := by decide +kernel
theorem dX0_mirrors_22 : decode cX0_mirrors 22 = .ok (.getfield 9, 3) := by decide +kernel
theorem dX0_mirrors_25 : decode cX0_mirrors 25 = .ok (.iload_n 3, 1) := by decide +kernel
theorem dX0_mirrors_26 : decode cX0_mirrors 26 = .ok (.iaload, 1) := by decide +kernel
theorem dX0_mirrors_27 : decode cX0_mirrors 27 = .ok (.imul, 1) := by decide +kernel
theorem dX0_mirrors_28 : decode cX0_mirrors 28 = .ok (.if_icmp .eq 5, 3) := by decide +kernel
theorem dX0_mirrors_31 : decode cX0_mirrors 31 = .ok (.iconst 0, 1) := by decide +kernel
theorem dX0_mirrors_32 : decode cX0_mirrors 32 = .ok (.ireturn, 1) := by decide +kernel
theorem dX0_mirrors_33 : decode cX0_mirrors 33 = .ok (.iinc 3 1, 3) := by decide +kernel
theorem dX0_mirrors_36 : decode cX0_mirrors 36 = .ok (.goto (-34), 3) := by decide +kernel
theorem dX0_mirrors_39 : decode cX0_mirrors 39 = .ok (.aload_n 0, 1) := by decide +kernel
theorem dX0_mirrors_40 : decode cX0_mirrors 40 = .ok (.invokevirtual 30, 3) := by decide +kernel
theorem dX0_mirrors_43 : decode cX0_mirrors 43 = .ok (.ifCond .eq 21, 3) := by decide +kernel
theorem dX0_mirrors_46 : decode cX0_mirrors 46 = .ok (.aload_n 0, 1) := by decide +kernel
theorem dX0_mirrors_47 : decode cX0_mirrors 47 = .ok (.getfield 9, 3) := by decide +kernel
theorem dX0_mirrors_50 : decode cX0_mirrors 50 = .ok (.bipush 7, 2) := by decide +kernel
theorem dX0_mirrors_52 : decode cX0_mirrors 52 = .ok (.iaload, 1) := by decide +kernel
theorem dX0_mirrors_53 : decode cX0_mirrors 53 = .ok (.aload_n 1, 1) := by decide +kernel
theorem dX0_mirrors_54 : decode cX0_mirrors 54 = .ok (.getfield 9, 3) := by decide +kernel
theorem dX0_mirrors_57 : decode cX0_mirrors 57 = .ok (.bipush 7, 2) := by decide +kernel
theorem dX0_mirrors_59 : decode cX0_mirrors 59 = .ok (.iaload, 1) := by decide +kernel
theorem dX0_mirrors_60 : decode cX0_mirrors 60 = .ok (.ineg, 1) := by decide +kernel
theorem dX0_mirrors_61 : decode cX0_mirrors 61 = .ok (.if_icmp .ne 7, 3) := by decide +kernel
theorem dX0_mirrors_64 : decode cX0_mirrors 64 = .ok (.iconst 1, 1) := by decide +kernel
theorem dX0_mirrors_65 : decode cX0_mirrors 65 = .ok (.goto 4, 3) := by decide +kernel
theorem dX0_mirrors_68 : decode cX0_mirrors 68 = .ok (.iconst 0, 1) := by decide +kernel
theorem dX0_mirrors_69 : decode cX0_mirrors 69 = .ok (.ireturn, 1) := by decide +kernel
end
section
theorem dX1_init_0 : decode cX1_init 0 = .ok (.aload_n 0, 1) := by decide +kernel
theorem dX1_init_1 : decode cX1_init 1 = .ok (.invokespecial 3, 3) := by decide +kernel
theorem dX1_init_4 : decode cX1_init 4 = .ok (.aload_n 0, 1) := by decide +kernel
theorem dX1_init_5 : decode cX1_init 5 = .ok (.lconst 0, 1) := by decide +kernel
theorem dX1_init_6 : decode cX1_init 6 = .ok (.putfield 9, 3) := by decide +kernel
theorem dX1_init_9 : decode cX1_init 9 = .ok (.aload_n 0, 1) := by decide +kernel
theorem dX1_init_10 : decode cX1_init 10 = .ok (.getstatic 15, 3) := by decide +kernel
theorem dX1_init_13 : decode cX1_init 13 = .ok (.arraylength, 1) := by decide +kernel
theorem dX1_init_14 : decode cX1_init 14 = .ok (.newarray .int, 2) := by decide +kernel
theorem dX1_init_16 : decode cX1_init 16 = .ok (.putfield 19, 3) := by decide +kernel
theorem dX1_init_19 : decode cX1_init 19 = .ok (.return_, 1) := by decide +kernel
theorem dX1_wipe_0 : decode cX1_wipe 0 = .ok (.aload_n 0, 1) := by decide +kernel
theorem dX1_wipe_1 : decode cX1_wipe 1 = .ok (.lconst 0, 1) := by decide +kernel
theorem dX1_wipe_2 : decode cX1_wipe 2 = .ok (.putfield 9, 3) := by decide +kernel
theorem dX1_wipe_5 : decode cX1_wipe 5 = .ok (.aload_n 0, 1) := by decide +kernel
theorem dX1_wipe_6 : decode cX1_wipe 6 = .ok (.getfield 19, 3) := by decide +kernel
theorem dX1_wipe_9 : decode cX1_wipe 9 = .ok (.iconst 0, 1) := by decide +kernel
theorem dX1_wipe_10 : decode cX1_wipe 10 = .ok (.invokestatic 22, 3) := by decide +kernel
theorem dX1_wipe_13 : decode cX1_wipe 13 = .ok (.return_, 1) := by decide +kernel
theorem dX1_addPrimitive_0 : decode cX1_addPrimitive 0 = .ok (.iload_n 2, 1) := by decide +kernel
theorem dX1_addPrimitive_1 : decode cX1_addPrimitive 1 = .ok (.invokestatic 28, 3) := by decide +kernel
theorem dX1_addPrimitive_4 : decode cX1_addPrimitive 4 = .ok (.ifCond .eq 4, 3) := by decide +kernel
theorem dX1_addPrimitive_7 : decode cX1_addPrimitive 7 = .ok (.return_, 1) := by decide +kernel
theorem dX1_addPrimitive_8 : decode cX1_addPrimitive 8 = .ok (.aload_n 0, 1) := by decide +kernel
theorem dX1_addPrimitive_9 : decode cX1_addPrimitive 9 = .ok (.dup, 1) := by decide +kernel
theorem dX1_addPrimitive_10 : decode cX1_addPrimitive 10 = .ok (.getfield 9, 3) := by decide +kernel
theorem dX1_addPrimitive_13 : decode cX1_addPrimitive 13 = .ok (.iload_n 3, 1) := by decide +kernel
theorem dX1_addPrimitive_14 : decode cX1_addPrimitive 14 = .ok (.i2l, 1) := by decide +kernel
theorem dX1_addPrimitive_15 : decode cX1_addPrimitive 15 = .ok (.aload_n 1, 1) := by decide +kernel
theorem dX1_addPrimitive_16 : decode cX1_addPrimitive 16 = .ok (.iload_n 2, 1) := by decide +kernel
theorem dX1_addPrimitive_17 : decode cX1_addPrimitive 17 = .ok (.i2l, 1) := by decide +kernel
theorem dX1_addPrimitive_18 : decode cX1_addPrimitive 18 = .ok (.invokevirtual 32, 3) := by decide +kernel
theorem dX1_addPrimitive_21 : decode cX1_addPrimitive 21 = .ok (.lmul, 1) := by decide +kernel
theorem dX1_addPrimitive_22 : decode cX1_addPrimitive 22 = .ok (.ldc2_w 38, 3) := by decide +kernel
theorem dX1_addPrimitive_25 : decode cX1_addPrimitive 25 = .ok (.lmul, 1) := by decide +kernel
theorem dX1_addPrimitive_26 : decode cX1_addPrimitive 26 = .ok (.ladd, 1) := by decide +kernel
theorem dX1_addPrimitive_27 : decode cX1_addPrimitive 27 = .ok (.putfield 9, 3) := by decide +kernel
theorem dX1_addPrimitive_30 : decode cX1_addPrimitive 30 = .ok (.iload_n 2, 1) := by decide +kernel
theorem dX1_addPrimitive_31 : decode cX1_addPrimitive 31 = .ok (.aload_n 1, 1) := by decide +kernel
theorem dX1_addPrimitive_32 : decode cX1_addPrimitive 32 = .ok (.getfield 40, 3) := by decide +kernel
theorem dX1_addPrimitive_35 : decode cX1_addPrimitive 35 = .ok (.bipush 7, 2) := by decide +kernel
theorem dX1_addPrimitive_37 : decode cX1_addPrimitive 37 = .ok (.iaload, 1) := by decide +kernel
theorem dX1_addPrimitive_38 : decode cX1_addPrimitive 38 = .ok (.isub, 1) := by decide +kernel
theorem dX1_addPrimitive_39 : decode cX1_addPrimitive 39 = .ok (.istore 4, 2) := by decide +kernel
theorem dX1_addPrimitive_41 : decode cX1_addPrimitive 41 = .ok (.aload_n 1, 1) := by decide +kernel
theorem dX1_addPrimitive_42 : decode cX1_addPrimitive 42 = .ok (.invokevirtual 43, 3) := by decide +kernel
theorem dX1_addPrimitive_45 : decode cX1_addPrimitive 45 = .ok (.ifCond .eq 83, 3) := by decide +kernel
theorem dX1_addPrimitive_48 : decode cX1_addPrimitive 48 = .ok (.iload 4, 2) := by decide +kernel
theorem dX1_addPrimitive_50 : decode cX1_addPrimitive 50 = .ok (.ifCond .eq 78, 3) := by decide +kernel
theorem dX1_addPrimitive_53 : decode cX1_addPrimitive 53 = .ok (.aload_n 0, 1) := by decide +kernel
theorem dX1_addPrimitive_54 : decode cX1_addPrimitive 54 = .ok (.dup, 1) := by decide +kernel
theorem dX1_addPrimitive_55 : decode cX1_addPrimitive 55 = .ok (.getfield 9, 3) := by decide +kernel
theorem dX1_addPrimitive_58 : decode cX1_addPrimitive 58 = .ok (.iload_n 3, 1) := by decide +kernel
theorem dX1_addPrimitive_59 : decode cX1_addPrimitive 59 = .ok (.aload_n 1, 1) := by decide +kernel
theorem dX1_addPrimitive_60 : decode cX1_addPrimitive 60 = .ok (.getfield 40, 3) := by decide +kernel
theorem dX1_addPrimitive_63 : decode cX1_addPrimitive 63 = .ok (.iconst 5, 1) := by decide +kernel
theorem dX1_addPrimitive_64 : decode cX1_addPrimitive 64 = .ok (.iaload, 1) := by decide +kernel
theorem dX1_addPrimitive_65 : decode cX1_addPrimitive 65 = .ok (.imul, 1) := by decide +kernel
theorem dX1_addPrimitive_66 : decode cX1_addPrimitive 66 = .ok (.i2l, 1) := by decide +kernel
theorem dX1_addPrimitive_67 : decode cX1_addPrimitive 67 = .ok (.ldc2_w 47, 3) := by decide +kernel
theorem dX1_addPrimitive_70 : decode cX1_addPrimitive 70 = .ok (.iload 4, 2) := by decide +kernel
theorem dX1_addPrimitive_72 : decode cX1_addPrimitive 72 = .ok (.i2l, 1) := by decide +kernel
theorem dX1_addPrimitive_73 : decode cX1_addPrimitive 73 = .ok (.ldiv, 1) := by decide +kernel
theorem dX1_addPrimitive_74 : decode cX1_addPrimitive 74 = .ok (.lmul, 1) := by decide +kernel
theorem dX1_addPrimitive_75 : decode cX1_addPrimitive 75 = .ok (.lsub, 1) := by decide +kernel
theorem dX1_addPrimitive_76 : decode cX1_addPrimitive 76 = .ok (.putfield 9, 3) := by decide +kernel
theorem dX1_addPrimitive_79 : decode cX1_addPrimitive 79 = .ok (.aload_n 0, 1) := by decide +kernel
theorem dX1_addPrimitive_80 : decode cX1_addPrimitive 80 = .ok (.dup, 1) := by decide +kernel
theorem dX1_addPrimitive_81 : decode cX1_addPrimitive 81 = .ok (.getfield 9, 3) := by decide +kernel
theorem dX1_addPrimitive_84 : decode cX1_addPrimitive 84 = .ok (.iload_n 3, 1) := by decide +kernel
theorem dX1_addPrimitive_85 : decode cX1_addPrimitive 85 = .ok (.aload_n 1, 1) := by decide +kernel
theorem dX1_addPrimitive_86 : decode cX1_addPrimitive 86 = .ok (.getfield 40, 3) := by decide +kernel
theorem dX1_addPrimitive_89 : decode cX1_addPrimitive 89 = .ok (.bipush 6, 2) := by decide +kernel
theorem dX1_addPrimitive_91 : decode cX1_addPrimitive 91 = .ok (.iaload, 1) := by decide +kernel
theorem dX1_addPrimitive_92 : decode cX1_addPrimitive 92 = .ok (.imul, 1) := by decide +kernel
theorem dX1_addPrimitive_93 : decode cX1_addPrimitive 93 = .ok (.i2l, 1) := by decide +kernel
theorem dX1_addPrimitive_94 : decode cX1_addPrimitive 94 = .ok (.ldc2_w 47, 3) := by decide +kernel
theorem dX1_addPrimitive_97 : decode cX1_addPrimitive 97 = .ok (.iconst 2, 1) := by decide +kernel
theorem dX1_addPrimitive_98 : decode cX1_addPrimitive 98 = .ok (.iload 4, 2) := by decide +kernel
theorem dX1_addPrimitive_100 : decode cX1_addPrimitive 100 = .ok (.imul, 1) := by decide +kernel
theorem dX1_addPrimitive_101 : decode cX1_addPrimitive 101 = .ok (.iload 4, 2) := by decide +kernel
theorem dX1_addPrimitive_103 : decode cX1_addPrimitive 103 = .ok (.imul, 1) := by decide +kernel
theorem dX1_addPrimitive_104 : decode cX1_addPrimitive 104 = .ok (.i2l, 1) := by decide +kernel
theorem dX1_addPrimitive_105 : decode cX1_addPrimitive 105 = .ok (.ldiv, 1) := by decide +kernel
theorem dX1_addPrimitive_106 : decode cX1_addPrimitive 106 = .ok (.lmul, 1) := by decide +kernel
theorem dX1_addPrimitive_107 : decode cX1_addPrimitive 107 = .ok (.lsub, 1) := by decide +kernel
theorem dX1_addPrimitive_108 : decode cX1_addPrimitive 108 = .ok (.putfield 9, 3) := by decide +kernel
theorem dX1_addPrimitive_111 : decode cX1_addPrimitive 111 = .ok (.aload_n 0, 1) := by decide +kernel
theorem dX1_addPrimitive_112 : decode cX1_addPrimitive 112 = .ok (.iload 4, 2) := by decide +kernel
theorem dX1_addPrimitive_114 : decode cX1_addPrimitive 114 = .ok (.invokestatic 49, 3) := by decide +kernel
theorem dX1_addPrimitive_117 : decode cX1_addPrimitive 117 = .ok (.iload_n 3, 1) := by decide +kernel
theorem dX1_addPrimitive_118 : decode cX1_addPrimitive 118 = .ok (.aload_n 1, 1) := by decide +kernel
theorem dX1_addPrimitive_119 : decode cX1_addPrimitive 119 = .ok (.getfield 40, 3) := by decide +kernel
theorem dX1_addPrimitive_122 : decode cX1_addPrimitive 122 = .ok (.iconst 4, 1) := by decide +kernel
theorem dX1_addPrimitive_123 : decode cX1_addPrimitive 123 = .ok (.iaload, 1) := by decide +kernel
theorem dX1_addPrimitive_124 : decode cX1_addPrimitive 124 = .ok (.imul, 1) := by decide +kernel
theorem dX1_addPrimitive_125 : decode cX1_addPrimitive 125 = .ok (.invokevirtual 55, 3) := by decide +kernel
theorem dX1_addPrimitive_128 : decode cX1_addPrimitive 128 = .ok (.return_, 1) := by decide +kernel
theorem dX1_addLogarithm_0 : decode cX1_addLogarithm 0 = .ok (.iconst 0, 1) := by decide +kernel
theorem dX1_addLogarithm_1 : decode cX1_addLogarithm 1 = .ok (.istore_n 3, 1) := by decide +kernel
theorem dX1_addLogarithm_2 : decode cX1_addLogarithm 2 = .ok (.iload_n 3, 1) := by decide +kernel
theorem dX1_addLogarithm_3 : decode cX1_addLogarithm 3 = .ok (.getstatic 15, 3) := by decide +kernel
theorem dX1_addLogarithm_6 : decode cX1_addLogarithm 6 = .ok (.arraylength, 1) := by decide +kernel
theorem dX1_addLogarithm_7 : decode cX1_addLogarithm 7 = .ok (.if_icmp .ge 29, 3) := by decide +kernel
theorem dX1_addLogarithm_10 : decode cX1_addLogarithm 10 = .ok (.aload_n 0, 1) := by decide +kernel
theorem dX1_addLogarithm_11 : decode cX1_addLogarithm 11 = .ok (.getfield 19, 3) := by decide +kernel
theorem dX1_addLogarithm_14 : decode cX1_addLogarithm 14 = .ok (.iload_n 3, 1) := by decide +kernel
theorem dX1_addLogarithm_15 : decode cX1_addLogarithm 15 = .ok (.dup2, 1) := by decide +kernel
theorem dX1_addLogarithm_16 : decode cX1_addLogarithm 16 = .ok (.iaload, 1) := by decide +kernel
theorem dX1_addLogarithm_17 : decode cX1_addLogarithm 17 = .ok (.iload_n 2, 1) := by decide +kernel
theorem dX1_addLogarithm_18 : decode cX1_addLogarithm 18 = .ok (.getstatic 15, 3) := by decide +kernel
theorem dX1_addLogarithm_21 : decode cX1_addLogarithm 21 = .ok (.iload_n 3, 1) := by decide +kernel
theorem dX1_addLogarithm_22 : decode cX1_addLogarithm 22 = .ok (.iaload, 1) := by decide +kernel
theorem dX1_addLogarithm_23 : decode cX1_addLogarithm 23 = .ok (.iload_n 1, 1) := by decide +kernel
theorem dX1_addLogarithm_24 : decode cX1_addLogarithm 24 = .ok (.invokestatic 59, 3) := by decide +kernel
theorem dX1_addLogarithm_27 : decode cX1_addLogarithm 27 = .ok (.imul, 1) := by decide +kernel
theorem dX1_addLogarithm_28 : decode cX1_addLogarithm 28 = .ok (.iadd, 1) := by decide +kernel
theorem dX1_addLogarithm_29 : decode cX1_addLogarithm 29 = .ok (.iastore, 1) := by decide +kernel
theorem dX1_addLogarithm_30 : decode cX1_addLogarithm 30 = .ok (.iinc 3 1, 3) := by decide +kernel
theorem dX1_addLogarithm_33 : decode cX1_addLogarithm 33 = .ok (.goto (-31), 3) := by decide +kernel
theorem dX1_addLogarithm_36 : decode cX1_addLogarithm 36 = .ok (.return_, 1) := by decide +kernel
end
section
theorem dX2_init_0 : decode cX2_init 0 = .ok (.aload_n 0, 1) := by decide +kernel
theorem dX2_init_1 : decode cX2_init 1 = .ok (.invokespecial 1, 3) := by decide +kernel
theorem dX2_init_4 : decode cX2_init 4 = .ok (.aload_n 0, 1) := by decide +kernel
theorem dX2_init_5 : decode cX2_init 5 = .ok (.iconst 3, 1) := by decide +kernel
theorem dX2_init_6 : decode cX2_init 6 = .ok (.newarray .int, 2) := by decide +kernel
theorem dX2_init_8 : decode cX2_init 8 = .ok (.putfield 9, 3) := by decide +kernel
theorem dX2_init_11 : decode cX2_init 11 = .ok (.aload_n 0, 1) := by decide +kernel
theorem dX2_init_12 : decode cX2_init 12 = .ok (.iconst 4, 1) := by decide +kernel
theorem dX2_init_13 : decode cX2_init 13 = .ok (.anewarray 13, 3) := by decide +kernel
theorem dX2_init_16 : decode cX2_init 16 = .ok (.putfield 15, 3) := by decide +kernel
theorem dX2_init_19 : decode cX2_init 19 = .ok (.aload_n 0, 1) := by decide +kernel
theorem dX2_init_20 : decode cX2_init 20 = .ok (.new 19, 3) := by decide +kernel
theorem dX2_init_23 : decode cX2_init 23 = .ok (.dup, 1) := by decide +kernel
theorem dX2_init_24 : decode cX2_init 24 = .ok (.invokespecial 21, 3) := by decide +kernel
theorem dX2_init_27 : decode cX2_init 27 = .ok (.putfield 22, 3) := by decide +kernel
theorem dX2_init_30 : decode cX2_init 30 = .ok (.aload_n 0, 1) := by decide +kernel
theorem dX2_init_31 : decode cX2_init 31 = .ok (.iconst 0, 1) := by decide +kernel
theorem dX2_init_32 : decode cX2_init 32 = .ok (.putfield 26, 3) := by decide +kernel
theorem dX2_init_35 : decode cX2_init 35 = .ok (.aload_n 0, 1) := by decide +kernel
theorem dX2_init_36 : decode cX2_init 36 = .ok (.iconst 0, 1) := by decide +kernel
theorem dX2_init_37 : decode cX2_init 37 = .ok (.putfield 30, 3) := by decide +kernel
theorem dX2_init_40 : decode cX2_init 40 = .ok (.iconst 0, 1) := by decide +kernel
theorem dX2_init_41 : decode cX2_init 41 = .ok (.istore_n 1, 1) := by decide +kernel
theorem dX2_init_42 : decode cX2_init 42 = .ok (.iload_n 1, 1) := by decide +kernel
theorem dX2_init_43 : decode cX2_init 43 = .ok (.iconst 3, 1) := by decide +kernel
theorem dX2_init_44 : decode cX2_init 44 = .ok (.if_icmp .gt 22, 3) := by decide +kernel
theorem dX2_init_47 : decode cX2_init 47 = .ok (.aload_n 0, 1) := by decide +kernel
theorem dX2_init_48 : decode cX2_init 48 = .ok (.getfield 15, 3) := by decide +kernel
theorem dX2_init_51 : decode cX2_init 51 = .ok (.iload_n 1, 1) := by decide +kernel
theorem dX2_init_52 : decode cX2_init 52 = .ok (.new 13, 3) := by decide +kernel
theorem dX2_init_55 : decode cX2_init 55 = .ok (.dup, 1) := by decide +kernel
theorem dX2_init_56 : decode cX2_init 56 = .ok (.invokespecial 34, 3) := by decide +kernel
theorem dX2_init_59 : decode cX2_init 59 = .ok (.aastore, 1) := by decide +kernel
theorem dX2_init_60 : decode cX2_init 60 = .ok (.iinc 1 1, 3) := by decide +kernel
theorem dX2_init_63 : decode cX2_init 63 = .ok (.goto (-21), 3) := by decide +kernel
theorem dX2_init_66 : decode cX2_init 66 = .ok (.return_, 1) := by decide +kernel
theorem dX2_cut_0 : decode cX2_cut 0 = .ok (.iload_n 1, 1) := by decide +kernel
theorem dX2_cut_1 : decode cX2_cut 1 = .ok (.bipush 6, 2) := by decide +kernel
theorem dX2_cut_3 : decode cX2_cut 3 = .ok (.invokestatic 35, 3) := by decide +kernel
theorem dX2_cut_6 : decode cX2_cut 6 = .ok (.ifCond .eq 11, 3) := by decide +kernel
theorem dX2_cut_9 : decode cX2_cut 9 = .ok (.aload_n 0, 1) := by decide +kernel
theorem dX2_cut_10 : decode cX2_cut 10 = .ok (.iload_n 1, 1) := by decide +kernel
theorem dX2_cut_11 : decode cX2_cut 11 = .ok (.invokevirtual 39, 3) := by decide +kernel
theorem dX2_cut_14 : decode cX2_cut 14 = .ok (.ifCond .eq 13, 3) := by decide +kernel
theorem dX2_cut_17 : decode cX2_cut 17 = .ok (.new 43, 3) := by decide +kernel
theorem dX2_cut_20 : decode cX2_cut 20 = .ok (.dup, 1) := by decide +kernel
theorem dX2_cut_21 : decode cX2_cut 21 = .ok (.ldc 45, 2) := by decide +kernel
theorem dX2_cut_23 : decode cX2_cut 23 = .ok (.invokespecial 47, 3) := by decide +kernel
theorem dX2_cut_26 : decode cX2_cut 26 = .ok (.athrow, 1) := by decide +kernel
theorem dX2_cut_27 : decode cX2_cut 27 = .ok (.aload_n 0, 1) := by decide +kernel
theorem dX2_cut_28 : decode cX2_cut 28 = .ok (.getfield 26, 3) := by decide +kernel
theorem dX2_cut_31 : decode cX2_cut 31 = .ok (.iconst 3, 1) := by decide +kernel
theorem dX2_cut_32 : decode cX2_cut 32 = .ok (.if_icmp .lt 13, 3) := by decide +kernel
theorem dX2_cut_35 : decode cX2_cut 35 = .ok (.new 50, 3) := by decide +kernel
theorem dX2_cut_38 : decode cX2_cut 38 = .ok (.dup, 1) := by decide +kernel
theorem dX2_cut_39 : decode cX2_cut 39 = .ok (.ldc 52, 2) := by decide +kernel
theorem dX2_cut_41 : decode cX2_cut 41 = .ok (.invokespecial 54, 3) := by decide +kernel
theorem dX2_cut_44 : decode cX2_cut 44 = .ok (.athrow, 1) := by decide +kernel
theorem dX2_cut_45 : decode cX2_cut 45 = .ok (.aload_n 0, 1) := by decide +kernel
theorem dX2_cut_46 : decode cX2_cut 46 = .ok (.iload_n 1, 1) := by decide +kernel
theorem dX2_cut_47 : decode cX2_cut 47 = .ok (.invokevirtual 55, 3) := by decide +kernel
theorem dX2_cut_50 : decode cX2_cut 50 = .ok (.istore_n 2, 1) := by decide +kernel
theorem dX2_cut_51 : decode cX2_cut 51 = .ok (.aload_n 0, 1) := by decide +kernel
theorem dX2_cut_52 : decode cX2_cut 52 = .ok (.getfield 26, 3) := by decide +kernel
theorem dX2_cut_55 : decode cX2_cut 55 = .ok (.istore_n 3, 1) := by decide +kernel
theorem dX2_cut_56 : decode cX2_cut 56 = .ok (.iload_n 3, 1) := by decide +kernel
theorem dX2_cut_57 : decode cX2_cut 57 = .ok (.iload_n 2, 1) := by decide +kernel
theorem dX2_cut_58 : decode cX2_cut 58 = .ok (.if_icmp .le 23, 3) := by decide +kernel
theorem dX2_cut_61 : decode cX2_cut 61 = .ok (.aload_n 0, 1) := by decide +kernel
theorem dX2_cut_62 : decode cX2_cut 62 = .ok (.getfield 9, 3) := by decide +kernel
theorem dX2_cut_65 : decode cX2_cut 65 = .ok (.iload_n 3, 1) := by decide +kernel
theorem dX2_cut_66 : decode cX2_cut 66 = .ok (.aload_n 0, 1) := by decide +kernel
theorem dX2_cut_67 : decode cX2_cut 67 = .ok (.getfield 9, 3) := by decide +kernel
theorem dX2_cut_70 : decode cX2_cut 70 = .ok (.iload_n 3, 1) := by decide +kernel
theorem dX2_cut_71 : decode cX2_cut 71 = .ok (.iconst 1, 1) := by decide +kernel
theorem dX2_cut_72 : decode cX2_cut 72 = .ok (.isub, 1) := by decide +kernel
theorem dX2_cut_73 : decode cX2_cut 73 = .ok (.iaload, 1) := by decide +kernel
theorem dX2_cut_74 : decode cX2_cut 74 = .ok (.iastore, 1) := by decide +kernel
theorem dX2_cut_75 : decode cX2_cut 75 = .ok (.iinc 3 (-1), 3) := by decide +kernel
theorem dX2_cut_78 : decode cX2_cut 78 = .ok (.goto (-22), 3) := by decide +kernel
theorem dX2_cut_81 : decode cX2_cut 81 = .ok (.aload_n 0, 1) := by decide +kernel
theorem dX2_cut_82 : decode cX2_cut 82 = .ok (.getfield 26, 3) := by decide +kernel
theorem dX2_cut_85 : decode cX2_cut 85 = .ok (.istore_n 3, 1) := by decide +kernel
theorem dX2_cut_86 : decode cX2_cut 86 = .ok (.iload_n 3, 1) := by decide +kernel
theorem dX2_cut_87 : decode cX2_cut 87 = .ok (.iload_n 2, 1) := by decide +kernel
theorem dX2_cut_88 : decode cX2_cut 88 = .ok (.if_icmp .lt 26, 3) := by decide +kernel
theorem dX2_cut_91 : decode cX2_cut 91 = .ok (.aload_n 0, 1) := by decide +kernel
theorem dX2_cut_92 : decode cX2_cut 92 = .ok (.getfield 15, 3) := by decide +kernel
theorem dX2_cut_95 : decode cX2_cut 95 = .ok (.iload_n 3, 1) := by decide +kernel
theorem dX2_cut_96 : decode cX2_cut 96 = .ok (.iconst 1, 1) := by decide +kernel
theorem dX2_cut_97 : decode cX2_cut 97 = .ok (.iadd, 1) := by decide +kernel
theorem dX2_cut_98 : decode cX2_cut 98 = .ok (.aaload, 1) := by decide +kernel
theorem dX2_cut_99 : decode cX2_cut 99 = .ok (.aload_n 0, 1) := by decide +kernel
theorem dX2_cut_100 : decode cX2_cut 100 = .ok (.getfield 15, 3) := by decide +kernel
theorem dX2_cut_103 : decode cX2_cut 103 = .ok (.iload_n 3, 1) := by decide +kernel
theorem dX2_cut_104 : decode cX2_cut 104 = .ok (.aaload, 1) := by decide +kernel
theorem dX2_cut_105 : decode cX2_cut 105 = .ok (.invokevirtual 59, 3) := by decide +kernel
theorem dX2_cut_108 : decode cX2_cut 108 = .ok (.iinc 3 (-1), 3) := by decide +kernel
theorem dX2_cut_111 : decode cX2_cut 111 = .ok (.goto (-25), 3) := by decide +kernel
theorem dX2_cut_114 : decode cX2_cut 114 = .ok (.aload_n 0, 1) := by decide +kernel
theorem dX2_cut_115 : decode cX2_cut 115 = .ok (.getfield 9, 3) := by decide +kernel
theorem dX2_cut_118 : decode cX2_cut 118 = .ok (.iload_n 2, 1) := by decide +kernel
theorem dX2_cut_119 : decode cX2_cut 119 = .ok (.iload_n 1, 1) := by decide +kernel
theorem dX2_cut_120 : decode cX2_cut 120 = .ok (.iastore, 1) := by decide +kernel
theorem dX2_cut_121 : decode cX2_cut 121 = .ok (.aload_n 0, 1) := by decide +kernel
theorem dX2_cut_122 : decode cX2_cut 122 = .ok (.dup, 1) := by decide +kernel
theorem dX2_cut_123 : decode cX2_cut 123 = .ok (.getfield 26, 3) := by decide +kernel
theorem dX2_cut_126 : decode cX2_cut 126 = .ok (.iconst 1, 1) := by decide +kernel
theorem dX2_cut_127 : decode cX2_cut 127 = .ok (.iadd, 1) := by decide +kernel
theorem dX2_cut_128 : decode cX2_cut 128 = .ok (.putfield 26, 3) := by decide +kernel
theorem dX2_cut_131 : decode cX2_cut 131 = .ok (.iload_n 2, 1) := by decide +kernel
theorem dX2_cut_132 : decode cX2_cut 132 = .ok (.ireturn, 1) := by decide +kernel
theorem dX2_join_0 : decode cX2_join 0 = .ok (.iload_n 1, 1) := by decide +kernel
theorem dX2_join_1 : decode cX2_join 1 = .ok (.ifCond .lt 11, 3) := by decide +kernel
theorem dX2_join_4 : decode cX2_join 4 = .ok (.iload_n 1, 1) := by decide +kernel
theorem dX2_join_5 : decode cX2_join 5 = .ok (.aload_n 0, 1) := by decide +kernel
theorem dX2_join_6 : decode cX2_join 6 = .ok (.getfield 26, 3) := by decide +kernel
theorem dX2_join_9 : decode cX2_join 9 = .ok (.if_icmp .lt 13, 3) := by decide +kernel
theorem dX2_join_12 : decode cX2_join 12 = .ok (.new 63, 3) := by decide +kernel
theorem dX2_join_15 : decode cX2_join 15 = .ok (.dup, 1) := by decide +kernel
theorem dX2_join_16 : decode cX2_join 16 = .ok (.ldc 65, 2) := by decide +kernel
theorem dX2_join_18 : decode cX2_join 18 = .ok (.invokespecial 67, 3) := by decide +kernel
theorem dX2_join_21 : decode cX2_join 21 = .ok (.athrow, 1) := by decide +kernel
theorem dX2_join_22 : decode cX2_join 22 = .ok (.iload_n 1, 1) := by decide +kernel
theorem dX2_join_23 : decode cX2_join 23 = .ok (.istore_n 2, 1) := by decide +kernel
theorem dX2_join_24 : decode cX2_join 24 = .ok (.iload_n 2, 1) := by decide +kernel
theorem dX2_join_25 : decode cX2_join 25 = .ok (.aload_n 0, 1) := by decide +kernel
theorem dX2_join_26 : decode cX2_join 26 = .ok (.getfield 26, 3) := by decide +kernel
theorem dX2_join_29 : decode cX2_join 29 = .ok (.iconst 1, 1) := by decide +kernel
theorem dX2_join_30 : decode cX2_join 30 = .ok (.isub, 1) := by decide +kernel
theorem dX2_join_31 : decode cX2_join 31 = .ok (.if_icmp .ge 42, 3) := by decide +kernel
theorem dX2_join_34 : decode cX2_join 34 = .ok (.aload_n 0, 1) := by decide +kernel
theorem dX2_join_35 : decode cX2_join 35 = .ok (.getfield 9, 3) := by decide +kernel
theorem dX2_join_38 : decode cX2_join 38 = .ok (.iload_n 2, 1) := by decide +kernel
theorem dX2_join_39 : decode cX2_join 39 = .ok (.aload_n 0, 1) := by decide +kernel
theorem dX2_join_40 : decode cX2_join 40 = .ok (.getfield 9, 3) := by decide +kernel
theorem dX2_join_43 : decode cX2_join 43 = .ok (.iload_n 2, 1) := by decide +kernel
theorem dX2_join_44 : decode cX2_join 44 = .ok (.iconst 1, 1) := by decide +kernel
theorem dX2_join_45 : decode cX2_join 45 = .ok (.iadd, 1) := by decide +kernel
theorem dX2_join_46 : decode cX2_join 46 = .ok (.iaload, 1) := by decide +kernel
theorem dX2_join_47 : decode cX2_join 47 = .ok (.iastore, 1) := by decide +kernel
theorem dX2_join_48 : decode cX2_join 48 = .ok (.aload_n 0, 1) := by decide +kernel
theorem dX2_join_49 : decode cX2_join 49 = .ok (.getfield 15, 3) := by decide +kernel
theorem dX2_join_52 : decode cX2_join 52 = .ok (.iload_n 2, 1) := by decide +kernel
theorem dX2_join_53 : decode cX2_join 53 = .ok (.iconst 1, 1) := by decide +kernel
theorem dX2_join_54 : decode cX2_join 54 = .ok (.iadd, 1) := by decide +kernel
theorem dX2_join_55 : decode cX2_join 55 = .ok (.aaload, 1) := by decide +kernel
theorem dX2_join_56 : decode cX2_join 56 = .ok (.aload_n 0, 1) := by decide +kernel
theorem dX2_join_57 : decode cX2_join 57 = .ok (.getfield 15, 3) := by decide +kernel
theorem dX2_join_60 : decode cX2_join 60 = .ok (.iload_n 2, 1) := by decide +kernel
theorem dX2_join_61 : decode cX2_join 61 = .ok (.iconst 2, 1) := by decide +kernel
theorem dX2_join_62 : decode cX2_join 62 = .ok (.iadd, 1) := by decide +kernel
theorem dX2_join_63 : decode cX2_join 63 = .ok (.aaload, 1) := by decide +kernel
theorem dX2_join_64 : decode cX2_join 64 = .ok (.invokevirtual 59, 3) := by decide +kernel
theorem dX2_join_67 : decode cX2_join 67 = .ok (.iinc 2 1, 3) := by decide +kernel
theorem dX2_join_70 : decode cX2_join 70 = .ok (.goto (-46), 3) := by decide +kernel
theorem dX2_join_73 : decode cX2_join 73 = .ok (.aload_n 0, 1) := by decide +kernel
theorem dX2_join_74 : decode cX2_join 74 = .ok (.dup, 1) := by decide +kernel
theorem dX2_join_75 : decode cX2_join 75 = .ok (.getfield 26, 3) := by decide +kernel
theorem dX2_join_78 : decode cX2_join 78 = .ok (.iconst 1, 1) := by decide +kernel
theorem dX2_join_79 : decode cX2_join 79 = .ok (.isub, 1) := by decide +kernel
theorem dX2_join_80 : decode cX2_join 80 = .ok (.putfield 26, 3) := by decide +kernel
theorem dX2_join_83 : decode cX2_join 83 = .ok (.return_, 1) := by decide +kernel
theorem dX2_put_0 : decode cX2_put 0 = .ok (.iload_n 1, 1) := by decide +kernel
theorem dX2_put_1 : decode cX2_put 1 = .ok (.ifCond .lt 11, 3) := by decide +kernel
theorem dX2_put_4 : decode cX2_put 4 = .ok (.iload_n 1, 1) := by decide +kernel
theorem dX2_put_5 : decode cX2_put 5 = .ok (.aload_n 0, 1) := by decide +kernel
theorem dX2_put_6 : decode cX2_put 6 = .ok (.getfield 26, 3) := by decide +kernel
theorem dX2_put_9 : decode cX2_put 9 = .ok (.if_icmp .le 13, 3) := by decide +kernel
theorem dX2_put_12 : decode cX2_put 12 = .ok (.new 63, 3) := by decide +kernel
theorem dX2_put_15 : decode cX2_put 15 = .ok (.dup, 1) := by decide +kernel
theorem dX2_put_16 : decode cX2_put 16 = .ok (.ldc 68, 2) := by decide +kernel
theorem dX2_put_18 : decode cX2_put 18 = .ok (.invokespecial 67, 3) := by decide +kernel
theorem dX2_put_21 : decode cX2_put 21 = .ok (.athrow, 1) := by decide +kernel
theorem dX2_put_22 : decode cX2_put 22 = .ok (.iload_n 2, 1) := by decide +kernel
theorem dX2_put_23 : decode cX2_put 23 = .ok (.ifCond .lt 9, 3) := by decide +kernel
theorem dX2_put_26 : decode cX2_put 26 = .ok (.iload_n 2, 1) := by decide +kernel
theorem dX2_put_27 : decode cX2_put 27 = .ok (.bipush 8, 2) := by decide +kernel
theorem dX2_put_29 : decode cX2_put 29 = .ok (.if_icmp .lt 13, 3) := by decide +kernel
theorem dX2_put_32 : decode cX2_put 32 = .ok (.new 43, 3) := by decide +kernel
theorem dX2_put_35 : decode cX2_put 35 = .ok (.dup, 1) := by decide +kernel
theorem dX2_put_36 : decode cX2_put 36 = .ok (.ldc 70, 2) := by decide +kernel
theorem dX2_put_38 : decode cX2_put 38 = .ok (.invokespecial 47, 3) := by decide +kernel
theorem dX2_put_41 : decode cX2_put 41 = .ok (.athrow, 1) := by decide +kernel
theorem dX2_put_42 : decode cX2_put 42 = .ok (.iload_n 3, 1) := by decide +kernel
theorem dX2_put_43 : decode cX2_put 43 = .ok (.iload_n 2, 1) := by decide +kernel
theorem dX2_put_44 : decode cX2_put 44 = .ok (.bipush 7, 2) := by decide +kernel
theorem dX2_put_46 : decode cX2_put 46 = .ok (.if_icmp .ne 8, 3) := by decide +kernel
theorem dX2_put_49 : decode cX2_put 49 = .ok (.bipush 6, 2) := by decide +kernel
theorem dX2_put_51 : decode cX2_put 51 = .ok (.goto 4, 3) := by decide +kernel
theorem dX2_put_54 : decode cX2_put 54 = .ok (.iconst 5, 1) := by decide +kernel
theorem dX2_put_55 : decode cX2_put 55 = .ok (.invokestatic 35, 3) := by decide +kernel
theorem dX2_put_58 : decode cX2_put 58 = .ok (.ifCond .ne 13, 3) := by decide +kernel
theorem dX2_put_61 : decode cX2_put 61 = .ok (.new 43, 3) := by decide +kernel
theorem dX2_put_64 : decode cX2_put 64 = .ok (.dup, 1) := by decide +kernel
theorem dX2_put_65 : decode cX2_put 65 = .ok (.ldc 72, 2) := by decide +kernel
theorem dX2_put_67 : decode cX2_put 67 = .ok (.invokespecial 47, 3) := by decide +kernel
theorem dX2_put_70 : decode cX2_put 70 = .ok (.athrow, 1) := by decide +kernel
theorem dX2_put_71 : decode cX2_put 71 = .ok (.aload_n 0, 1) := by decide +kernel
theorem dX2_put_72 : decode cX2_put 72 = .ok (.getfield 15, 3) := by decide +kernel
theorem dX2_put_75 : decode cX2_put 75 = .ok (.iload_n 1, 1) := by decide +kernel
theorem dX2_put_76 : decode cX2_put 76 = .ok (.aaload, 1) := by decide +kernel
theorem dX2_put_77 : decode cX2_put 77 = .ok (.getfield 74, 3) := by decide +kernel
theorem dX2_put_80 : decode cX2_put 80 = .ok (.astore 4, 2) := by decide +kernel
theorem dX2_put_82 : decode cX2_put 82 = .ok (.aload 4, 2) := by decide +kernel
theorem dX2_put_84 : decode cX2_put 84 = .ok (.iload_n 2, 1) := by decide +kernel
theorem dX2_put_85 : decode cX2_put 85 = .ok (.iaload, 1) := by decide +kernel
theorem dX2_put_86 : decode cX2_put 86 = .ok (.iload_n 3, 1) := by decide +kernel
theorem dX2_put_87 : decode cX2_put 87 = .ok (.if_icmp .eq 7, 3) := by decide +kernel
theorem dX2_put_90 : decode cX2_put 90 = .ok (.iconst 1, 1) := by decide +kernel
theorem dX2_put_91 : decode cX2_put 91 = .ok (.goto 4, 3) := by decide +kernel
theorem dX2_put_94 : decode cX2_put 94 = .ok (.iconst 0, 1) := by decide +kernel
theorem dX2_put_95 : decode cX2_put 95 = .ok (.istore 5, 2) := by decide +kernel
theorem dX2_put_97 : decode cX2_put 97 = .ok (.aload 4, 2) := by decide +kernel
theorem dX2_put_99 : decode cX2_put 99 = .ok (.iload_n 2, 1) := by decide +kernel
theorem dX2_put_100 : decode cX2_put 100 = .ok (.iload_n 3, 1) := by decide +kernel
theorem dX2_put_101 : decode cX2_put 101 = .ok (.iastore, 1) := by decide +kernel
theorem dX2_put_102 : decode cX2_put 102 = .ok (.iload 5, 2) := by decide +kernel
theorem dX2_put_104 : decode cX2_put 104 = .ok (.ireturn, 1) := by decide +kernel
theorem dX2_at_0 : decode cX2_at 0 = .ok (.iload_n 1, 1) := by decide +kernel
theorem dX2_at_1 : decode cX2_at 1 = .ok (.ifCond .lt 11, 3) := by decide +kernel
theorem dX2_at_4 : decode cX2_at 4 = .ok (.iload_n 1, 1) := by decide +kernel
theorem dX2_at_5 : decode cX2_at 5 = .ok (.aload_n 0, 1) := by decide +kernel
theorem dX2_at_6 : decode cX2_at 6 = .ok (.getfield 26, 3) := by decide +kernel
theorem dX2_at_9 : decode cX2_at 9 = .ok (.if_icmp .le 13, 3) := by decide +kernel
theorem dX2_at_12 : decode cX2_at 12 = .ok (.new 63, 3) := by decide +kernel
theorem dX2_at_15 : decode cX2_at 15 = .ok (.dup, 1) := by decide +kernel
theorem dX2_at_16 : decode cX2_at 16 = .ok (.ldc 68, 2) := by decide +kernel
theorem dX2_at_18 : decode cX2_at 18 = .ok (.invokespecial 67, 3) := by decide +kernel
theorem dX2_at_21 : decode cX2_at 21 = .ok (.athrow, 1) := by decide +kernel
theorem dX2_at_22 : decode cX2_at 22 = .ok (.iload_n 2, 1) := by decide +kernel
theorem dX2_at_23 : decode cX2_at 23 = .ok (.ifCond .lt 9, 3) := by decide +kernel
theorem dX2_at_26 : decode cX2_at 26 = .ok (.iload_n 2, 1) := by decide +kernel
theorem dX2_at_27 : decode cX2_at 27 = .ok (.bipush 8, 2) := by decide +kernel
theorem dX2_at_29 : decode cX2_at 29 = .ok (.if_icmp .lt 13, 3) := by decide +kernel
theorem dX2_at_32 : decode cX2_at 32 = .ok (.new 43, 3) := by decide +kernel
theorem dX2_at_35 : decode cX2_at 35 = .ok (.dup, 1) := by decide +kernel
theorem dX2_at_36 : decode cX2_at 36 = .ok (.ldc 70, 2) := by decide +kernel
theorem dX2_at_38 : decode cX2_at 38 = .ok (.invokespecial 47, 3) := by decide +kernel
theorem dX2_at_41 : decode cX2_at 41 = .ok (.athrow, 1) := by decide +kernel
theorem dX2_at_42 : decode cX2_at 42 = .ok (.aload_n 0, 1) := by decide +kernel
theorem dX2_at_43 : decode cX2_at 43 = .ok (.getfield 15, 3) := by decide +kernel
theorem dX2_at_46 : decode cX2_at 46 = .ok (.iload_n 1, 1) := by decide +kernel
theorem dX2_at_47 : decode cX2_at 47 = .ok (.aaload, 1) := by decide +kernel
theorem dX2_at_48 : decode cX2_at 48 = .ok (.getfield 74, 3) := by decide +kernel
theorem dX2_at_51 : decode cX2_at 51 = .ok (.iload_n 2, 1) := by decide +kernel
theorem dX2_at_52 : decode cX2_at 52 = .ok (.iaload, 1) := by decide +kernel
theorem dX2_at_53 : decode cX2_at 53 = .ok (.ireturn, 1) := by decide +kernel
theorem dX2_place_0 : decode cX2_place 0 = .ok (.iload_n 1, 1) := by decide +kernel
theorem dX2_place_1 : decode cX2_place 1 = .ok (.ifCond .lt 11, 3) := by decide +kernel
theorem dX2_place_4 : decode cX2_place 4 = .ok (.iload_n 1, 1) := by decide +kernel
theorem dX2_place_5 : decode cX2_place 5 = .ok (.aload_n 0, 1) := by decide +kernel
theorem dX2_place_6 : decode cX2_place 6 = .ok (.getfield 26, 3) := by decide +kernel
theorem dX2_place_9 : decode cX2_place 9 = .ok (.if_icmp .lt 13, 3) := by decide +kernel
theorem dX2_place_12 : decode cX2_place 12 = .ok (.new 63, 3) := by decide +kernel
theorem dX2_place_15 : decode cX2_place 15 = .ok (.dup, 1) := by decide +kernel
theorem dX2_place_16 : decode cX2_place 16 = .ok (.ldc 65, 2) := by decide +kernel
theorem dX2_place_18 : decode cX2_place 18 = .ok (.invokespecial 67, 3) := by decide +kernel
theorem dX2_place_21 : decode cX2_place 21 = .ok (.athrow, 1) := by decide +kernel
theorem dX2_place_22 : decode cX2_place 22 = .ok (.aload_n 0, 1) := by decide +kernel
theorem dX2_place_23 : decode cX2_place 23 = .ok (.getfield 9, 3) := by decide +kernel
theorem dX2_place_26 : decode cX2_place 26 = .ok (.iload_n 1, 1) := by decide +kernel
theorem dX2_place_27 : decode cX2_place 27 = .ok (.iaload, 1) := by decide +kernel
theorem dX2_place_28 : decode cX2_place 28 = .ok (.ireturn, 1) := by decide +kernel
theorem dX2_mirror_0 : decode cX2_mirror 0 = .ok (.iconst 0, 1) := by decide +kernel
theorem dX2_mirror_1 : decode cX2_mirror 1 = .ok (.istore_n 1, 1) := by decide +kernel
theorem dX2_mirror_2 : decode cX2_mirror 2 = .ok (.aload_n 0, 1) := by decide +kernel
theorem dX2_mirror_3 : decode cX2_mirror 3 = .ok (.getfield 26, 3) := by decide +kernel
theorem dX2_mirror_6 : decode cX2_mirror 6 = .ok (.iconst 1, 1) := by decide +kernel
theorem dX2_mirror_7 : decode cX2_mirror 7 = .ok (.isub, 1) := by decide +kernel
theorem dX2_mirror_8 : decode cX2_mirror 8 = .ok (.istore_n 2, 1) := by decide +kernel
theorem dX2_mirror_9 : decode cX2_mirror 9 = .ok (.iload_n 1, 1) := by decide +kernel
theorem dX2_mirror_10 : decode cX2_mirror 10 = .ok (.iload_n 2, 1) := by decide +kernel
theorem dX2_mirror_11 : decode cX2_mirror 11 = .ok (.if_icmp .gt 40, 3) := by decide +kernel
theorem dX2_mirror_14 : decode cX2_mirror 14 = .ok (.aload_n 0, 1) := by decide +kernel
theorem dX2_mirror_15 : decode cX2_mirror 15 = .ok (.getfield 9, 3) := by decide +kernel
theorem dX2_mirror_18 : decode cX2_mirror 18 = .ok (.iload_n 1, 1) := by decide +kernel
theorem dX2_mirror_19 : decode cX2_mirror 19 = .ok (.iaload, 1) := by decide +kernel
theorem dX2_mirror_20 : decode cX2_mirror 20 = .ok (.istore_n 3, 1) := by decide +kernel
theorem dX2_mirror_21 : decode cX2_mirror 21 = .ok (.aload_n 0, 1) := by decide +kernel
theorem dX2_mirror_22 : decode cX2_mirror 22 = .ok (.getfield 9, 3) := by decide +kernel
theorem dX2_mirror_25 : decode cX2_mirror 25 = .ok (.iload_n 1, 1) := by decide +kernel
theorem dX2_mirror_26 : decode cX2_mirror 26 = .ok (.aload_n 0, 1) := by decide +kernel
theorem dX2_mirror_27 : decode cX2_mirror 27 = .ok (.getfield 9, 3) := by decide +kernel
theorem dX2_mirror_30 : decode cX2_mirror 30 = .ok (.iload_n 2, 1) := by decide +kernel
theorem dX2_mirror_31 : decode cX2_mirror 31 = .ok (.iaload, 1) := by decide +kernel
theorem dX2_mirror_32 : decode cX2_mirror 32 = .ok (.ineg, 1) := by decide +kernel
theorem dX2_mirror_33 : decode cX2_mirror 33 = .ok (.iastore, 1) := by decide +kernel
theorem dX2_mirror_34 : decode cX2_mirror 34 = .ok (.aload_n 0, 1) := by decide +kernel
theorem dX2_mirror_35 : decode cX2_mirror 35 = .ok (.getfield 9, 3) := by decide +kernel
theorem dX2_mirror_38 : decode cX2_mirror 38 = .ok (.iload_n 2, 1) := by decide +kernel
theorem dX2_mirror_39 : decode cX2_mirror 39 = .ok (.iload_n 3, 1) := by decide +kernel
theorem dX2_mirror_40 : decode cX2_mirror 40 = .ok (.ineg, 1) := by decide +kernel
theorem dX2_mirror_41 : decode cX2_mirror 41 = .ok (.iastore, 1) := by decide +kernel
theorem dX2_mirror_42 : decode cX2_mirror 42 = .ok (.iinc 1 1, 3) := by decide +kernel
theorem dX2_mirror_45 : decode cX2_mirror 45 = .ok (.iinc 2 (-1), 3) := by decide +kernel
theorem dX2_mirror_48 : decode cX2_mirror 48 = .ok (.goto (-39), 3) := by decide +kernel
theorem dX2_mirror_51 : decode cX2_mirror 51 = .ok (.iconst 0, 1) := by decide +kernel
theorem dX2_mirror_52 : decode cX2_mirror 52 = .ok (.istore_n 1, 1) := by decide +kernel
theorem dX2_mirror_53 : decode cX2_mirror 53 = .ok (.aload_n 0, 1) := by decide +kernel
theorem dX2_mirror_54 : decode cX2_mirror 54 = .ok (.getfield 26, 3) := by decide +kernel
theorem dX2_mirror_57 : decode cX2_mirror 57 = .ok (.istore_n 2, 1) := by decide +kernel
theorem dX2_mirror_58 : decode cX2_mirror 58 = .ok (.iload_n 1, 1) := by decide +kernel
theorem dX2_mirror_59 : decode cX2_mirror 59 = .ok (.iload_n 2, 1) := by decide +kernel
theorem dX2_mirror_60 : decode cX2_mirror 60 = .ok (.if_icmp .ge 38, 3) := by decide +kernel
theorem dX2_mirror_63 : decode cX2_mirror 63 = .ok (.aload_n 0, 1) := by decide +kernel
theorem dX2_mirror_64 : decode cX2_mirror 64 = .ok (.getfield 15, 3) := by decide +kernel
theorem dX2_mirror_67 : decode cX2_mirror 67 = .ok (.iload_n 1, 1) := by decide +kernel
theorem dX2_mirror_68 : decode cX2_mirror 68 = .ok (.aaload, 1) := by decide +kernel
theorem dX2_mirror_69 : decode cX2_mirror 69 = .ok (.astore_n 3, 1) := by decide +kernel
theorem dX2_mirror_70 : decode cX2_mirror 70 = .ok (.aload_n 0, 1) := by decide +kernel
theorem dX2_mirror_71 : decode cX2_mirror 71 = .ok (.getfield 15, 3) := by decide +kernel
theorem dX2_mirror_74 : decode cX2_mirror 74 = .ok (.iload_n 1, 1) := by decide +kernel
theorem dX2_mirror_75 : decode cX2_mirror 75 = .ok (.aload_n 0, 1) := by decide +kernel
theorem dX2_mirror_76 : decode cX2_mirror 76 = .ok (.getfield 15, 3) := by decide +kernel
theorem dX2_mirror_79 : decode cX2_mirror 79 = .ok (.iload_n 2, 1) := by decide +kernel
theorem dX2_mirror_80 : decode cX2_mirror 80 = .ok (.aaload, 1) := by decide +kernel
theorem dX2_mirror_81 : decode cX2_mirror 81 = .ok (.aastore, 1) := by decide +kernel
theorem dX2_mirror_82 : decode cX2_mirror 82 = .ok (.aload_n 0, 1) := by decide +kernel
theorem dX2_mirror_83 : decode cX2_mirror 83 = .ok (.getfield 15, 3) := by decide +kernel
theorem dX2_mirror_86 : decode cX2_mirror 86 = .ok (.iload_n 2, 1) := by decide +kernel
theorem dX2_mirror_87 : decode cX2_mirror 87 = .ok (.aload_n 3, 1) := by decide +kernel
theorem dX2_mirror_88 : decode cX2_mirror 88 = .ok (.aastore, 1) := by decide +kernel
theorem dX2_mirror_89 : decode cX2_mirror 89 = .ok (.iinc 1 1, 3) := by decide +kernel
theorem dX2_mirror_92 : decode cX2_mirror 92 = .ok (.iinc 2 (-1), 3) := by decide +kernel
theorem dX2_mirror_95 : decode cX2_mirror 95 = .ok (.goto (-37), 3) := by decide +kernel
theorem dX2_mirror_98 : decode cX2_mirror 98 = .ok (.iconst 0, 1) := by decide +kernel
theorem dX2_mirror_99 : decode cX2_mirror 99 = .ok (.istore_n 1, 1) := by decide +kernel
theorem dX2_mirror_100 : decode cX2_mirror 100 = .ok (.iload_n 1, 1) := by decide +kernel
theorem dX2_mirror_101 : decode cX2_mirror 101 = .ok (.aload_n 0, 1) := by decide +kernel
theorem dX2_mirror_102 : decode cX2_mirror 102 = .ok (.getfield 26, 3) := by decide +kernel
theorem dX2_mirror_105 : decode cX2_mirror 105 = .ok (.if_icmp .gt 18, 3) := by decide +kernel
theorem dX2_mirror_108 : decode cX2_mirror 108 = .ok (.aload_n 0, 1) := by decide +kernel
theorem dX2_mirror_109 : decode cX2_mirror 109 = .ok (.getfield 15, 3) := by decide +kernel
theorem dX2_mirror_112 : decode cX2_mirror 112 = .ok (.iload_n 1, 1) := by decide +kernel
theorem dX2_mirror_113 : decode cX2_mirror 113 = .ok (.aaload, 1) := by decide +kernel
theorem dX2_mirror_114 : decode cX2_mirror 114 = .ok (.invokevirtual 77, 3) := by decide +kernel
theorem dX2_mirror_117 : decode cX2_mirror 117 = .ok (.iinc 1 1, 3) := by decide +kernel
theorem dX2_mirror_120 : decode cX2_mirror 120 = .ok (.goto (-20), 3) := by decide +kernel
theorem dX2_mirror_123 : decode cX2_mirror 123 = .ok (.return_, 1) := by decide +kernel
theorem dX2_value_0 : decode cX2_value 0 = .ok (.iload_n 1, 1) := by decide +kernel
theorem dX2_value_1 : decode cX2_value 1 = .ok (.bipush 6, 2) := by decide +kernel
theorem dX2_value_3 : decode cX2_value 3 = .ok (.invokestatic 35, 3) := by decide +kernel
theorem dX2_value_6 : decode cX2_value 6 = .ok (.ifCond .eq 10, 3) := by decide +kernel
theorem dX2_value_9 : decode cX2_value 9 = .ok (.iload_n 2, 1) := by decide +kernel
theorem dX2_value_10 : decode cX2_value 10 = .ok (.invokestatic 80, 3) := by decide +kernel
theorem dX2_value_13 : decode cX2_value 13 = .ok (.ifCond .ne 13, 3) := by decide +kernel
theorem dX2_value_16 : decode cX2_value 16 = .ok (.new 43, 3) := by decide +kernel
theorem dX2_value_19 : decode cX2_value 19 = .ok (.dup, 1) := by decide +kernel
theorem dX2_value_20 : decode cX2_value 20 = .ok (.ldc 83, 2) := by decide +kernel
theorem dX2_value_22 : decode cX2_value 22 = .ok (.invokespecial 47, 3) := by decide +kernel
theorem dX2_value_25 : decode cX2_value 25 = .ok (.athrow, 1) := by decide +kernel
theorem dX2_value_26 : decode cX2_value 26 = .ok (.aload_n 0, 1) := by decide +kernel
theorem dX2_value_27 : decode cX2_value 27 = .ok (.getfield 15, 3) := by decide +kernel
theorem dX2_value_30 : decode cX2_value 30 = .ok (.aload_n 0, 1) := by decide +kernel
theorem dX2_value_31 : decode cX2_value 31 = .ok (.iload_n 1, 1) := by decide +kernel
theorem dX2_value_32 : decode cX2_value 32 = .ok (.invokevirtual 55, 3) := by decide +kernel
theorem dX2_value_35 : decode cX2_value 35 = .ok (.aaload, 1) := by decide +kernel
theorem dX2_value_36 : decode cX2_value 36 = .ok (.astore_n 3, 1) := by decide +kernel
theorem dX2_value_37 : decode cX2_value 37 = .ok (.aload_n 3, 1) := by decide +kernel
theorem dX2_value_38 : decode cX2_value 38 = .ok (.invokevirtual 85, 3) := by decide +kernel
theorem dX2_value_41 : decode cX2_value 41 = .ok (.ifCond .ne 15, 3) := by decide +kernel
theorem dX2_value_44 : decode cX2_value 44 = .ok (.aload_n 3, 1) := by decide +kernel
theorem dX2_value_45 : decode cX2_value 45 = .ok (.iload_n 1, 1) := by decide +kernel
theorem dX2_value_46 : decode cX2_value 46 = .ok (.i2l, 1) := by decide +kernel
theorem dX2_value_47 : decode cX2_value 47 = .ok (.invokevirtual 89, 3) := by decide +kernel
theorem dX2_value_50 : decode cX2_value 50 = .ok (.lconst 1, 1) := by decide +kernel
theorem dX2_value_51 : decode cX2_value 51 = .ok (.iload_n 2, 1) := by decide +kernel
theorem dX2_value_52 : decode cX2_value 52 = .ok (.invokestatic 93, 3) := by decide +kernel
theorem dX2_value_55 : decode cX2_value 55 = .ok (.lreturn, 1) := by decide +kernel
theorem dX2_value_56 : decode cX2_value 56 = .ok (.iload_n 1, 1) := by decide +kernel
theorem dX2_value_57 : decode cX2_value 57 = .ok (.aload_n 3, 1) := by decide +kernel
theorem dX2_value_58 : decode cX2_value 58 = .ok (.getfield 74, 3) := by decide +kernel
theorem dX2_value_61 : decode cX2_value 61 = .ok (.bipush 7, 2) := by decide +kernel
theorem dX2_value_63 : decode cX2_value 63 = .ok (.iaload, 1) := by decide +kernel
theorem dX2_value_64 : decode cX2_value 64 = .ok (.isub, 1) := by decide +kernel
theorem dX2_value_65 : decode cX2_value 65 = .ok (.i2l, 1) := by decide +kernel
theorem dX2_value_66 : decode cX2_value 66 = .ok (.lstore 4, 2) := by decide +kernel
theorem dX2_value_68 : decode cX2_value 68 = .ok (.lload 4, 2) := by decide +kernel
theorem dX2_value_70 : decode cX2_value 70 = .ok (.lconst 0, 1) := by decide +kernel
theorem dX2_value_71 : decode cX2_value 71 = .ok (.lcmp, 1) := by decide +kernel
theorem dX2_value_72 : decode cX2_value 72 = .ok (.ifCond .ne 13, 3) := by decide +kernel
theorem dX2_value_75 : decode cX2_value 75 = .ok (.new 50, 3) := by decide +kernel
theorem dX2_value_78 : decode cX2_value 78 = .ok (.dup, 1) := by decide +kernel
theorem dX2_value_79 : decode cX2_value 79 = .ok (.ldc 97, 2) := by decide +kernel
theorem dX2_value_81 : decode cX2_value 81 = .ok (.invokespecial 54, 3) := by decide +kernel
theorem dX2_value_84 : decode cX2_value 84 = .ok (.athrow, 1) := by decide +kernel
theorem dX2_value_85 : decode cX2_value 85 = .ok (.lload 4, 2) := by decide +kernel
theorem dX2_value_87 : decode cX2_value 87 = .ok (.lload 4, 2) := by decide +kernel
theorem dX2_value_89 : decode cX2_value 89 = .ok (.lmul, 1) := by decide +kernel
theorem dX2_value_90 : decode cX2_value 90 = .ok (.lload 4, 2) := by decide +kernel
theorem dX2_value_92 : decode cX2_value 92 = .ok (.lmul, 1) := by decide +kernel
theorem dX2_value_93 : decode cX2_value 93 = .ok (.lstore 6, 2) := by decide +kernel
theorem dX2_value_95 : decode cX2_value 95 = .ok (.aload_n 3, 1) := by decide +kernel
theorem dX2_value_96 : decode cX2_value 96 = .ok (.iload_n 1, 1) := by decide +kernel
theorem dX2_value_97 : decode cX2_value 97 = .ok (.i2l, 1) := by decide +kernel
theorem dX2_value_98 : decode cX2_value 98 = .ok (.invokevirtual 89, 3) := by decide +kernel
theorem dX2_value_101 : decode cX2_value 101 = .ok (.lload 6, 2) := by decide +kernel
theorem dX2_value_103 : decode cX2_value 103 = .ok (.lmul, 1) := by decide +kernel
theorem dX2_value_104 : decode cX2_value 104 = .ok (.aload_n 3, 1) := by decide +kernel
theorem dX2_value_105 : decode cX2_value 105 = .ok (.lload 4, 2) := by decide +kernel
theorem dX2_value_107 : decode cX2_value 107 = .ok (.invokevirtual 99, 3) := by decide +kernel
theorem dX2_value_110 : decode cX2_value 110 = .ok (.ladd, 1) := by decide +kernel
theorem dX2_value_111 : decode cX2_value 111 = .ok (.lload 6, 2) := by decide +kernel
theorem dX2_value_113 : decode cX2_value 113 = .ok (.iload_n 2, 1) := by decide +kernel
theorem dX2_value_114 : decode cX2_value 114 = .ok (.invokestatic 93, 3) := by decide +kernel
theorem dX2_value_117 : decode cX2_value 117 = .ok (.lreturn, 1) := by decide +kernel
theorem dX2_integral_0 : decode cX2_integral 0 = .ok (.iload_n 1, 1) := by decide +kernel
theorem dX2_integral_1 : decode cX2_integral 1 = .ok (.invokestatic 102, 3) := by decide +kernel
theorem dX2_integral_4 : decode cX2_integral 4 = .ok (.ifCond .eq 10, 3) := by decide +kernel
theorem dX2_integral_7 : decode cX2_integral 7 = .ok (.iload_n 2, 1) := by decide +kernel
theorem dX2_integral_8 : decode cX2_integral 8 = .ok (.invokestatic 102, 3) := by decide +kernel
theorem dX2_integral_11 : decode cX2_integral 11 = .ok (.ifCond .ne 13, 3) := by decide +kernel
theorem dX2_integral_14 : decode cX2_integral 14 = .ok (.new 43, 3) := by decide +kernel
theorem dX2_integral_17 : decode cX2_integral 17 = .ok (.dup, 1) := by decide +kernel
theorem dX2_integral_18 : decode cX2_integral 18 = .ok (.ldc 105, 2) := by decide +kernel
theorem dX2_integral_20 : decode cX2_integral 20 = .ok (.invokespecial 47, 3) := by decide +kernel
theorem dX2_integral_23 : decode cX2_integral 23 = .ok (.athrow, 1) := by decide +kernel
theorem dX2_integral_24 : decode cX2_integral 24 = .ok (.aload_n 0, 1) := by decide +kernel
theorem dX2_integral_25 : decode cX2_integral 25 = .ok (.aload_n 0, 1) := by decide +kernel
theorem dX2_integral_26 : decode cX2_integral 26 = .ok (.iload_n 1, 1) := by decide +kernel
theorem dX2_integral_27 : decode cX2_integral 27 = .ok (.iload_n 2, 1) := by decide +kernel
theorem dX2_integral_28 : decode cX2_integral 28 = .ok (.invokestatic 107, 3) := by decide +kernel
theorem dX2_integral_31 : decode cX2_integral 31 = .ok (.iload_n 1, 1) := by decide +kernel
theorem dX2_integral_32 : decode cX2_integral 32 = .ok (.iload_n 2, 1) := by decide +kernel
theorem dX2_integral_33 : decode cX2_integral 33 = .ok (.invokestatic 113, 3) := by decide +kernel
theorem dX2_integral_36 : decode cX2_integral 36 = .ok (.iload_n 1, 1) := by decide +kernel
theorem dX2_integral_37 : decode cX2_integral 37 = .ok (.iload_n 2, 1) := by decide +kernel
theorem dX2_integral_38 : decode cX2_integral 38 = .ok (.if_icmp .gt 7, 3) := by decide +kernel
theorem dX2_integral_41 : decode cX2_integral 41 = .ok (.iconst 1, 1) := by decide +kernel
theorem dX2_integral_42 : decode cX2_integral 42 = .ok (.goto 4, 3) := by decide +kernel
theorem dX2_integral_45 : decode cX2_integral 45 = .ok (.iconst (-1), 1) := by decide +kernel
theorem dX2_integral_46 : decode cX2_integral 46 = .ok (.invokevirtual 116, 3) := by decide +kernel
theorem dX2_integral_49 : decode cX2_integral 49 = .ok (.putfield 30, 3) := by decide +kernel
theorem dX2_integral_52 : decode cX2_integral 52 = .ok (.aload_n 0, 1) := by decide +kernel
theorem dX2_integral_53 : decode cX2_integral 53 = .ok (.getfield 30, 3) := by decide +kernel
theorem dX2_integral_56 : decode cX2_integral 56 = .ok (.ireturn, 1) := by decide +kernel
theorem dX2_fraction_0 : decode cX2_fraction 0 = .ok (.aload_n 0, 1) := by decide +kernel
theorem dX2_fraction_1 : decode cX2_fraction 1 = .ok (.getfield 30, 3) := by decide +kernel
theorem dX2_fraction_4 : decode cX2_fraction 4 = .ok (.ifCond .ne 13, 3) := by decide +kernel
theorem dX2_fraction_7 : decode cX2_fraction 7 = .ok (.new 50, 3) := by decide +kernel
theorem dX2_fraction_10 : decode cX2_fraction 10 = .ok (.dup, 1) := by decide +kernel
theorem dX2_fraction_11 : decode cX2_fraction 11 = .ok (.ldc 120, 2) := by decide +kernel
theorem dX2_fraction_13 : decode cX2_fraction 13 = .ok (.invokespecial 54, 3) := by decide +kernel
theorem dX2_fraction_16 : decode cX2_fraction 16 = .ok (.athrow, 1) := by decide +kernel
theorem dX2_fraction_17 : decode cX2_fraction 17 = .ok (.iload_n 1, 1) := by decide +kernel
theorem dX2_fraction_18 : decode cX2_fraction 18 = .ok (.invokestatic 80, 3) := by decide +kernel
theorem dX2_fraction_21 : decode cX2_fraction 21 = .ok (.ifCond .ne 13, 3) := by decide +kernel
theorem dX2_fraction_24 : decode cX2_fraction 24 = .ok (.new 43, 3) := by decide +kernel
theorem dX2_fraction_27 : decode cX2_fraction 27 = .ok (.dup, 1) := by decide +kernel
theorem dX2_fraction_28 : decode cX2_fraction 28 = .ok (.ldc 122, 2) := by decide +kernel
theorem dX2_fraction_30 : decode cX2_fraction 30 = .ok (.invokespecial 47, 3) := by decide +kernel
theorem dX2_fraction_33 : decode cX2_fraction 33 = .ok (.athrow, 1) := by decide +kernel
theorem dX2_fraction_34 : decode cX2_fraction 34 = .ok (.aload_n 0, 1) := by decide +kernel
theorem dX2_fraction_35 : decode cX2_fraction 35 = .ok (.getfield 22, 3) := by decide +kernel
theorem dX2_fraction_38 : decode cX2_fraction 38 = .ok (.getfield 124, 3) := by decide +kernel
theorem dX2_fraction_41 : decode cX2_fraction 41 = .ok (.ldc2_w 128, 3) := by decide +kernel
theorem dX2_fraction_44 : decode cX2_fraction 44 = .ok (.iload_n 1, 1) := by decide +kernel
theorem dX2_fraction_45 : decode cX2_fraction 45 = .ok (.invokestatic 93, 3) := by decide +kernel
theorem dX2_fraction_48 : decode cX2_fraction 48 = .ok (.lreturn, 1) := by decide +kernel
theorem dX2_logarithm_0 : decode cX2_logarithm 0 = .ok (.aload_n 0, 1) := by decide +kernel
theorem dX2_logarithm_1 : decode cX2_logarithm 1 = .ok (.getfield 30, 3) := by decide +kernel
theorem dX2_logarithm_4 : decode cX2_logarithm 4 = .ok (.ifCond .ne 13, 3) := by decide +kernel
theorem dX2_logarithm_7 : decode cX2_logarithm 7 = .ok (.new 50, 3) := by decide +kernel
theorem dX2_logarithm_10 : decode cX2_logarithm 10 = .ok (.dup, 1) := by decide +kernel
theorem dX2_logarithm_11 : decode cX2_logarithm 11 = .ok (.ldc 120, 2) := by decide +kernel
theorem dX2_logarithm_13 : decode cX2_logarithm 13 = .ok (.invokespecial 54, 3) := by decide +kernel
theorem dX2_logarithm_16 : decode cX2_logarithm 16 = .ok (.athrow, 1) := by decide +kernel
theorem dX2_logarithm_17 : decode cX2_logarithm 17 = .ok (.iconst 0, 1) := by decide +kernel
theorem dX2_logarithm_18 : decode cX2_logarithm 18 = .ok (.istore_n 2, 1) := by decide +kernel
theorem dX2_logarithm_19 : decode cX2_logarithm 19 = .ok (.iload_n 2, 1) := by decide +kernel
theorem dX2_logarithm_20 : decode cX2_logarithm 20 = .ok (.getstatic 130, 3) := by decide +kernel
theorem dX2_logarithm_23 : decode cX2_logarithm 23 = .ok (.arraylength, 1) := by decide +kernel
theorem dX2_logarithm_24 : decode cX2_logarithm 24 = .ok (.if_icmp .ge 28, 3) := by decide +kernel
theorem dX2_logarithm_27 : decode cX2_logarithm 27 = .ok (.getstatic 130, 3) := by decide +kernel
theorem dX2_logarithm_30 : decode cX2_logarithm 30 = .ok (.iload_n 2, 1) := by decide +kernel
theorem dX2_logarithm_31 : decode cX2_logarithm 31 = .ok (.iaload, 1) := by decide +kernel
theorem dX2_logarithm_32 : decode cX2_logarithm 32 = .ok (.iload_n 1, 1) := by decide +kernel
theorem dX2_logarithm_33 : decode cX2_logarithm 33 = .ok (.if_icmp .ne 13, 3) := by decide +kernel
theorem dX2_logarithm_36 : decode cX2_logarithm 36 = .ok (.aload_n 0, 1) := by decide +kernel
theorem dX2_logarithm_37 : decode cX2_logarithm 37 = .ok (.getfield 22, 3) := by decide +kernel
theorem dX2_logarithm_40 : decode cX2_logarithm 40 = .ok (.getfield 133, 3) := by decide +kernel
theorem dX2_logarithm_43 : decode cX2_logarithm 43 = .ok (.iload_n 2, 1) := by decide +kernel
theorem dX2_logarithm_44 : decode cX2_logarithm 44 = .ok (.iaload, 1) := by decide +kernel
theorem dX2_logarithm_45 : decode cX2_logarithm 45 = .ok (.ireturn, 1) := by decide +kernel
theorem dX2_logarithm_46 : decode cX2_logarithm 46 = .ok (.iinc 2 1, 3) := by decide +kernel
theorem dX2_logarithm_49 : decode cX2_logarithm 49 = .ok (.goto (-30), 3) := by decide +kernel
theorem dX2_logarithm_52 : decode cX2_logarithm 52 = .ok (.new 43, 3) := by decide +kernel
theorem dX2_logarithm_55 : decode cX2_logarithm 55 = .ok (.dup, 1) := by decide +kernel
theorem dX2_logarithm_56 : decode cX2_logarithm 56 = .ok (.ldc 136, 2) := by decide +kernel
theorem dX2_logarithm_58 : decode cX2_logarithm 58 = .ok (.invokespecial 47, 3) := by decide +kernel
theorem dX2_logarithm_61 : decode cX2_logarithm 61 = .ok (.athrow, 1) := by decide +kernel
theorem dX2_symmetry_0 : decode cX2_symmetry 0 = .ok (.aload_n 0, 1) := by decide +kernel
theorem dX2_symmetry_1 : decode cX2_symmetry 1 = .ok (.iconst 1, 1) := by decide +kernel
theorem dX2_symmetry_2 : decode cX2_symmetry 2 = .ok (.invokevirtual 138, 3) := by decide +kernel
theorem dX2_symmetry_5 : decode cX2_symmetry 5 = .ok (.istore_n 1, 1) := by decide +kernel
theorem dX2_symmetry_6 : decode cX2_symmetry 6 = .ok (.aload_n 0, 1) := by decide +kernel
theorem dX2_symmetry_7 : decode cX2_symmetry 7 = .ok (.iconst (-1), 1) := by decide +kernel
theorem dX2_symmetry_8 : decode cX2_symmetry 8 = .ok (.invokevirtual 138, 3) := by decide +kernel
theorem dX2_symmetry_11 : decode cX2_symmetry 11 = .ok (.istore_n 2, 1) := by decide +kernel
theorem dX2_symmetry_12 : decode cX2_symmetry 12 = .ok (.iload_n 1, 1) := by decide +kernel
theorem dX2_symmetry_13 : decode cX2_symmetry 13 = .ok (.ifCond .eq 9, 3) := by decide +kernel
theorem dX2_symmetry_16 : decode cX2_symmetry 16 = .ok (.iload_n 2, 1) := by decide +kernel
theorem dX2_symmetry_17 : decode cX2_symmetry 17 = .ok (.ifCond .eq 5, 3) := by decide +kernel
theorem dX2_symmetry_20 : decode cX2_symmetry 20 = .ok (.iconst 2, 1) := by decide +kernel
theorem dX2_symmetry_21 : decode cX2_symmetry 21 = .ok (.ireturn, 1) := by decide +kernel
theorem dX2_symmetry_22 : decode cX2_symmetry 22 = .ok (.iload_n 1, 1) := by decide +kernel
theorem dX2_symmetry_23 : decode cX2_symmetry 23 = .ok (.ifCond .eq 7, 3) := by decide +kernel
theorem dX2_symmetry_26 : decode cX2_symmetry 26 = .ok (.iconst 1, 1) := by decide +kernel
theorem dX2_symmetry_27 : decode cX2_symmetry 27 = .ok (.goto 12, 3) := by decide +kernel
theorem dX2_symmetry_30 : decode cX2_symmetry 30 = .ok (.iload_n 2, 1) := by decide +kernel
theorem dX2_symmetry_31 : decode cX2_symmetry 31 = .ok (.ifCond .eq 7, 3) := by decide +kernel
theorem dX2_symmetry_34 : decode cX2_symmetry 34 = .ok (.iconst (-1), 1) := by decide +kernel
theorem dX2_symmetry_35 : decode cX2_symmetry 35 = .ok (.goto 4, 3) := by decide +kernel
theorem dX2_symmetry_38 : decode cX2_symmetry 38 = .ok (.iconst 0, 1) := by decide +kernel
theorem dX2_symmetry_39 : decode cX2_symmetry 39 = .ok (.ireturn, 1) := by decide +kernel
theorem dX2_cuts_0 : decode cX2_cuts 0 = .ok (.aload_n 0, 1) := by decide +kernel
theorem dX2_cuts_1 : decode cX2_cuts 1 = .ok (.getfield 26, 3) := by decide +kernel
theorem dX2_cuts_4 : decode cX2_cuts 4 = .ok (.ireturn, 1) := by decide +kernel
theorem dX2_clear_0 : decode cX2_clear 0 = .ok (.aload_n 0, 1) := by decide +kernel
theorem dX2_clear_1 : decode cX2_clear 1 = .ok (.iconst 0, 1) := by decide +kernel
theorem dX2_clear_2 : decode cX2_clear 2 = .ok (.putfield 26, 3) := by decide +kernel
theorem dX2_clear_5 : decode cX2_clear 5 = .ok (.aload_n 0, 1) := by decide +kernel
theorem dX2_clear_6 : decode cX2_clear 6 = .ok (.iconst 0, 1) := by decide +kernel
theorem dX2_clear_7 : decode cX2_clear 7 = .ok (.putfield 30, 3) := by decide +kernel
theorem dX2_clear_10 : decode cX2_clear 10 = .ok (.aload_n 0, 1) := by decide +kernel
theorem dX2_clear_11 : decode cX2_clear 11 = .ok (.getfield 15, 3) := by decide +kernel
theorem dX2_clear_14 : decode cX2_clear 14 = .ok (.iconst 0, 1) := by decide +kernel
theorem dX2_clear_15 : decode cX2_clear 15 = .ok (.aaload, 1) := by decide +kernel
theorem dX2_clear_16 : decode cX2_clear 16 = .ok (.invokevirtual 141, 3) := by decide +kernel
theorem dX2_clear_19 : decode cX2_clear 19 = .ok (.return_, 1) := by decide +kernel
theorem dX2_isWithin_0 : decode cX2_isWithin 0 = .ok (.iload_n 0, 1) := by decide +kernel
theorem dX2_isWithin_1 : decode cX2_isWithin 1 = .ok (.iload_n 1, 1) := by decide +kernel
theorem dX2_isWithin_2 : decode cX2_isWithin 2 = .ok (.ineg, 1) := by decide +kernel
theorem dX2_isWithin_3 : decode cX2_isWithin 3 = .ok (.if_icmp .lt 12, 3) := by decide +kernel
theorem dX2_isWithin_6 : decode cX2_isWithin 6 = .ok (.iload_n 0, 1) := by decide +kernel
theorem dX2_isWithin_7 : decode cX2_isWithin 7 = .ok (.iload_n 1, 1) := by decide +kernel
theorem dX2_isWithin_8 : decode cX2_isWithin 8 = .ok (.if_icmp .gt 7, 3) := by decide +kernel
theorem dX2_isWithin_11 : decode cX2_isWithin 11 = .ok (.iconst 1, 1) := by decide +kernel
theorem dX2_isWithin_12 : decode cX2_isWithin 12 = .ok (.goto 4, 3) := by decide +kernel
theorem dX2_isWithin_15 : decode cX2_isWithin 15 = .ok (.iconst 0, 1) := by decide +kernel
theorem dX2_isWithin_16 : decode cX2_isWithin 16 = .ok (.ireturn, 1) := by decide +kernel
theorem dX2_isPart_0 : decode cX2_isPart 0 = .ok (.iload_n 0, 1) := by decide +kernel
theorem dX2_isPart_1 : decode cX2_isPart 1 = .ok (.ifCond .eq 8, 3) := by decide +kernel
theorem dX2_isPart_4 : decode cX2_isPart 4 = .ok (.iload_n 0, 1) := by decide +kernel
theorem dX2_isPart_5 : decode cX2_isPart 5 = .ok (.iconst 1, 1) := by decide +kernel
theorem dX2_isPart_6 : decode cX2_isPart 6 = .ok (.if_icmp .ne 7, 3) := by decide +kernel
theorem dX2_isPart_9 : decode cX2_isPart 9 = .ok (.iconst 1, 1) := by decide +kernel
theorem dX2_isPart_10 : decode cX2_isPart 10 = .ok (.goto 4, 3) := by decide +kernel
theorem dX2_isPart_13 : decode cX2_isPart 13 = .ok (.iconst 0, 1) := by decide +kernel
theorem dX2_isPart_14 : decode cX2_isPart 14 = .ok (.ireturn, 1) := by decide +kernel
theorem dX2_isEnd_0 : decode cX2_isEnd 0 = .ok (.iload_n 0, 1) := by decide +kernel
theorem dX2_isEnd_1 : decode cX2_isEnd 1 = .ok (.bipush 6, 2) := by decide +kernel
theorem dX2_isEnd_3 : decode cX2_isEnd 3 = .ok (.invokestatic 35, 3) := by decide +kernel
theorem dX2_isEnd_6 : decode cX2_isEnd 6 = .ok (.ifCond .ne 10, 3) := by decide +kernel
theorem dX2_isEnd_9 : decode cX2_isEnd 9 = .ok (.iload_n 0, 1) := by decide +kernel
theorem dX2_isEnd_10 : decode cX2_isEnd 10 = .ok (.invokestatic 144, 3) := by decide +kernel
theorem dX2_isEnd_13 : decode cX2_isEnd 13 = .ok (.ifCond .eq 7, 3) := by decide +kernel
theorem dX2_isEnd_16 : decode cX2_isEnd 16 = .ok (.iconst 1, 1) := by decide +kernel
theorem dX2_isEnd_17 : decode cX2_isEnd 17 = .ok (.goto 4, 3) := by decide +kernel
theorem dX2_isEnd_20 : decode cX2_isEnd 20 = .ok (.iconst 0, 1) := by decide +kernel
theorem dX2_isEnd_21 : decode cX2_isEnd 21 = .ok (.ireturn, 1) := by decide +kernel
theorem dX2_isEndless_0 : decode cX2_isEndless 0 = .ok (.iload_n 0, 1) := by decide +kernel
theorem dX2_isEndless_1 : decode cX2_isEndless 1 = .ok (.bipush 9, 2) := by decide +kernel
theorem dX2_isEndless_3 : decode cX2_isEndless 3 = .ok (.if_icmp .eq 9, 3) := by decide +kernel
theorem dX2_isEndless_6 : decode cX2_isEndless 6 = .ok (.iload_n 0, 1) := by decide +kernel
theorem dX2_isEndless_7 : decode cX2_isEndless 7 = .ok (.bipush (-9), 2) := by decide +kernel
theorem dX2_isEndless_9 : decode cX2_isEndless 9 = .ok (.if_icmp .ne 7, 3) := by decide +kernel
theorem dX2_isEndless_12 : decode cX2_isEndless 12 = .ok (.iconst 1, 1) := by decide +kernel
theorem dX2_isEndless_13 : decode cX2_isEndless 13 = .ok (.goto 4, 3) := by decide +kernel
theorem dX2_isEndless_16 : decode cX2_isEndless 16 = .ok (.iconst 0, 1) := by decide +kernel
theorem dX2_isEndless_17 : decode cX2_isEndless 17 = .ok (.ireturn, 1) := by decide +kernel
theorem dX2_isCut_0 : decode cX2_isCut 0 = .ok (.iconst 0, 1) := by decide +kernel
theorem dX2_isCut_1 : decode cX2_isCut 1 = .ok (.istore_n 2, 1) := by decide +kernel
theorem dX2_isCut_2 : decode cX2_isCut 2 = .ok (.iload_n 2, 1) := by decide +kernel
theorem dX2_isCut_3 : decode cX2_isCut 3 = .ok (.aload_n 0, 1) := by decide +kernel
theorem dX2_isCut_4 : decode cX2_isCut 4 = .ok (.getfield 26, 3) := by decide +kernel
theorem dX2_isCut_7 : decode cX2_isCut 7 = .ok (.if_icmp .ge 21, 3) := by decide +kernel
theorem dX2_isCut_10 : decode cX2_isCut 10 = .ok (.aload_n 0, 1) := by decide +kernel
theorem dX2_isCut_11 : decode cX2_isCut 11 = .ok (.getfield 9, 3) := by decide +kernel
theorem dX2_isCut_14 : decode cX2_isCut 14 = .ok (.iload_n 2, 1) := by decide +kernel
theorem dX2_isCut_15 : decode cX2_isCut 15 = .ok (.iaload, 1) := by decide +kernel
theorem dX2_isCut_16 : decode cX2_isCut 16 = .ok (.iload_n 1, 1) := by decide +kernel
theorem dX2_isCut_17 : decode cX2_isCut 17 = .ok (.if_icmp .ne 5, 3) := by decide +kernel
theorem dX2_isCut_20 : decode cX2_isCut 20 = .ok (.iconst 1, 1) := by decide +kernel
theorem dX2_isCut_21 : decode cX2_isCut 21 = .ok (.ireturn, 1) := by decide +kernel
theorem dX2_isCut_22 : decode cX2_isCut 22 = .ok (.iinc 2 1, 3) := by decide +kernel
theorem dX2_isCut_25 : decode cX2_isCut 25 = .ok (.goto (-23), 3) := by decide +kernel
theorem dX2_isCut_28 : decode cX2_isCut 28 = .ok (.iconst 0, 1) := by decide +kernel
theorem dX2_isCut_29 : decode cX2_isCut 29 = .ok (.ireturn, 1) := by decide +kernel
theorem dX2_pieceAt_0 : decode cX2_pieceAt 0 = .ok (.iconst 0, 1) := by decide +kernel
theorem dX2_pieceAt_1 : decode cX2_pieceAt 1 = .ok (.istore_n 2, 1) := by decide +kernel
theorem dX2_pieceAt_2 : decode cX2_pieceAt 2 = .ok (.iconst 0, 1) := by decide +kernel
theorem dX2_pieceAt_3 : decode cX2_pieceAt 3 = .ok (.istore_n 3, 1) := by decide +kernel
theorem dX2_pieceAt_4 : decode cX2_pieceAt 4 = .ok (.iload_n 3, 1) := by decide +kernel
theorem dX2_pieceAt_5 : decode cX2_pieceAt 5 = .ok (.aload_n 0, 1) := by decide +kernel
theorem dX2_pieceAt_6 : decode cX2_pieceAt 6 = .ok (.getfield 26, 3) := by decide +kernel
theorem dX2_pieceAt_9 : decode cX2_pieceAt 9 = .ok (.if_icmp .ge 22, 3) := by decide +kernel
theorem dX2_pieceAt_12 : decode cX2_pieceAt 12 = .ok (.aload_n 0, 1) := by decide +kernel
theorem dX2_pieceAt_13 : decode cX2_pieceAt 13 = .ok (.getfield 9, 3) := by decide +kernel
theorem dX2_pieceAt_16 : decode cX2_pieceAt 16 = .ok (.iload_n 3, 1) := by decide +kernel
theorem dX2_pieceAt_17 : decode cX2_pieceAt 17 = .ok (.iaload, 1) := by decide +kernel
theorem dX2_pieceAt_18 : decode cX2_pieceAt 18 = .ok (.iload_n 1, 1) := by decide +kernel
theorem dX2_pieceAt_19 : decode cX2_pieceAt 19 = .ok (.if_icmp .gt 6, 3) := by decide +kernel
theorem dX2_pieceAt_22 : decode cX2_pieceAt 22 = .ok (.iinc 2 1, 3) := by decide +kernel
theorem dX2_pieceAt_25 : decode cX2_pieceAt 25 = .ok (.iinc 3 1, 3) := by decide +kernel
theorem dX2_pieceAt_28 : decode cX2_pieceAt 28 = .ok (.goto (-24), 3) := by decide +kernel
theorem dX2_pieceAt_31 : decode cX2_pieceAt 31 = .ok (.iload_n 2, 1) := by decide +kernel
theorem dX2_pieceAt_32 : decode cX2_pieceAt 32 = .ok (.ireturn, 1) := by decide +kernel
theorem dX2_leftBorder_0 : decode cX2_leftBorder 0 = .ok (.iload_n 1, 1) := by decide +kernel
theorem dX2_leftBorder_1 : decode cX2_leftBorder 1 = .ok (.ifCond .le 22, 3) := by decide +kernel
theorem dX2_leftBorder_4 : decode cX2_leftBorder 4 = .ok (.iload_n 1, 1) := by decide +kernel
theorem dX2_leftBorder_5 : decode cX2_leftBorder 5 = .ok (.aload_n 0, 1) := by decide +kernel
theorem dX2_leftBorder_6 : decode cX2_leftBorder 6 = .ok (.getfield 26, 3) := by decide +kernel
theorem dX2_leftBorder_9 : decode cX2_leftBorder 9 = .ok (.if_icmp .gt 14, 3) := by decide +kernel
theorem dX2_leftBorder_12 : decode cX2_leftBorder 12 = .ok (.aload_n 0, 1) := by decide +kernel
theorem dX2_leftBorder_13 : decode cX2_leftBorder 13 = .ok (.getfield 9, 3) := by decide +kernel
theorem dX2_leftBorder_16 : decode cX2_leftBorder 16 = .ok (.iload_n 1, 1) := by decide +kernel
theorem dX2_leftBorder_17 : decode cX2_leftBorder 17 = .ok (.iconst 1, 1) := by decide +kernel
theorem dX2_leftBorder_18 : decode cX2_leftBorder 18 = .ok (.isub, 1) := by decide +kernel
theorem dX2_leftBorder_19 : decode cX2_leftBorder 19 = .ok (.iaload, 1) := by decide +kernel
theorem dX2_leftBorder_20 : decode cX2_leftBorder 20 = .ok (.goto 5, 3) := by decide +kernel
theorem dX2_leftBorder_23 : decode cX2_leftBorder 23 = .ok (.bipush (-9), 2) := by decide +kernel
theorem dX2_leftBorder_25 : decode cX2_leftBorder 25 = .ok (.ireturn, 1) := by decide +kernel
theorem dX2_rightBorder_0 : decode cX2_rightBorder 0 = .ok (.iload_n 1, 1) := by decide +kernel
theorem dX2_rightBorder_1 : decode cX2_rightBorder 1 = .ok (.ifCond .lt 20, 3) := by decide +kernel
theorem dX2_rightBorder_4 : decode cX2_rightBorder 4 = .ok (.iload_n 1, 1) := by decide +kernel
theorem dX2_rightBorder_5 : decode cX2_rightBorder 5 = .ok (.aload_n 0, 1) := by decide +kernel
theorem dX2_rightBorder_6 : decode cX2_rightBorder 6 = .ok (.getfield 26, 3) := by decide +kernel
theorem dX2_rightBorder_9 : decode cX2_rightBorder 9 = .ok (.if_icmp .ge 12, 3) := by decide +kernel
theorem dX2_rightBorder_12 : decode cX2_rightBorder 12 = .ok (.aload_n 0, 1) := by decide +kernel
theorem dX2_rightBorder_13 : decode cX2_rightBorder 13 = .ok (.getfield 9, 3) := by decide +kernel
theorem dX2_rightBorder_16 : decode cX2_rightBorder 16 = .ok (.iload_n 1, 1) := by decide +kernel
theorem dX2_rightBorder_17 : decode cX2_rightBorder 17 = .ok (.iaload, 1) := by decide +kernel
theorem dX2_rightBorder_18 : decode cX2_rightBorder 18 = .ok (.goto 5, 3) := by decide +kernel
theorem dX2_rightBorder_21 : decode cX2_rightBorder 21 = .ok (.bipush 9, 2) := by decide +kernel
theorem dX2_rightBorder_23 : decode cX2_rightBorder 23 = .ok (.ireturn, 1) := by decide +kernel
theorem dX2_addParts_0 : decode cX2_addParts 0 = .ok (.aload_n 0, 1) := by decide +kernel
theorem dX2_addParts_1 : decode cX2_addParts 1 = .ok (.getfield 22, 3) := by decide +kernel
theorem dX2_addParts_4 : decode cX2_addParts 4 = .ok (.invokevirtual 147, 3) := by decide +kernel
theorem dX2_addParts_7 : decode cX2_addParts 7 = .ok (.iconst 0, 1) := by decide +kernel
theorem dX2_addParts_8 : decode cX2_addParts 8 = .ok (.istore 4, 2) := by decide +kernel
theorem dX2_addParts_10 : decode cX2_addParts 10 = .ok (.iload 4, 2) := by decide +kernel
theorem dX2_addParts_12 : decode cX2_addParts 12 = .ok (.aload_n 0, 1) := by decide +kernel
theorem dX2_addParts_13 : decode cX2_addParts 13 = .ok (.getfield 26, 3) := by decide +kernel
theorem dX2_addParts_16 : decode cX2_addParts 16 = .ok (.if_icmp .gt 94, 3) := by decide +kernel
theorem dX2_addParts_19 : decode cX2_addParts 19 = .ok (.iload_n 1, 1) := by decide +kernel
theorem dX2_addParts_20 : decode cX2_addParts 20 = .ok (.aload_n 0, 1) := by decide +kernel
theorem dX2_addParts_21 : decode cX2_addParts 21 = .ok (.iload 4, 2) := by decide +kernel
theorem dX2_addParts_23 : decode cX2_addParts 23 = .ok (.invokevirtual 148, 3) := by decide +kernel
theorem dX2_addParts_26 : decode cX2_addParts 26 = .ok (.invokestatic 113, 3) := by decide +kernel
theorem dX2_addParts_29 : decode cX2_addParts 29 = .ok (.istore 5, 2) := by decide +kernel
theorem dX2_addParts_31 : decode cX2_addParts 31 = .ok (.iload_n 2, 1) := by decide +kernel
theorem dX2_addParts_32 : decode cX2_addParts 32 = .ok (.aload_n 0, 1) := by decide +kernel
theorem dX2_addParts_33 : decode cX2_addParts 33 = .ok (.iload 4, 2) := by decide +kernel
theorem dX2_addParts_35 : decode cX2_addParts 35 = .ok (.invokevirtual 151, 3) := by decide +kernel
theorem dX2_addParts_38 : decode cX2_addParts 38 = .ok (.invokestatic 107, 3) := by decide +kernel
theorem dX2_addParts_41 : decode cX2_addParts 41 = .ok (.istore 6, 2) := by decide +kernel
theorem dX2_addParts_43 : decode cX2_addParts 43 = .ok (.iload 5, 2) := by decide +kernel
theorem dX2_addParts_45 : decode cX2_addParts 45 = .ok (.iload 6, 2) := by decide +kernel
theorem dX2_addParts_47 : decode cX2_addParts 47 = .ok (.if_icmp .ge 57, 3) := by decide +kernel
theorem dX2_addParts_50 : decode cX2_addParts 50 = .ok (.aload_n 0, 1) := by decide +kernel
theorem dX2_addParts_51 : decode cX2_addParts 51 = .ok (.getfield 15, 3) := by decide +kernel
theorem dX2_addParts_54 : decode cX2_addParts 54 = .ok (.iload 4, 2) := by decide +kernel
theorem dX2_addParts_56 : decode cX2_addParts 56 = .ok (.aaload, 1) := by decide +kernel
theorem dX2_addParts_57 : decode cX2_addParts 57 = .ok (.iload 5, 2) := by decide +kernel
theorem dX2_addParts_59 : decode cX2_addParts 59 = .ok (.iload 6, 2) := by decide +kernel
theorem dX2_addParts_61 : decode cX2_addParts 61 = .ok (.invokevirtual 154, 3) := by decide +kernel
theorem dX2_addParts_64 : decode cX2_addParts 64 = .ok (.ifCond .eq 5, 3) := by decide +kernel
theorem dX2_addParts_67 : decode cX2_addParts 67 = .ok (.iconst 0, 1) := by decide +kernel
theorem dX2_addParts_68 : decode cX2_addParts 68 = .ok (.ireturn, 1) := by decide +kernel
theorem dX2_addParts_69 : decode cX2_addParts 69 = .ok (.aload_n 0, 1) := by decide +kernel
theorem dX2_addParts_70 : decode cX2_addParts 70 = .ok (.getfield 22, 3) := by decide +kernel
theorem dX2_addParts_73 : decode cX2_addParts 73 = .ok (.aload_n 0, 1) := by decide +kernel
theorem dX2_addParts_74 : decode cX2_addParts 74 = .ok (.getfield 15, 3) := by decide +kernel
theorem dX2_addParts_77 : decode cX2_addParts 77 = .ok (.iload 4, 2) := by decide +kernel
theorem dX2_addParts_79 : decode cX2_addParts 79 = .ok (.aaload, 1) := by decide +kernel
theorem dX2_addParts_80 : decode cX2_addParts 80 = .ok (.iload 6, 2) := by decide +kernel
theorem dX2_addParts_82 : decode cX2_addParts 82 = .ok (.iload_n 3, 1) := by decide +kernel
theorem dX2_addParts_83 : decode cX2_addParts 83 = .ok (.invokevirtual 157, 3) := by decide +kernel
theorem dX2_addParts_86 : decode cX2_addParts 86 = .ok (.aload_n 0, 1) := by decide +kernel
theorem dX2_addParts_87 : decode cX2_addParts 87 = .ok (.getfield 22, 3) := by decide +kernel
theorem dX2_addParts_90 : decode cX2_addParts 90 = .ok (.aload_n 0, 1) := by decide +kernel
theorem dX2_addParts_91 : decode cX2_addParts 91 = .ok (.getfield 15, 3) := by decide +kernel
theorem dX2_addParts_94 : decode cX2_addParts 94 = .ok (.iload 4, 2) := by decide +kernel
theorem dX2_addParts_96 : decode cX2_addParts 96 = .ok (.aaload, 1) := by decide +kernel
theorem dX2_addParts_97 : decode cX2_addParts 97 = .ok (.iload 5, 2) := by decide +kernel
theorem dX2_addParts_99 : decode cX2_addParts 99 = .ok (.iload_n 3, 1) := by decide +kernel
theorem dX2_addParts_100 : decode cX2_addParts 100 = .ok (.ineg, 1) := by decide +kernel
theorem dX2_addParts_101 : decode cX2_addParts 101 = .ok (.invokevirtual 157, 3) := by decide +kernel
theorem dX2_addParts_104 : decode cX2_addParts 104 = .ok (.iinc 4 1, 3) := by decide +kernel
theorem dX2_addParts_107 : decode cX2_addParts 107 = .ok (.goto (-97), 3) := by decide +kernel
theorem dX2_addParts_110 : decode cX2_addParts 110 = .ok (.iconst 1, 1) := by decide +kernel
theorem dX2_addParts_111 : decode cX2_addParts 111 = .ok (.ireturn, 1) := by decide +kernel
theorem dX2_isMirrored_0 : decode cX2_isMirrored 0 = .ok (.iconst 0, 1) := by decide +kernel
theorem dX2_isMirrored_1 : decode cX2_isMirrored 1 = .ok (.istore_n 2, 1) := by decide +kernel
theorem dX2_isMirrored_2 : decode cX2_isMirrored 2 = .ok (.iload_n 2, 1) := by decide +kernel
theorem dX2_isMirrored_3 : decode cX2_isMirrored 3 = .ok (.bipush 6, 2) := by decide +kernel
theorem dX2_isMirrored_5 : decode cX2_isMirrored 5 = .ok (.if_icmp .gt 41, 3) := by decide +kernel
theorem dX2_isMirrored_8 : decode cX2_isMirrored 8 = .ok (.aload_n 0, 1) := by decide +kernel
theorem dX2_isMirrored_9 : decode cX2_isMirrored 9 = .ok (.getfield 15, 3) := by decide +kernel
theorem dX2_isMirrored_12 : decode cX2_isMirrored 12 = .ok (.aload_n 0, 1) := by decide +kernel
theorem dX2_isMirrored_13 : decode cX2_isMirrored 13 = .ok (.iload_n 2, 1) := by decide +kernel
theorem dX2_isMirrored_14 : decode cX2_isMirrored 14 = .ok (.invokevirtual 55, 3) := by decide +kernel
theorem dX2_isMirrored_17 : decode cX2_isMirrored 17 = .ok (.aaload, 1) := by decide +kernel
theorem dX2_isMirrored_18 : decode cX2_isMirrored 18 = .ok (.aload_n 0, 1) := by decide +kernel
theorem dX2_isMirrored_19 : decode cX2_isMirrored 19 = .ok (.getfield 15, 3) := by decide +kernel
theorem dX2_isMirrored_22 : decode cX2_isMirrored 22 = .ok (.aload_n 0, 1) := by decide +kernel
theorem dX2_isMirrored_23 : decode cX2_isMirrored 23 = .ok (.iload_n 2, 1) := by decide +kernel
theorem dX2_isMirrored_24 : decode cX2_isMirrored 24 = .ok (.ineg, 1) := by decide +kernel
theorem dX2_isMirrored_25 : decode cX2_isMirrored 25 = .ok (.iconst 1, 1) := by decide +kernel
theorem dX2_isMirrored_26 : decode cX2_isMirrored 26 = .ok (.isub, 1) := by decide +kernel
theorem dX2_isMirrored_27 : decode cX2_isMirrored 27 = .ok (.invokevirtual 55, 3) := by decide +kernel
theorem dX2_isMirrored_30 : decode cX2_isMirrored 30 = .ok (.aaload, 1) := by decide +kernel
theorem dX2_isMirrored_31 : decode cX2_isMirrored 31 = .ok (.iload_n 1, 1) := by decide +kernel
theorem dX2_isMirrored_32 : decode cX2_isMirrored 32 = .ok (.invokevirtual 161, 3) := by decide +kernel
theorem dX2_isMirrored_35 : decode cX2_isMirrored 35 = .ok (.ifCond .ne 5, 3) := by decide +kernel
theorem dX2_isMirrored_38 : decode cX2_isMirrored 38 = .ok (.iconst 0, 1) := by decide +kernel
theorem dX2_isMirrored_39 : decode cX2_isMirrored 39 = .ok (.ireturn, 1) := by decide +kernel
theorem dX2_isMirrored_40 : decode cX2_isMirrored 40 = .ok (.iinc 2 1, 3) := by decide +kernel
theorem dX2_isMirrored_43 : decode cX2_isMirrored 43 = .ok (.goto (-41), 3) := by decide +kernel
theorem dX2_isMirrored_46 : decode cX2_isMirrored 46 = .ok (.iconst 1, 1) := by decide +kernel
theorem dX2_isMirrored_47 : decode cX2_isMirrored 47 = .ok (.ireturn, 1) := by decide +kernel
theorem dX2_lowestTerms_0 : decode cX2_lowestTerms 0 = .ok (.lload_n 0, 1) := by decide +kernel
theorem dX2_lowestTerms_1 : decode cX2_lowestTerms 1 = .ok (.lload_n 2, 1) := by decide +kernel
theorem dX2_lowestTerms_2 : decode cX2_lowestTerms 2 = .ok (.invokestatic 165, 3) := by decide +kernel
theorem dX2_lowestTerms_5 : decode cX2_lowestTerms 5 = .ok (.lstore 5, 2) := by decide +kernel
theorem dX2_lowestTerms_7 : decode cX2_lowestTerms 7 = .ok (.lload 5, 2) := by decide +kernel
theorem dX2_lowestTerms_9 : decode cX2_lowestTerms 9 = .ok (.lconst 0, 1) := by decide +kernel
theorem dX2_lowestTerms_10 : decode cX2_lowestTerms 10 = .ok (.lcmp, 1) := by decide +kernel
theorem dX2_lowestTerms_11 : decode cX2_lowestTerms 11 = .ok (.ifCond .ne 5, 3) := by decide +kernel
theorem dX2_lowestTerms_14 : decode cX2_lowestTerms 14 = .ok (.lconst 0, 1) := by decide +kernel
theorem dX2_lowestTerms_15 : decode cX2_lowestTerms 15 = .ok (.lreturn, 1) := by decide +kernel
theorem dX2_lowestTerms_16 : decode cX2_lowestTerms 16 = .ok (.iload 4, 2) := by decide +kernel
theorem dX2_lowestTerms_18 : decode cX2_lowestTerms 18 = .ok (.ifCond .ne 7, 3) := by decide +kernel
theorem dX2_lowestTerms_21 : decode cX2_lowestTerms 21 = .ok (.lload_n 0, 1) := by decide +kernel
theorem dX2_lowestTerms_22 : decode cX2_lowestTerms 22 = .ok (.goto 4, 3) := by decide +kernel
theorem dX2_lowestTerms_25 : decode cX2_lowestTerms 25 = .ok (.lload_n 2, 1) := by decide +kernel
theorem dX2_lowestTerms_26 : decode cX2_lowestTerms 26 = .ok (.lload_n 2, 1) := by decide +kernel
theorem dX2_lowestTerms_27 : decode cX2_lowestTerms 27 = .ok (.lconst 0, 1) := by decide +kernel
theorem dX2_lowestTerms_28 : decode cX2_lowestTerms 28 = .ok (.lcmp, 1) := by decide +kernel
theorem dX2_lowestTerms_29 : decode cX2_lowestTerms 29 = .ok (.ifCond .ge 9, 3) := by decide +kernel
theorem dX2_lowestTerms_32 : decode cX2_lowestTerms 32 = .ok (.lload 5, 2) := by decide +kernel
theorem dX2_lowestTerms_34 : decode cX2_lowestTerms 34 = .ok (.lneg, 1) := by decide +kernel
theorem dX2_lowestTerms_35 : decode cX2_lowestTerms 35 = .ok (.goto 5, 3) := by decide +kernel
theorem dX2_lowestTerms_38 : decode cX2_lowestTerms 38 = .ok (.lload 5, 2) := by decide +kernel
theorem dX2_lowestTerms_40 : decode cX2_lowestTerms 40 = .ok (.ldiv, 1) := by decide +kernel
theorem dX2_lowestTerms_41 : decode cX2_lowestTerms 41 = .ok (.lreturn, 1) := by decide +kernel
theorem dX2_greatestDivisor_0 : decode cX2_greatestDivisor 0 = .ok (.lload_n 0, 1) := by decide +kernel
theorem dX2_greatestDivisor_1 : decode cX2_greatestDivisor 1 = .ok (.lstore 4, 2) := by decide +kernel
theorem dX2_greatestDivisor_3 : decode cX2_greatestDivisor 3 = .ok (.lload_n 2, 1) := by decide +kernel
theorem dX2_greatestDivisor_4 : decode cX2_greatestDivisor 4 = .ok (.lstore 6, 2) := by decide +kernel
theorem dX2_greatestDivisor_6 : decode cX2_greatestDivisor 6 = .ok (.iconst 0, 1) := by decide +kernel
theorem dX2_greatestDivisor_7 : decode cX2_greatestDivisor 7 = .ok (.istore 8, 2) := by decide +kernel
theorem dX2_greatestDivisor_9 : decode cX2_greatestDivisor 9 = .ok (.iload 8, 2) := by decide +kernel
theorem dX2_greatestDivisor_11 : decode cX2_greatestDivisor 11 = .ok (.bipush 100, 2) := by decide +kernel
theorem dX2_greatestDivisor_13 : decode cX2_greatestDivisor 13 = .ok (.if_icmp .ge 31, 3) := by decide +kernel
theorem dX2_greatestDivisor_16 : decode cX2_greatestDivisor 16 = .ok (.lload 6, 2) := by decide +kernel
theorem dX2_greatestDivisor_18 : decode cX2_greatestDivisor 18 = .ok (.lconst 0, 1) := by decide +kernel
theorem dX2_greatestDivisor_19 : decode cX2_greatestDivisor 19 = .ok (.lcmp, 1) := by decide +kernel
theorem dX2_greatestDivisor_20 : decode cX2_greatestDivisor 20 = .ok (.ifCond .eq 24, 3) := by decide +kernel
theorem dX2_greatestDivisor_23 : decode cX2_greatestDivisor 23 = .ok (.lload 4, 2) := by decide +kernel
theorem dX2_greatestDivisor_25 : decode cX2_greatestDivisor 25 = .ok (.lload 6, 2) := by decide +kernel
theorem dX2_greatestDivisor_27 : decode cX2_greatestDivisor 27 = .ok (.lrem, 1) := by decide +kernel
theorem dX2_greatestDivisor_28 : decode cX2_greatestDivisor 28 = .ok (.lstore 9, 2) := by decide +kernel
theorem dX2_greatestDivisor_30 : decode cX2_greatestDivisor 30 = .ok (.lload 6, 2) := by decide +kernel
theorem dX2_greatestDivisor_32 : decode cX2_greatestDivisor 32 = .ok (.lstore 4, 2) := by decide +kernel
theorem dX2_greatestDivisor_34 : decode cX2_greatestDivisor 34 = .ok (.lload 9, 2) := by decide +kernel
theorem dX2_greatestDivisor_36 : decode cX2_greatestDivisor 36 = .ok (.lstore 6, 2) := by decide +kernel
theorem dX2_greatestDivisor_38 : decode cX2_greatestDivisor 38 = .ok (.iinc 8 1, 3) := by decide +kernel
theorem dX2_greatestDivisor_41 : decode cX2_greatestDivisor 41 = .ok (.goto (-32), 3) := by decide +kernel
theorem dX2_greatestDivisor_44 : decode cX2_greatestDivisor 44 = .ok (.lload 4, 2) := by decide +kernel
theorem dX2_greatestDivisor_46 : decode cX2_greatestDivisor 46 = .ok (.invokestatic 169, 3) := by decide +kernel
theorem dX2_greatestDivisor_49 : decode cX2_greatestDivisor 49 = .ok (.lreturn, 1) := by decide +kernel
theorem dX2_timesIn_0 : decode cX2_timesIn 0 = .ok (.iload_n 1, 1) := by decide +kernel
theorem dX2_timesIn_1 : decode cX2_timesIn 1 = .ok (.istore_n 2, 1) := by decide +kernel
theorem dX2_timesIn_2 : decode cX2_timesIn 2 = .ok (.iconst 0, 1) := by decide +kernel
theorem dX2_timesIn_3 : decode cX2_timesIn 3 = .ok (.istore_n 3, 1) := by decide +kernel
theorem dX2_timesIn_4 : decode cX2_timesIn 4 = .ok (.iload_n 3, 1) := by decide +kernel
theorem dX2_timesIn_5 : decode cX2_timesIn 5 = .ok (.iconst 3, 1) := by decide +kernel
theorem dX2_timesIn_6 : decode cX2_timesIn 6 = .ok (.if_icmp .ge 29, 3) := by decide +kernel
theorem dX2_timesIn_9 : decode cX2_timesIn 9 = .ok (.iload_n 0, 1) := by decide +kernel
theorem dX2_timesIn_10 : decode cX2_timesIn 10 = .ok (.iconst 1, 1) := by decide +kernel
theorem dX2_timesIn_11 : decode cX2_timesIn 11 = .ok (.if_icmp .le 24, 3) := by decide +kernel
theorem dX2_timesIn_14 : decode cX2_timesIn 14 = .ok (.iload_n 2, 1) := by decide +kernel
theorem dX2_timesIn_15 : decode cX2_timesIn 15 = .ok (.iload_n 0, 1) := by decide +kernel
theorem dX2_timesIn_16 : decode cX2_timesIn 16 = .ok (.if_icmp .lt 19, 3) := by decide +kernel
theorem dX2_timesIn_19 : decode cX2_timesIn 19 = .ok (.iload_n 2, 1) := by decide +kernel
theorem dX2_timesIn_20 : decode cX2_timesIn 20 = .ok (.iload_n 0, 1) := by decide +kernel
theorem dX2_timesIn_21 : decode cX2_timesIn 21 = .ok (.irem, 1) := by decide +kernel
theorem dX2_timesIn_22 : decode cX2_timesIn 22 = .ok (.ifCond .ne 13, 3) := by decide +kernel
theorem dX2_timesIn_25 : decode cX2_timesIn 25 = .ok (.iload_n 2, 1) := by decide +kernel
theorem dX2_timesIn_26 : decode cX2_timesIn 26 = .ok (.iload_n 0, 1) := by decide +kernel
theorem dX2_timesIn_27 : decode cX2_timesIn 27 = .ok (.idiv, 1) := by decide +kernel
theorem dX2_timesIn_28 : decode cX2_timesIn 28 = .ok (.istore_n 2, 1) := by decide +kernel
theorem dX2_timesIn_29 : decode cX2_timesIn 29 = .ok (.iinc 3 1, 3) := by decide +kernel
theorem dX2_timesIn_32 : decode cX2_timesIn 32 = .ok (.goto (-28), 3) := by decide +kernel
theorem dX2_timesIn_35 : decode cX2_timesIn 35 = .ok (.iload_n 3, 1) := by decide +kernel
theorem dX2_timesIn_36 : decode cX2_timesIn 36 = .ok (.ireturn, 1) := by decide +kernel
end
section
theorem dX3_init_0 : decode cX3_init 0 = .ok (.aload_n 0, 1) := by decide +kernel
theorem dX3_init_1 : decode cX3_init 1 = .ok (.invokespecial 1, 3) := by decide +kernel
theorem dX3_init_4 : decode cX3_init 4 = .ok (.aload_n 0, 1) := by decide +kernel
theorem dX3_init_5 : decode cX3_init 5 = .ok (.iconst 3, 1) := by decide +kernel
theorem dX3_init_6 : decode cX3_init 6 = .ok (.newarray .int, 2) := by decide +kernel
theorem dX3_init_8 : decode cX3_init 8 = .ok (.putfield 7, 3) := by decide +kernel
theorem dX3_init_11 : decode cX3_init 11 = .ok (.aload_n 0, 1) := by decide +kernel
theorem dX3_init_12 : decode cX3_init 12 = .ok (.bipush 32, 2) := by decide +kernel
theorem dX3_init_14 : decode cX3_init 14 = .ok (.newarray .int, 2) := by decide +kernel
theorem dX3_init_16 : decode cX3_init 16 = .ok (.putfield 13, 3) := by decide +kernel
theorem dX3_init_19 : decode cX3_init 19 = .ok (.aload_n 0, 1) := by decide +kernel
theorem dX3_init_20 : decode cX3_init 20 = .ok (.bipush 32, 2) := by decide +kernel
theorem dX3_init_22 : decode cX3_init 22 = .ok (.newarray .int, 2) := by decide +kernel
theorem dX3_init_24 : decode cX3_init 24 = .ok (.putfield 16, 3) := by decide +kernel
theorem dX3_init_27 : decode cX3_init 27 = .ok (.aload_n 0, 1) := by decide +kernel
theorem dX3_init_28 : decode cX3_init 28 = .ok (.iconst 3, 1) := by decide +kernel
theorem dX3_init_29 : decode cX3_init 29 = .ok (.newarray .int, 2) := by decide +kernel
theorem dX3_init_31 : decode cX3_init 31 = .ok (.putfield 19, 3) := by decide +kernel
theorem dX3_init_34 : decode cX3_init 34 = .ok (.aload_n 0, 1) := by decide +kernel
theorem dX3_init_35 : decode cX3_init 35 = .ok (.iconst 5, 1) := by decide +kernel
theorem dX3_init_36 : decode cX3_init 36 = .ok (.newarray .int, 2) := by decide +kernel
theorem dX3_init_38 : decode cX3_init 38 = .ok (.putfield 22, 3) := by decide +kernel
theorem dX3_init_41 : decode cX3_init 41 = .ok (.aload_n 0, 1) := by decide +kernel
theorem dX3_init_42 : decode cX3_init 42 = .ok (.iconst 5, 1) := by decide +kernel
theorem dX3_init_43 : decode cX3_init 43 = .ok (.newarray .int, 2) := by decide +kernel
theorem dX3_init_45 : decode cX3_init 45 = .ok (.putfield 25, 3) := by decide +kernel
theorem dX3_init_48 : decode cX3_init 48 = .ok (.return_, 1) := by decide +kernel
theorem dX3_thrown_0 : decode cX3_thrown 0 = .ok (.aload_n 0, 1) := by decide +kernel
theorem dX3_thrown_1 : decode cX3_thrown 1 = .ok (.getfield 28, 3) := by decide +kernel
theorem dX3_thrown_4 : decode cX3_thrown 4 = .ok (.ireturn, 1) := by decide +kernel
theorem dX3_raise_0 : decode cX3_raise 0 = .ok (.aload_n 0, 1) := by decide +kernel
theorem dX3_raise_1 : decode cX3_raise 1 = .ok (.iload_n 1, 1) := by decide +kernel
theorem dX3_raise_2 : decode cX3_raise 2 = .ok (.putfield 28, 3) := by decide +kernel
theorem dX3_raise_5 : decode cX3_raise 5 = .ok (.iconst 0, 1) := by decide +kernel
theorem dX3_raise_6 : decode cX3_raise 6 = .ok (.ireturn, 1) := by decide +kernel
theorem dX3_in_0 : decode cX3_in 0 = .ok (.iload_n 0, 1) := by decide +kernel
theorem dX3_in_1 : decode cX3_in 1 = .ok (.iload_n 1, 1) := by decide +kernel
theorem dX3_in_2 : decode cX3_in 2 = .ok (.if_icmp .lt 12, 3) := by decide +kernel
theorem dX3_in_5 : decode cX3_in 5 = .ok (.iload_n 0, 1) := by decide +kernel
theorem dX3_in_6 : decode cX3_in 6 = .ok (.iload_n 2, 1) := by decide +kernel
theorem dX3_in_7 : decode cX3_in 7 = .ok (.if_icmp .gt 7, 3) := by decide +kernel
theorem dX3_in_10 : decode cX3_in 10 = .ok (.iconst 1, 1) := by decide +kernel
theorem dX3_in_11 : decode cX3_in 11 = .ok (.goto 4, 3) := by decide +kernel
theorem dX3_in_14 : decode cX3_in 14 = .ok (.iconst 0, 1) := by decide +kernel
theorem dX3_in_15 : decode cX3_in 15 = .ok (.ireturn, 1) := by decide +kernel
theorem dX3_cut_0 : decode cX3_cut 0 = .ok (.iconst 0, 1) := by decide +kernel
theorem dX3_cut_1 : decode cX3_cut 1 = .ok (.istore_n 2, 1) := by decide +kernel
theorem dX3_cut_2 : decode cX3_cut 2 = .ok (.iload_n 2, 1) := by decide +kernel
theorem dX3_cut_3 : decode cX3_cut 3 = .ok (.aload_n 0, 1) := by decide +kernel
theorem dX3_cut_4 : decode cX3_cut 4 = .ok (.getfield 32, 3) := by decide +kernel
theorem dX3_cut_7 : decode cX3_cut 7 = .ok (.if_icmp .ge 19, 3) := by decide +kernel
theorem dX3_cut_10 : decode cX3_cut 10 = .ok (.aload_n 0, 1) := by decide +kernel
theorem dX3_cut_11 : decode cX3_cut 11 = .ok (.getfield 7, 3) := by decide +kernel
theorem dX3_cut_14 : decode cX3_cut 14 = .ok (.iload_n 2, 1) := by decide +kernel
theorem dX3_cut_15 : decode cX3_cut 15 = .ok (.iaload, 1) := by decide +kernel
theorem dX3_cut_16 : decode cX3_cut 16 = .ok (.iload_n 1, 1) := by decide +kernel
theorem dX3_cut_17 : decode cX3_cut 17 = .ok (.if_icmp .ge 9, 3) := by decide +kernel
theorem dX3_cut_20 : decode cX3_cut 20 = .ok (.iinc 2 1, 3) := by decide +kernel
theorem dX3_cut_23 : decode cX3_cut 23 = .ok (.goto (-21), 3) := by decide +kernel
theorem dX3_cut_26 : decode cX3_cut 26 = .ok (.iload_n 2, 1) := by decide +kernel
theorem dX3_cut_27 : decode cX3_cut 27 = .ok (.aload_n 0, 1) := by decide +kernel
theorem dX3_cut_28 : decode cX3_cut 28 = .ok (.getfield 32, 3) := by decide +kernel
theorem dX3_cut_31 : decode cX3_cut 31 = .ok (.if_icmp .ge 17, 3) := by decide +kernel
theorem dX3_cut_34 : decode cX3_cut 34 = .ok (.aload_n 0, 1) := by decide +kernel
theorem dX3_cut_35 : decode cX3_cut 35 = .ok (.getfield 7, 3) := by decide +kernel
theorem dX3_cut_38 : decode cX3_cut 38 = .ok (.iload_n 2, 1) := by decide +kernel
theorem dX3_cut_39 : decode cX3_cut 39 = .ok (.iaload, 1) := by decide +kernel
theorem dX3_cut_40 : decode cX3_cut 40 = .ok (.iload_n 1, 1) := by decide +kernel
theorem dX3_cut_41 : decode cX3_cut 41 = .ok (.if_icmp .ne 7, 3) := by decide +kernel
theorem dX3_cut_44 : decode cX3_cut 44 = .ok (.iconst 1, 1) := by decide +kernel
theorem dX3_cut_45 : decode cX3_cut 45 = .ok (.goto 4, 3) := by decide +kernel
theorem dX3_cut_48 : decode cX3_cut 48 = .ok (.iconst 0, 1) := by decide +kernel
theorem dX3_cut_49 : decode cX3_cut 49 = .ok (.istore_n 3, 1) := by decide +kernel
theorem dX3_cut_50 : decode cX3_cut 50 = .ok (.aload_n 0, 1) := by decide +kernel
theorem dX3_cut_51 : decode cX3_cut 51 = .ok (.iload_n 1, 1) := by decide +kernel
theorem dX3_cut_52 : decode cX3_cut 52 = .ok (.bipush (-6), 2) := by decide +kernel
theorem dX3_cut_54 : decode cX3_cut 54 = .ok (.bipush 6, 2) := by decide +kernel
theorem dX3_cut_56 : decode cX3_cut 56 = .ok (.invokestatic 35, 3) := by decide +kernel
theorem dX3_cut_59 : decode cX3_cut 59 = .ok (.ifCond .eq 7, 3) := by decide +kernel
theorem dX3_cut_62 : decode cX3_cut 62 = .ok (.iload_n 3, 1) := by decide +kernel
theorem dX3_cut_63 : decode cX3_cut 63 = .ok (.ifCond .eq 7, 3) := by decide +kernel
theorem dX3_cut_66 : decode cX3_cut 66 = .ok (.iconst 1, 1) := by decide +kernel
theorem dX3_cut_67 : decode cX3_cut 67 = .ok (.goto 16, 3) := by decide +kernel
theorem dX3_cut_70 : decode cX3_cut 70 = .ok (.aload_n 0, 1) := by decide +kernel
theorem dX3_cut_71 : decode cX3_cut 71 = .ok (.getfield 32, 3) := by decide +kernel
theorem dX3_cut_74 : decode cX3_cut 74 = .ok (.iconst 3, 1) := by decide +kernel
theorem dX3_cut_75 : decode cX3_cut 75 = .ok (.if_icmp .ne 7, 3) := by decide +kernel
theorem dX3_cut_78 : decode cX3_cut 78 = .ok (.iconst 2, 1) := by decide +kernel
theorem dX3_cut_79 : decode cX3_cut 79 = .ok (.goto 4, 3) := by decide +kernel
theorem dX3_cut_82 : decode cX3_cut 82 = .ok (.iconst 0, 1) := by decide +kernel
theorem dX3_cut_83 : decode cX3_cut 83 = .ok (.putfield 28, 3) := by decide +kernel
theorem dX3_cut_86 : decode cX3_cut 86 = .ok (.aload_n 0, 1) := by decide +kernel
theorem dX3_cut_87 : decode cX3_cut 87 = .ok (.getfield 28, 3) := by decide +kernel
theorem dX3_cut_90 : decode cX3_cut 90 = .ok (.ifCond .le 5, 3) := by decide +kernel
theorem dX3_cut_93 : decode cX3_cut 93 = .ok (.iconst 0, 1) := by decide +kernel
theorem dX3_cut_94 : decode cX3_cut 94 = .ok (.ireturn, 1) := by decide +kernel
theorem dX3_cut_95 : decode cX3_cut 95 = .ok (.aload_n 0, 1) := by decide +kernel
theorem dX3_cut_96 : decode cX3_cut 96 = .ok (.getfield 32, 3) := by decide +kernel
theorem dX3_cut_99 : decode cX3_cut 99 = .ok (.istore 4, 2) := by decide +kernel
theorem dX3_cut_101 : decode cX3_cut 101 = .ok (.iload 4, 2) := by decide +kernel
theorem dX3_cut_103 : decode cX3_cut 103 = .ok (.iload_n 2, 1) := by decide +kernel
theorem dX3_cut_104 : decode cX3_cut 104 = .ok (.if_icmp .le 25, 3) := by decide +kernel
theorem dX3_cut_107 : decode cX3_cut 107 = .ok (.aload_n 0, 1) := by decide +kernel
theorem dX3_cut_108 : decode cX3_cut 108 = .ok (.getfield 7, 3) := by decide +kernel
theorem dX3_cut_111 : decode cX3_cut 111 = .ok (.iload 4, 2) := by decide +kernel
theorem dX3_cut_113 : decode cX3_cut 113 = .ok (.aload_n 0, 1) := by decide +kernel
theorem dX3_cut_114 : decode cX3_cut 114 = .ok (.getfield 7, 3) := by decide +kernel
theorem dX3_cut_117 : decode cX3_cut 117 = .ok (.iload 4, 2) := by decide +kernel
theorem dX3_cut_119 : decode cX3_cut 119 = .ok (.iconst 1, 1) := by decide +kernel
theorem dX3_cut_120 : decode cX3_cut 120 = .ok (.isub, 1) := by decide +kernel
theorem dX3_cut_121 : decode cX3_cut 121 = .ok (.iaload, 1) := by decide +kernel
theorem dX3_cut_122 : decode cX3_cut 122 = .ok (.iastore, 1) := by decide +kernel
theorem dX3_cut_123 : decode cX3_cut 123 = .ok (.iinc 4 (-1), 3) := by decide +kernel
theorem dX3_cut_126 : decode cX3_cut 126 = .ok (.goto (-25), 3) := by decide +kernel
theorem dX3_cut_129 : decode cX3_cut 129 = .ok (.aload_n 0, 1) := by decide +kernel
theorem dX3_cut_130 : decode cX3_cut 130 = .ok (.getfield 7, 3) := by decide +kernel
theorem dX3_cut_133 : decode cX3_cut 133 = .ok (.iload_n 2, 1) := by decide +kernel
theorem dX3_cut_134 : decode cX3_cut 134 = .ok (.iload_n 1, 1) := by decide +kernel
theorem dX3_cut_135 : decode cX3_cut 135 = .ok (.iastore, 1) := by decide +kernel
theorem dX3_cut_136 : decode cX3_cut 136 = .ok (.aload_n 0, 1) := by decide +kernel
theorem dX3_cut_137 : decode cX3_cut 137 = .ok (.dup, 1) := by decide +kernel
theorem dX3_cut_138 : decode cX3_cut 138 = .ok (.getfield 32, 3) := by decide +kernel
theorem dX3_cut_141 : decode cX3_cut 141 = .ok (.iconst 1, 1) := by decide +kernel
theorem dX3_cut_142 : decode cX3_cut 142 = .ok (.iadd, 1) := by decide +kernel
theorem dX3_cut_143 : decode cX3_cut 143 = .ok (.putfield 32, 3) := by decide +kernel
theorem dX3_cut_146 : decode cX3_cut 146 = .ok (.bipush 8, 2) := by decide +kernel
theorem dX3_cut_148 : decode cX3_cut 148 = .ok (.aload_n 0, 1) := by decide +kernel
theorem dX3_cut_149 : decode cX3_cut 149 = .ok (.getfield 32, 3) := by decide +kernel
theorem dX3_cut_152 : decode cX3_cut 152 = .ok (.imul, 1) := by decide +kernel
theorem dX3_cut_153 : decode cX3_cut 153 = .ok (.bipush 7, 2) := by decide +kernel
theorem dX3_cut_155 : decode cX3_cut 155 = .ok (.iadd, 1) := by decide +kernel
theorem dX3_cut_156 : decode cX3_cut 156 = .ok (.istore 4, 2) := by decide +kernel
theorem dX3_cut_158 : decode cX3_cut 158 = .ok (.iload 4, 2) := by decide +kernel
theorem dX3_cut_160 : decode cX3_cut 160 = .ok (.bipush 8, 2) := by decide +kernel
theorem dX3_cut_162 : decode cX3_cut 162 = .ok (.iload_n 2, 1) := by decide +kernel
theorem dX3_cut_163 : decode cX3_cut 163 = .ok (.imul, 1) := by decide +kernel
theorem dX3_cut_164 : decode cX3_cut 164 = .ok (.bipush 8, 2) := by decide +kernel
theorem dX3_cut_166 : decode cX3_cut 166 = .ok (.iadd, 1) := by decide +kernel
theorem dX3_cut_167 : decode cX3_cut 167 = .ok (.if_icmp .lt 26, 3) := by decide +kernel
theorem dX3_cut_170 : decode cX3_cut 170 = .ok (.aload_n 0, 1) := by decide +kernel
theorem dX3_cut_171 : decode cX3_cut 171 = .ok (.getfield 13, 3) := by decide +kernel
theorem dX3_cut_174 : decode cX3_cut 174 = .ok (.iload 4, 2) := by decide +kernel
theorem dX3_cut_176 : decode cX3_cut 176 = .ok (.aload_n 0, 1) := by decide +kernel
theorem dX3_cut_177 : decode cX3_cut 177 = .ok (.getfield 13, 3) := by decide +kernel
theorem dX3_cut_180 : decode cX3_cut 180 = .ok (.iload 4, 2) := by decide +kernel
theorem dX3_cut_182 : decode cX3_cut 182 = .ok (.bipush 8, 2) := by decide +kernel
theorem dX3_cut_184 : decode cX3_cut 184 = .ok (.isub, 1) := by decide +kernel
theorem dX3_cut_185 : decode cX3_cut 185 = .ok (.iaload, 1) := by decide +kernel
theorem dX3_cut_186 : decode cX3_cut 186 = .ok (.iastore, 1) := by decide +kernel
theorem dX3_cut_187 : decode cX3_cut 187 = .ok (.iinc 4 (-1), 3) := by decide +kernel
theorem dX3_cut_190 : decode cX3_cut 190 = .ok (.goto (-32), 3) := by decide +kernel
theorem dX3_cut_193 : decode cX3_cut 193 = .ok (.iload_n 2, 1) := by decide +kernel
theorem dX3_cut_194 : decode cX3_cut 194 = .ok (.ireturn, 1) := by decide +kernel
theorem dX3_join_0 : decode cX3_join 0 = .ok (.aload_n 0, 1) := by decide +kernel
theorem dX3_join_1 : decode cX3_join 1 = .ok (.iload_n 1, 1) := by decide +kernel
theorem dX3_join_2 : decode cX3_join 2 = .ok (.iconst 0, 1) := by decide +kernel
theorem dX3_join_3 : decode cX3_join 3 = .ok (.aload_n 0, 1) := by decide +kernel
theorem dX3_join_4 : decode cX3_join 4 = .ok (.getfield 32, 3) := by decide +kernel
theorem dX3_join_7 : decode cX3_join 7 = .ok (.iconst 1, 1) := by decide +kernel
theorem dX3_join_8 : decode cX3_join 8 = .ok (.isub, 1) := by decide +kernel
theorem dX3_join_9 : decode cX3_join 9 = .ok (.invokestatic 35, 3) := by decide +kernel
theorem dX3_join_12 : decode cX3_join 12 = .ok (.ifCond .eq 7, 3) := by decide +kernel
theorem dX3_join_15 : decode cX3_join 15 = .ok (.iconst 0, 1) := by decide +kernel
theorem dX3_join_16 : decode cX3_join 16 = .ok (.goto 4, 3) := by decide +kernel
theorem dX3_join_19 : decode cX3_join 19 = .ok (.iconst 1, 1) := by decide +kernel
theorem dX3_join_20 : decode cX3_join 20 = .ok (.putfield 28, 3) := by decide +kernel
theorem dX3_join_23 : decode cX3_join 23 = .ok (.aload_n 0, 1) := by decide +kernel
theorem dX3_join_24 : decode cX3_join 24 = .ok (.getfield 28, 3) := by decide +kernel
theorem dX3_join_27 : decode cX3_join 27 = .ok (.ifCond .le 4, 3) := by decide +kernel
theorem dX3_join_30 : decode cX3_join 30 = .ok (.return_, 1) := by decide +kernel
theorem dX3_join_31 : decode cX3_join 31 = .ok (.aload_n 0, 1) := by decide +kernel
theorem dX3_join_32 : decode cX3_join 32 = .ok (.dup, 1) := by decide +kernel
theorem dX3_join_33 : decode cX3_join 33 = .ok (.getfield 32, 3) := by decide +kernel
theorem dX3_join_36 : decode cX3_join 36 = .ok (.iconst 1, 1) := by decide +kernel
theorem dX3_join_37 : decode cX3_join 37 = .ok (.isub, 1) := by decide +kernel
theorem dX3_join_38 : decode cX3_join 38 = .ok (.putfield 32, 3) := by decide +kernel
theorem dX3_join_41 : decode cX3_join 41 = .ok (.iload_n 1, 1) := by decide +kernel
theorem dX3_join_42 : decode cX3_join 42 = .ok (.istore_n 2, 1) := by decide +kernel
theorem dX3_join_43 : decode cX3_join 43 = .ok (.iload_n 2, 1) := by decide +kernel
theorem dX3_join_44 : decode cX3_join 44 = .ok (.aload_n 0, 1) := by decide +kernel
theorem dX3_join_45 : decode cX3_join 45 = .ok (.getfield 32, 3) := by decide +kernel
theorem dX3_join_48 : decode cX3_join 48 = .ok (.if_icmp .ge 23, 3) := by decide +kernel
theorem dX3_join_51 : decode cX3_join 51 = .ok (.aload_n 0, 1) := by decide +kernel
theorem dX3_join_52 : decode cX3_join 52 = .ok (.getfield 7, 3) := by decide +kernel
theorem dX3_join_55 : decode cX3_join 55 = .ok (.iload_n 2, 1) := by decide +kernel
theorem dX3_join_56 : decode cX3_join 56 = .ok (.aload_n 0, 1) := by decide +kernel
theorem dX3_join_57 : decode cX3_join 57 = .ok (.getfield 7, 3) := by decide +kernel
theorem dX3_join_60 : decode cX3_join 60 = .ok (.iload_n 2, 1) := by decide +kernel
theorem dX3_join_61 : decode cX3_join 61 = .ok (.iconst 1, 1) := by decide +kernel
theorem dX3_join_62 : decode cX3_join 62 = .ok (.iadd, 1) := by decide +kernel
theorem dX3_join_63 : decode cX3_join 63 = .ok (.iaload, 1) := by decide +kernel
theorem dX3_join_64 : decode cX3_join 64 = .ok (.iastore, 1) := by decide +kernel
theorem dX3_join_65 : decode cX3_join 65 = .ok (.iinc 2 1, 3) := by decide +kernel
theorem dX3_join_68 : decode cX3_join 68 = .ok (.goto (-25), 3) := by decide +kernel
theorem dX3_join_71 : decode cX3_join 71 = .ok (.bipush 8, 2) := by decide +kernel
theorem dX3_join_73 : decode cX3_join 73 = .ok (.iload_n 1, 1) := by decide +kernel
theorem dX3_join_74 : decode cX3_join 74 = .ok (.imul, 1) := by decide +kernel
theorem dX3_join_75 : decode cX3_join 75 = .ok (.bipush 8, 2) := by decide +kernel
theorem dX3_join_77 : decode cX3_join 77 = .ok (.iadd, 1) := by decide +kernel
theorem dX3_join_78 : decode cX3_join 78 = .ok (.istore_n 2, 1) := by decide +kernel
theorem dX3_join_79 : decode cX3_join 79 = .ok (.iload_n 2, 1) := by decide +kernel
theorem dX3_join_80 : decode cX3_join 80 = .ok (.bipush 8, 2) := by decide +kernel
theorem dX3_join_82 : decode cX3_join 82 = .ok (.aload_n 0, 1) := by decide +kernel
theorem dX3_join_83 : decode cX3_join 83 = .ok (.getfield 32, 3) := by decide +kernel
theorem dX3_join_86 : decode cX3_join 86 = .ok (.imul, 1) := by decide +kernel
theorem dX3_join_87 : decode cX3_join 87 = .ok (.bipush 8, 2) := by decide +kernel
theorem dX3_join_89 : decode cX3_join 89 = .ok (.iadd, 1) := by decide +kernel
theorem dX3_join_90 : decode cX3_join 90 = .ok (.if_icmp .ge 24, 3) := by decide +kernel
theorem dX3_join_93 : decode cX3_join 93 = .ok (.aload_n 0, 1) := by decide +kernel
theorem dX3_join_94 : decode cX3_join 94 = .ok (.getfield 13, 3) := by decide +kernel
theorem dX3_join_97 : decode cX3_join 97 = .ok (.iload_n 2, 1) := by decide +kernel
theorem dX3_join_98 : decode cX3_join 98 = .ok (.aload_n 0, 1) := by decide +kernel
theorem dX3_join_99 : decode cX3_join 99 = .ok (.getfield 13, 3) := by decide +kernel
theorem dX3_join_102 : decode cX3_join 102 = .ok (.iload_n 2, 1) := by decide +kernel
theorem dX3_join_103 : decode cX3_join 103 = .ok (.bipush 8, 2) := by decide +kernel
theorem dX3_join_105 : decode cX3_join 105 = .ok (.iadd, 1) := by decide +kernel
theorem dX3_join_106 : decode cX3_join 106 = .ok (.iaload, 1) := by decide +kernel
theorem dX3_join_107 : decode cX3_join 107 = .ok (.iastore, 1) := by decide +kernel
theorem dX3_join_108 : decode cX3_join 108 = .ok (.iinc 2 1, 3) := by decide +kernel
theorem dX3_join_111 : decode cX3_join 111 = .ok (.goto (-32), 3) := by decide +kernel
theorem dX3_join_114 : decode cX3_join 114 = .ok (.return_, 1) := by decide +kernel
theorem dX3_put_0 : decode cX3_put 0 = .ok (.aload_n 0, 1) := by decide +kernel
theorem dX3_put_1 : decode cX3_put 1 = .ok (.iload_n 1, 1) := by decide +kernel
theorem dX3_put_2 : decode cX3_put 2 = .ok (.iconst 0, 1) := by decide +kernel
theorem dX3_put_3 : decode cX3_put 3 = .ok (.aload_n 0, 1) := by decide +kernel
theorem dX3_put_4 : decode cX3_put 4 = .ok (.getfield 32, 3) := by decide +kernel
theorem dX3_put_7 : decode cX3_put 7 = .ok (.invokestatic 35, 3) := by decide +kernel
theorem dX3_put_10 : decode cX3_put 10 = .ok (.ifCond .ne 7, 3) := by decide +kernel
theorem dX3_put_13 : decode cX3_put 13 = .ok (.iconst 1, 1) := by decide +kernel
theorem dX3_put_14 : decode cX3_put 14 = .ok (.goto 50, 3) := by decide +kernel
theorem dX3_put_17 : decode cX3_put 17 = .ok (.iload_n 2, 1) := by decide +kernel
theorem dX3_put_18 : decode cX3_put 18 = .ok (.iconst 0, 1) := by decide +kernel
theorem dX3_put_19 : decode cX3_put 19 = .ok (.bipush 7, 2) := by decide +kernel
theorem dX3_put_21 : decode cX3_put 21 = .ok (.invokestatic 35, 3) := by decide +kernel
theorem dX3_put_24 : decode cX3_put 24 = .ok (.ifCond .eq 35, 3) := by decide +kernel
theorem dX3_put_27 : decode cX3_put 27 = .ok (.iload_n 3, 1) := by decide +kernel
theorem dX3_put_28 : decode cX3_put 28 = .ok (.iload_n 2, 1) := by decide +kernel
theorem dX3_put_29 : decode cX3_put 29 = .ok (.bipush 7, 2) := by decide +kernel
theorem dX3_put_31 : decode cX3_put 31 = .ok (.if_icmp .ne 8, 3) := by decide +kernel
theorem dX3_put_34 : decode cX3_put 34 = .ok (.bipush (-6), 2) := by decide +kernel
theorem dX3_put_36 : decode cX3_put 36 = .ok (.goto 5, 3) := by decide +kernel
theorem dX3_put_39 : decode cX3_put 39 = .ok (.bipush (-5), 2) := by decide +kernel
theorem dX3_put_41 : decode cX3_put 41 = .ok (.iload_n 2, 1) := by decide +kernel
theorem dX3_put_42 : decode cX3_put 42 = .ok (.bipush 7, 2) := by decide +kernel
theorem dX3_put_44 : decode cX3_put 44 = .ok (.if_icmp .ne 8, 3) := by decide +kernel
theorem dX3_put_47 : decode cX3_put 47 = .ok (.bipush 6, 2) := by decide +kernel
theorem dX3_put_49 : decode cX3_put 49 = .ok (.goto 4, 3) := by decide +kernel
theorem dX3_put_52 : decode cX3_put 52 = .ok (.iconst 5, 1) := by decide +kernel
theorem dX3_put_53 : decode cX3_put 53 = .ok (.invokestatic 35, 3) := by decide +kernel
theorem dX3_put_56 : decode cX3_put 56 = .ok (.ifCond .ne 7, 3) := by decide +kernel
theorem dX3_put_59 : decode cX3_put 59 = .ok (.iconst 2, 1) := by decide +kernel
theorem dX3_put_60 : decode cX3_put 60 = .ok (.goto 4, 3) := by decide +kernel
theorem dX3_put_63 : decode cX3_put 63 = .ok (.iconst 0, 1) := by decide +kernel
theorem dX3_put_64 : decode cX3_put 64 = .ok (.putfield 28, 3) := by decide +kernel
theorem dX3_put_67 : decode cX3_put 67 = .ok (.aload_n 0, 1) := by decide +kernel
theorem dX3_put_68 : decode cX3_put 68 = .ok (.getfield 28, 3) := by decide +kernel
theorem dX3_put_71 : decode cX3_put 71 = .ok (.ifCond .le 5, 3) := by decide +kernel
theorem dX3_put_74 : decode cX3_put 74 = .ok (.iconst 0, 1) := by decide +kernel
theorem dX3_put_75 : decode cX3_put 75 = .ok (.ireturn, 1) := by decide +kernel
theorem dX3_put_76 : decode cX3_put 76 = .ok (.aload_n 0, 1) := by decide +kernel
theorem dX3_put_77 : decode cX3_put 77 = .ok (.getfield 13, 3) := by decide +kernel
theorem dX3_put_80 : decode cX3_put 80 = .ok (.bipush 8, 2) := by decide +kernel
theorem dX3_put_82 : decode cX3_put 82 = .ok (.iload_n 1, 1) := by decide +kernel
theorem dX3_put_83 : decode cX3_put 83 = .ok (.imul, 1) := by decide +kernel
theorem dX3_put_84 : decode cX3_put 84 = .ok (.iload_n 2, 1) := by decide +kernel
theorem dX3_put_85 : decode cX3_put 85 = .ok (.iadd, 1) := by decide +kernel
theorem dX3_put_86 : decode cX3_put 86 = .ok (.iaload, 1) := by decide +kernel
theorem dX3_put_87 : decode cX3_put 87 = .ok (.iload_n 3, 1) := by decide +kernel
theorem dX3_put_88 : decode cX3_put 88 = .ok (.if_icmp .eq 7, 3) := by decide +kernel
theorem dX3_put_91 : decode cX3_put 91 = .ok (.iconst 1, 1) := by decide +kernel
theorem dX3_put_92 : decode cX3_put 92 = .ok (.goto 4, 3) := by decide +kernel
theorem dX3_put_95 : decode cX3_put 95 = .ok (.iconst 0, 1) := by decide +kernel
theorem dX3_put_96 : decode cX3_put 96 = .ok (.istore 4, 2) := by decide +kernel
theorem dX3_put_98 : decode cX3_put 98 = .ok (.aload_n 0, 1) := by decide +kernel
theorem dX3_put_99 : decode cX3_put 99 = .ok (.getfield 13, 3) := by decide +kernel
theorem dX3_put_102 : decode cX3_put 102 = .ok (.bipush 8, 2) := by decide +kernel
theorem dX3_put_104 : decode cX3_put 104 = .ok (.iload_n 1, 1) := by decide +kernel
theorem dX3_put_105 : decode cX3_put 105 = .ok (.imul, 1) := by decide +kernel
theorem dX3_put_106 : decode cX3_put 106 = .ok (.iload_n 2, 1) := by decide +kernel
theorem dX3_put_107 : decode cX3_put 107 = .ok (.iadd, 1) := by decide +kernel
theorem dX3_put_108 : decode cX3_put 108 = .ok (.iload_n 3, 1) := by decide +kernel
theorem dX3_put_109 : decode cX3_put 109 = .ok (.iastore, 1) := by decide +kernel
theorem dX3_put_110 : decode cX3_put 110 = .ok (.iload 4, 2) := by decide +kernel
theorem dX3_put_112 : decode cX3_put 112 = .ok (.ireturn, 1) := by decide +kernel
theorem dX3_at_0 : decode cX3_at 0 = .ok (.aload_n 0, 1) := by decide +kernel
theorem dX3_at_1 : decode cX3_at 1 = .ok (.iload_n 1, 1) := by decide +kernel
theorem dX3_at_2 : decode cX3_at 2 = .ok (.iconst 0, 1) := by decide +kernel
theorem dX3_at_3 : decode cX3_at 3 = .ok (.aload_n 0, 1) := by decide +kernel
theorem dX3_at_4 : decode cX3_at 4 = .ok (.getfield 32, 3) := by decide +kernel
theorem dX3_at_7 : decode cX3_at 7 = .ok (.invokestatic 35, 3) := by decide +kernel
theorem dX3_at_10 : decode cX3_at 10 = .ok (.ifCond .ne 7, 3) := by decide +kernel
theorem dX3_at_13 : decode cX3_at 13 = .ok (.iconst 1, 1) := by decide +kernel
theorem dX3_at_14 : decode cX3_at 14 = .ok (.goto 18, 3) := by decide +kernel
theorem dX3_at_17 : decode cX3_at 17 = .ok (.iload_n 2, 1) := by decide +kernel
theorem dX3_at_18 : decode cX3_at 18 = .ok (.iconst 0, 1) := by decide +kernel
theorem dX3_at_19 : decode cX3_at 19 = .ok (.bipush 7, 2) := by decide +kernel
theorem dX3_at_21 : decode cX3_at 21 = .ok (.invokestatic 35, 3) := by decide +kernel
theorem dX3_at_24 : decode cX3_at 24 = .ok (.ifCond .eq 7, 3) := by decide +kernel
theorem dX3_at_27 : decode cX3_at 27 = .ok (.iconst 0, 1) := by decide +kernel
theorem dX3_at_28 : decode cX3_at 28 = .ok (.goto 4, 3) := by decide +kernel
theorem dX3_at_31 : decode cX3_at 31 = .ok (.iconst 2, 1) := by decide +kernel
theorem dX3_at_32 : decode cX3_at 32 = .ok (.putfield 28, 3) := by decide +kernel
theorem dX3_at_35 : decode cX3_at 35 = .ok (.aload_n 0, 1) := by decide +kernel
theorem dX3_at_36 : decode cX3_at 36 = .ok (.getfield 28, 3) := by decide +kernel
theorem dX3_at_39 : decode cX3_at 39 = .ok (.ifCond .le 7, 3) := by decide +kernel
theorem dX3_at_42 : decode cX3_at 42 = .ok (.iconst 0, 1) := by decide +kernel
theorem dX3_at_43 : decode cX3_at 43 = .ok (.goto 14, 3) := by decide +kernel
theorem dX3_at_46 : decode cX3_at 46 = .ok (.aload_n 0, 1) := by decide +kernel
theorem dX3_at_47 : decode cX3_at 47 = .ok (.getfield 13, 3) := by decide +kernel
theorem dX3_at_50 : decode cX3_at 50 = .ok (.bipush 8, 2) := by decide +kernel
theorem dX3_at_52 : decode cX3_at 52 = .ok (.iload_n 1, 1) := by decide +kernel
theorem dX3_at_53 : decode cX3_at 53 = .ok (.imul, 1) := by decide +kernel
theorem dX3_at_54 : decode cX3_at 54 = .ok (.iload_n 2, 1) := by decide +kernel
theorem dX3_at_55 : decode cX3_at 55 = .ok (.iadd, 1) := by decide +kernel
theorem dX3_at_56 : decode cX3_at 56 = .ok (.iaload, 1) := by decide +kernel
theorem dX3_at_57 : decode cX3_at 57 = .ok (.ireturn, 1) := by decide +kernel
theorem dX3_place_0 : decode cX3_place 0 = .ok (.aload_n 0, 1) := by decide +kernel
theorem dX3_place_1 : decode cX3_place 1 = .ok (.iload_n 1, 1) := by decide +kernel
theorem dX3_place_2 : decode cX3_place 2 = .ok (.iconst 0, 1) := by decide +kernel
theorem dX3_place_3 : decode cX3_place 3 = .ok (.aload_n 0, 1) := by decide +kernel
theorem dX3_place_4 : decode cX3_place 4 = .ok (.getfield 32, 3) := by decide +kernel
theorem dX3_place_7 : decode cX3_place 7 = .ok (.iconst 1, 1) := by decide +kernel
theorem dX3_place_8 : decode cX3_place 8 = .ok (.isub, 1) := by decide +kernel
theorem dX3_place_9 : decode cX3_place 9 = .ok (.invokestatic 35, 3) := by decide +kernel
theorem dX3_place_12 : decode cX3_place 12 = .ok (.ifCond .eq 7, 3) := by decide +kernel
theorem dX3_place_15 : decode cX3_place 15 = .ok (.iconst 0, 1) := by decide +kernel
theorem dX3_place_16 : decode cX3_place 16 = .ok (.goto 4, 3) := by decide +kernel
theorem dX3_place_19 : decode cX3_place 19 = .ok (.iconst 1, 1) := by decide +kernel
theorem dX3_place_20 : decode cX3_place 20 = .ok (.putfield 28, 3) := by decide +kernel
theorem dX3_place_23 : decode cX3_place 23 = .ok (.aload_n 0, 1) := by decide +kernel
theorem dX3_place_24 : decode cX3_place 24 = .ok (.getfield 28, 3) := by decide +kernel
theorem dX3_place_27 : decode cX3_place 27 = .ok (.ifCond .le 7, 3) := by decide +kernel
theorem dX3_place_30 : decode cX3_place 30 = .ok (.iconst 0, 1) := by decide +kernel
theorem dX3_place_31 : decode cX3_place 31 = .ok (.goto 9, 3) := by decide +kernel
theorem dX3_place_34 : decode cX3_place 34 = .ok (.aload_n 0, 1) := by decide +kernel
theorem dX3_place_35 : decode cX3_place 35 = .ok (.getfield 7, 3) := by decide +kernel
theorem dX3_place_38 : decode cX3_place 38 = .ok (.iload_n 1, 1) := by decide +kernel
theorem dX3_place_39 : decode cX3_place 39 = .ok (.iaload, 1) := by decide +kernel
theorem dX3_place_40 : decode cX3_place 40 = .ok (.ireturn, 1) := by decide +kernel
theorem dX3_turned_0 : decode cX3_turned 0 = .ok (.aload_n 1, 1) := by decide +kernel
theorem dX3_turned_1 : decode cX3_turned 1 = .ok (.bipush 8, 2) := by decide +kernel
theorem dX3_turned_3 : decode cX3_turned 3 = .ok (.iload_n 2, 1) := by decide +kernel
theorem dX3_turned_4 : decode cX3_turned 4 = .ok (.imul, 1) := by decide +kernel
theorem dX3_turned_5 : decode cX3_turned 5 = .ok (.iload_n 3, 1) := by decide +kernel
theorem dX3_turned_6 : decode cX3_turned 6 = .ok (.iadd, 1) := by decide +kernel
theorem dX3_turned_7 : decode cX3_turned 7 = .ok (.iaload, 1) := by decide +kernel
theorem dX3_turned_8 : decode cX3_turned 8 = .ok (.istore 4, 2) := by decide +kernel
theorem dX3_turned_10 : decode cX3_turned 10 = .ok (.iload_n 3, 1) := by decide +kernel
theorem dX3_turned_11 : decode cX3_turned 11 = .ok (.iconst 1, 1) := by decide +kernel
theorem dX3_turned_12 : decode cX3_turned 12 = .ok (.if_icmp .eq 25, 3) := by decide +kernel
theorem dX3_turned_15 : decode cX3_turned 15 = .ok (.iload_n 3, 1) := by decide +kernel
theorem dX3_turned_16 : decode cX3_turned 16 = .ok (.iconst 3, 1) := by decide +kernel
theorem dX3_turned_17 : decode cX3_turned 17 = .ok (.if_icmp .eq 20, 3) := by decide +kernel
theorem dX3_turned_20 : decode cX3_turned 20 = .ok (.iload_n 3, 1) := by decide +kernel
theorem dX3_turned_21 : decode cX3_turned 21 = .ok (.iconst 4, 1) := by decide +kernel
theorem dX3_turned_22 : decode cX3_turned 22 = .ok (.if_icmp .eq 15, 3) := by decide +kernel
theorem dX3_turned_25 : decode cX3_turned 25 = .ok (.iload_n 3, 1) := by decide +kernel
theorem dX3_turned_26 : decode cX3_turned 26 = .ok (.bipush 6, 2) := by decide +kernel
theorem dX3_turned_28 : decode cX3_turned 28 = .ok (.if_icmp .eq 9, 3) := by decide +kernel
theorem dX3_turned_31 : decode cX3_turned 31 = .ok (.iload_n 3, 1) := by decide +kernel
theorem dX3_turned_32 : decode cX3_turned 32 = .ok (.bipush 7, 2) := by decide +kernel
theorem dX3_turned_34 : decode cX3_turned 34 = .ok (.if_icmp .ne 9, 3) := by decide +kernel
theorem dX3_turned_37 : decode cX3_turned 37 = .ok (.iload 4, 2) := by decide +kernel
theorem dX3_turned_39 : decode cX3_turned 39 = .ok (.ineg, 1) := by decide +kernel
theorem dX3_turned_40 : decode cX3_turned 40 = .ok (.goto 5, 3) := by decide +kernel
theorem dX3_turned_43 : decode cX3_turned 43 = .ok (.iload 4, 2) := by decide +kernel
theorem dX3_turned_45 : decode cX3_turned 45 = .ok (.ireturn, 1) := by decide +kernel
theorem dX3_mirror_0 : decode cX3_mirror 0 = .ok (.aload_n 0, 1) := by decide +kernel
theorem dX3_mirror_1 : decode cX3_mirror 1 = .ok (.iconst 0, 1) := by decide +kernel
theorem dX3_mirror_2 : decode cX3_mirror 2 = .ok (.putfield 28, 3) := by decide +kernel
theorem dX3_mirror_5 : decode cX3_mirror 5 = .ok (.iconst 0, 1) := by decide +kernel
theorem dX3_mirror_6 : decode cX3_mirror 6 = .ok (.istore_n 1, 1) := by decide +kernel
theorem dX3_mirror_7 : decode cX3_mirror 7 = .ok (.iload_n 1, 1) := by decide +kernel
theorem dX3_mirror_8 : decode cX3_mirror 8 = .ok (.bipush 32, 2) := by decide +kernel
theorem dX3_mirror_10 : decode cX3_mirror 10 = .ok (.if_icmp .ge 21, 3) := by decide +kernel
theorem dX3_mirror_13 : decode cX3_mirror 13 = .ok (.aload_n 0, 1) := by decide +kernel
theorem dX3_mirror_14 : decode cX3_mirror 14 = .ok (.getfield 16, 3) := by decide +kernel
theorem dX3_mirror_17 : decode cX3_mirror 17 = .ok (.iload_n 1, 1) := by decide +kernel
theorem dX3_mirror_18 : decode cX3_mirror 18 = .ok (.aload_n 0, 1) := by decide +kernel
theorem dX3_mirror_19 : decode cX3_mirror 19 = .ok (.getfield 13, 3) := by decide +kernel
theorem dX3_mirror_22 : decode cX3_mirror 22 = .ok (.iload_n 1, 1) := by decide +kernel
theorem dX3_mirror_23 : decode cX3_mirror 23 = .ok (.iaload, 1) := by decide +kernel
theorem dX3_mirror_24 : decode cX3_mirror 24 = .ok (.iastore, 1) := by decide +kernel
theorem dX3_mirror_25 : decode cX3_mirror 25 = .ok (.iinc 1 1, 3) := by decide +kernel
theorem dX3_mirror_28 : decode cX3_mirror 28 = .ok (.goto (-21), 3) := by decide +kernel
theorem dX3_mirror_31 : decode cX3_mirror 31 = .ok (.iconst 0, 1) := by decide +kernel
theorem dX3_mirror_32 : decode cX3_mirror 32 = .ok (.istore_n 1, 1) := by decide +kernel
theorem dX3_mirror_33 : decode cX3_mirror 33 = .ok (.iload_n 1, 1) := by decide +kernel
theorem dX3_mirror_34 : decode cX3_mirror 34 = .ok (.iconst 3, 1) := by decide +kernel
theorem dX3_mirror_35 : decode cX3_mirror 35 = .ok (.if_icmp .ge 21, 3) := by decide +kernel
theorem dX3_mirror_38 : decode cX3_mirror 38 = .ok (.aload_n 0, 1) := by decide +kernel
theorem dX3_mirror_39 : decode cX3_mirror 39 = .ok (.getfield 19, 3) := by decide +kernel
theorem dX3_mirror_42 : decode cX3_mirror 42 = .ok (.iload_n 1, 1) := by decide +kernel
theorem dX3_mirror_43 : decode cX3_mirror 43 = .ok (.aload_n 0, 1) := by decide +kernel
theorem dX3_mirror_44 : decode cX3_mirror 44 = .ok (.getfield 7, 3) := by decide +kernel
theorem dX3_mirror_47 : decode cX3_mirror 47 = .ok (.iload_n 1, 1) := by decide +kernel
theorem dX3_mirror_48 : decode cX3_mirror 48 = .ok (.iaload, 1) := by decide +kernel
theorem dX3_mirror_49 : decode cX3_mirror 49 = .ok (.iastore, 1) := by decide +kernel
theorem dX3_mirror_50 : decode cX3_mirror 50 = .ok (.iinc 1 1, 3) := by decide +kernel
theorem dX3_mirror_53 : decode cX3_mirror 53 = .ok (.goto (-20), 3) := by decide +kernel
theorem dX3_mirror_56 : decode cX3_mirror 56 = .ok (.iconst 0, 1) := by decide +kernel
theorem dX3_mirror_57 : decode cX3_mirror 57 = .ok (.istore_n 1, 1) := by decide +kernel
theorem dX3_mirror_58 : decode cX3_mirror 58 = .ok (.iload_n 1, 1) := by decide +kernel
theorem dX3_mirror_59 : decode cX3_mirror 59 = .ok (.aload_n 0, 1) := by decide +kernel
theorem dX3_mirror_60 : decode cX3_mirror 60 = .ok (.getfield 32, 3) := by decide +kernel
theorem dX3_mirror_63 : decode cX3_mirror 63 = .ok (.if_icmp .ge 29, 3) := by decide +kernel
theorem dX3_mirror_66 : decode cX3_mirror 66 = .ok (.aload_n 0, 1) := by decide +kernel
theorem dX3_mirror_67 : decode cX3_mirror 67 = .ok (.getfield 7, 3) := by decide +kernel
theorem dX3_mirror_70 : decode cX3_mirror 70 = .ok (.iload_n 1, 1) := by decide +kernel
theorem dX3_mirror_71 : decode cX3_mirror 71 = .ok (.aload_n 0, 1) := by decide +kernel
theorem dX3_mirror_72 : decode cX3_mirror 72 = .ok (.getfield 19, 3) := by decide +kernel
theorem dX3_mirror_75 : decode cX3_mirror 75 = .ok (.aload_n 0, 1) := by decide +kernel
theorem dX3_mirror_76 : decode cX3_mirror 76 = .ok (.getfield 32, 3) := by decide +kernel
theorem dX3_mirror_79 : decode cX3_mirror 79 = .ok (.iconst 1, 1) := by decide +kernel
theorem dX3_mirror_80 : decode cX3_mirror 80 = .ok (.isub, 1) := by decide +kernel
theorem dX3_mirror_81 : decode cX3_mirror 81 = .ok (.iload_n 1, 1) := by decide +kernel
theorem dX3_mirror_82 : decode cX3_mirror 82 = .ok (.isub, 1) := by decide +kernel
theorem dX3_mirror_83 : decode cX3_mirror 83 = .ok (.iaload, 1) := by decide +kernel
theorem dX3_mirror_84 : decode cX3_mirror 84 = .ok (.ineg, 1) := by decide +kernel
theorem dX3_mirror_85 : decode cX3_mirror 85 = .ok (.iastore, 1) := by decide +kernel
theorem dX3_mirror_86 : decode cX3_mirror 86 = .ok (.iinc 1 1, 3) := by decide +kernel
theorem dX3_mirror_89 : decode cX3_mirror 89 = .ok (.goto (-31), 3) := by decide +kernel
theorem dX3_mirror_92 : decode cX3_mirror 92 = .ok (.iconst 0, 1) := by decide +kernel
theorem dX3_mirror_93 : decode cX3_mirror 93 = .ok (.istore_n 1, 1) := by decide +kernel
theorem dX3_mirror_94 : decode cX3_mirror 94 = .ok (.iload_n 1, 1) := by decide +kernel
theorem dX3_mirror_95 : decode cX3_mirror 95 = .ok (.aload_n 0, 1) := by decide +kernel
theorem dX3_mirror_96 : decode cX3_mirror 96 = .ok (.getfield 32, 3) := by decide +kernel
theorem dX3_mirror_99 : decode cX3_mirror 99 = .ok (.if_icmp .gt 49, 3) := by decide +kernel
theorem dX3_mirror_102 : decode cX3_mirror 102 = .ok (.iconst 0, 1) := by decide +kernel
theorem dX3_mirror_103 : decode cX3_mirror 103 = .ok (.istore_n 2, 1) := by decide +kernel
theorem dX3_mirror_104 : decode cX3_mirror 104 = .ok (.iload_n 2, 1) := by decide +kernel
theorem dX3_mirror_105 : decode cX3_mirror 105 = .ok (.bipush 8, 2) := by decide +kernel
theorem dX3_mirror_107 : decode cX3_mirror 107 = .ok (.if_icmp .ge 35, 3) := by decide +kernel
theorem dX3_mirror_110 : decode cX3_mirror 110 = .ok (.aload_n 0, 1) := by decide +kernel
theorem dX3_mirror_111 : decode cX3_mirror 111 = .ok (.getfield 13, 3) := by decide +kernel
theorem dX3_mirror_114 : decode cX3_mirror 114 = .ok (.bipush 8, 2) := by decide +kernel
theorem dX3_mirror_116 : decode cX3_mirror 116 = .ok (.iload_n 1, 1) := by decide +kernel
theorem dX3_mirror_117 : decode cX3_mirror 117 = .ok (.imul, 1) := by decide +kernel
theorem dX3_mirror_118 : decode cX3_mirror 118 = .ok (.iload_n 2, 1) := by decide +kernel
theorem dX3_mirror_119 : decode cX3_mirror 119 = .ok (.iadd, 1) := by decide +kernel
theorem dX3_mirror_120 : decode cX3_mirror 120 = .ok (.aload_n 0, 1) := by decide +kernel
theorem dX3_mirror_121 : decode cX3_mirror 121 = .ok (.aload_n 0, 1) := by decide +kernel
theorem dX3_mirror_122 : decode cX3_mirror 122 = .ok (.getfield 16, 3) := by decide +kernel
theorem dX3_mirror_125 : decode cX3_mirror 125 = .ok (.aload_n 0, 1) := by decide +kernel
theorem dX3_mirror_126 : decode cX3_mirror 126 = .ok (.getfield 32, 3) := by decide +kernel
theorem dX3_mirror_129 : decode cX3_mirror 129 = .ok (.iload_n 1, 1) := by decide +kernel
theorem dX3_mirror_130 : decode cX3_mirror 130 = .ok (.isub, 1) := by decide +kernel
theorem dX3_mirror_131 : decode cX3_mirror 131 = .ok (.iload_n 2, 1) := by decide +kernel
theorem dX3_mirror_132 : decode cX3_mirror 132 = .ok (.invokevirtual 39, 3) := by decide +kernel
theorem dX3_mirror_135 : decode cX3_mirror 135 = .ok (.iastore, 1) := by decide +kernel
theorem dX3_mirror_136 : decode cX3_mirror 136 = .ok (.iinc 2 1, 3) := by decide +kernel
theorem dX3_mirror_139 : decode cX3_mirror 139 = .ok (.goto (-35), 3) := by decide +kernel
theorem dX3_mirror_142 : decode cX3_mirror 142 = .ok (.iinc 1 1, 3) := by decide +kernel
theorem dX3_mirror_145 : decode cX3_mirror 145 = .ok (.goto (-51), 3) := by decide +kernel
theorem dX3_mirror_148 : decode cX3_mirror 148 = .ok (.return_, 1) := by decide +kernel
theorem dX3_cuts_0 : decode cX3_cuts 0 = .ok (.aload_n 0, 1) := by decide +kernel
theorem dX3_cuts_1 : decode cX3_cuts 1 = .ok (.iconst 0, 1) := by decide +kernel
theorem dX3_cuts_2 : decode cX3_cuts 2 = .ok (.putfield 28, 3) := by decide +kernel
theorem dX3_cuts_5 : decode cX3_cuts 5 = .ok (.aload_n 0, 1) := by decide +kernel
theorem dX3_cuts_6 : decode cX3_cuts 6 = .ok (.getfield 32, 3) := by decide +kernel
theorem dX3_cuts_9 : decode cX3_cuts 9 = .ok (.ireturn, 1) := by decide +kernel
theorem dX3_clear_0 : decode cX3_clear 0 = .ok (.aload_n 0, 1) := by decide +kernel
theorem dX3_clear_1 : decode cX3_clear 1 = .ok (.iconst 0, 1) := by decide +kernel
theorem dX3_clear_2 : decode cX3_clear 2 = .ok (.putfield 28, 3) := by decide +kernel
theorem dX3_clear_5 : decode cX3_clear 5 = .ok (.aload_n 0, 1) := by decide +kernel
theorem dX3_clear_6 : decode cX3_clear 6 = .ok (.iconst 0, 1) := by decide +kernel
theorem dX3_clear_7 : decode cX3_clear 7 = .ok (.putfield 32, 3) := by decide +kernel
theorem dX3_clear_10 : decode cX3_clear 10 = .ok (.aload_n 0, 1) := by decide +kernel
theorem dX3_clear_11 : decode cX3_clear 11 = .ok (.iconst 0, 1) := by decide +kernel
theorem dX3_clear_12 : decode cX3_clear 12 = .ok (.putfield 43, 3) := by decide +kernel
theorem dX3_clear_15 : decode cX3_clear 15 = .ok (.iconst 0, 1) := by decide +kernel
theorem dX3_clear_16 : decode cX3_clear 16 = .ok (.istore_n 1, 1) := by decide +kernel
theorem dX3_clear_17 : decode cX3_clear 17 = .ok (.iload_n 1, 1) := by decide +kernel
theorem dX3_clear_18 : decode cX3_clear 18 = .ok (.bipush 32, 2) := by decide +kernel
theorem dX3_clear_20 : decode cX3_clear 20 = .ok (.if_icmp .ge 16, 3) := by decide +kernel
theorem dX3_clear_23 : decode cX3_clear 23 = .ok (.aload_n 0, 1) := by decide +kernel
theorem dX3_clear_24 : decode cX3_clear 24 = .ok (.getfield 13, 3) := by decide +kernel
theorem dX3_clear_27 : decode cX3_clear 27 = .ok (.iload_n 1, 1) := by decide +kernel
theorem dX3_clear_28 : decode cX3_clear 28 = .ok (.iconst 0, 1) := by decide +kernel
theorem dX3_clear_29 : decode cX3_clear 29 = .ok (.iastore, 1) := by decide +kernel
theorem dX3_clear_30 : decode cX3_clear 30 = .ok (.iinc 1 1, 3) := by decide +kernel
theorem dX3_clear_33 : decode cX3_clear 33 = .ok (.goto (-16), 3) := by decide +kernel
theorem dX3_clear_36 : decode cX3_clear 36 = .ok (.return_, 1) := by decide +kernel
theorem dX3_start_0 : decode cX3_start 0 = .ok (.aload_n 0, 1) := by decide +kernel
theorem dX3_start_1 : decode cX3_start 1 = .ok (.lconst 0, 1) := by decide +kernel
theorem dX3_start_2 : decode cX3_start 2 = .ok (.putfield 47, 3) := by decide +kernel
theorem dX3_start_5 : decode cX3_start 5 = .ok (.aload_n 0, 1) := by decide +kernel
theorem dX3_start_6 : decode cX3_start 6 = .ok (.lconst 1, 1) := by decide +kernel
theorem dX3_start_7 : decode cX3_start 7 = .ok (.putfield 51, 3) := by decide +kernel
theorem dX3_start_10 : decode cX3_start 10 = .ok (.iconst 0, 1) := by decide +kernel
theorem dX3_start_11 : decode cX3_start 11 = .ok (.istore_n 1, 1) := by decide +kernel
theorem dX3_start_12 : decode cX3_start 12 = .ok (.iload_n 1, 1) := by decide +kernel
theorem dX3_start_13 : decode cX3_start 13 = .ok (.iconst 5, 1) := by decide +kernel
theorem dX3_start_14 : decode cX3_start 14 = .ok (.if_icmp .ge 16, 3) := by decide +kernel
theorem dX3_start_17 : decode cX3_start 17 = .ok (.aload_n 0, 1) := by decide +kernel
theorem dX3_start_18 : decode cX3_start 18 = .ok (.getfield 25, 3) := by decide +kernel
theorem dX3_start_21 : decode cX3_start 21 = .ok (.iload_n 1, 1) := by decide +kernel
theorem dX3_start_22 : decode cX3_start 22 = .ok (.iconst 0, 1) := by decide +kernel
theorem dX3_start_23 : decode cX3_start 23 = .ok (.iastore, 1) := by decide +kernel
theorem dX3_start_24 : decode cX3_start 24 = .ok (.iinc 1 1, 3) := by decide +kernel
theorem dX3_start_27 : decode cX3_start 27 = .ok (.goto (-15), 3) := by decide +kernel
theorem dX3_start_30 : decode cX3_start 30 = .ok (.return_, 1) := by decide +kernel
theorem dX3_more_0 : decode cX3_more 0 = .ok (.aload_n 0, 1) := by decide +kernel
theorem dX3_more_1 : decode cX3_more 1 = .ok (.getfield 47, 3) := by decide +kernel
theorem dX3_more_4 : decode cX3_more 4 = .ok (.lload_n 3, 1) := by decide +kernel
theorem dX3_more_5 : decode cX3_more 5 = .ok (.lmul, 1) := by decide +kernel
theorem dX3_more_6 : decode cX3_more 6 = .ok (.lload_n 1, 1) := by decide +kernel
theorem dX3_more_7 : decode cX3_more 7 = .ok (.aload_n 0, 1) := by decide +kernel
theorem dX3_more_8 : decode cX3_more 8 = .ok (.getfield 51, 3) := by decide +kernel
theorem dX3_more_11 : decode cX3_more 11 = .ok (.lmul, 1) := by decide +kernel
theorem dX3_more_12 : decode cX3_more 12 = .ok (.ladd, 1) := by decide +kernel
theorem dX3_more_13 : decode cX3_more 13 = .ok (.lstore 5, 2) := by decide +kernel
theorem dX3_more_15 : decode cX3_more 15 = .ok (.aload_n 0, 1) := by decide +kernel
theorem dX3_more_16 : decode cX3_more 16 = .ok (.getfield 51, 3) := by decide +kernel
theorem dX3_more_19 : decode cX3_more 19 = .ok (.lload_n 3, 1) := by decide +kernel
theorem dX3_more_20 : decode cX3_more 20 = .ok (.lmul, 1) := by decide +kernel
theorem dX3_more_21 : decode cX3_more 21 = .ok (.lstore 7, 2) := by decide +kernel
theorem dX3_more_23 : decode cX3_more 23 = .ok (.lload 5, 2) := by decide +kernel
theorem dX3_more_25 : decode cX3_more 25 = .ok (.lconst 0, 1) := by decide +kernel
theorem dX3_more_26 : decode cX3_more 26 = .ok (.lcmp, 1) := by decide +kernel
theorem dX3_more_27 : decode cX3_more 27 = .ok (.ifCond .ge 9, 3) := by decide +kernel
theorem dX3_more_30 : decode cX3_more 30 = .ok (.lload 5, 2) := by decide +kernel
theorem dX3_more_32 : decode cX3_more 32 = .ok (.lneg, 1) := by decide +kernel
theorem dX3_more_33 : decode cX3_more 33 = .ok (.goto 5, 3) := by decide +kernel
theorem dX3_more_36 : decode cX3_more 36 = .ok (.lload 5, 2) := by decide +kernel
theorem dX3_more_38 : decode cX3_more 38 = .ok (.lstore 9, 2) := by decide +kernel
theorem dX3_more_40 : decode cX3_more 40 = .ok (.lload 7, 2) := by decide +kernel
theorem dX3_more_42 : decode cX3_more 42 = .ok (.lconst 0, 1) := by decide +kernel
theorem dX3_more_43 : decode cX3_more 43 = .ok (.lcmp, 1) := by decide +kernel
theorem dX3_more_44 : decode cX3_more 44 = .ok (.ifCond .ge 9, 3) := by decide +kernel
theorem dX3_more_47 : decode cX3_more 47 = .ok (.lload 7, 2) := by decide +kernel
theorem dX3_more_49 : decode cX3_more 49 = .ok (.lneg, 1) := by decide +kernel
theorem dX3_more_50 : decode cX3_more 50 = .ok (.goto 5, 3) := by decide +kernel
theorem dX3_more_53 : decode cX3_more 53 = .ok (.lload 7, 2) := by decide +kernel
theorem dX3_more_55 : decode cX3_more 55 = .ok (.lstore 11, 2) := by decide +kernel
theorem dX3_more_57 : decode cX3_more 57 = .ok (.lload 11, 2) := by decide +kernel
theorem dX3_more_59 : decode cX3_more 59 = .ok (.lconst 0, 1) := by decide +kernel
theorem dX3_more_60 : decode cX3_more 60 = .ok (.lcmp, 1) := by decide +kernel
theorem dX3_more_61 : decode cX3_more 61 = .ok (.ifCond .eq 21, 3) := by decide +kernel
theorem dX3_more_64 : decode cX3_more 64 = .ok (.lload 9, 2) := by decide +kernel
theorem dX3_more_66 : decode cX3_more 66 = .ok (.lload 11, 2) := by decide +kernel
theorem dX3_more_68 : decode cX3_more 68 = .ok (.lrem, 1) := by decide +kernel
theorem dX3_more_69 : decode cX3_more 69 = .ok (.lstore 13, 2) := by decide +kernel
theorem dX3_more_71 : decode cX3_more 71 = .ok (.lload 11, 2) := by decide +kernel
theorem dX3_more_73 : decode cX3_more 73 = .ok (.lstore 9, 2) := by decide +kernel
theorem dX3_more_75 : decode cX3_more 75 = .ok (.lload 13, 2) := by decide +kernel
theorem dX3_more_77 : decode cX3_more 77 = .ok (.lstore 11, 2) := by decide +kernel
theorem dX3_more_79 : decode cX3_more 79 = .ok (.goto (-22), 3) := by decide +kernel
theorem dX3_more_82 : decode cX3_more 82 = .ok (.aload_n 0, 1) := by decide +kernel
theorem dX3_more_83 : decode cX3_more 83 = .ok (.lload 7, 2) := by decide +kernel
theorem dX3_more_85 : decode cX3_more 85 = .ok (.lconst 0, 1) := by decide +kernel
theorem dX3_more_86 : decode cX3_more 86 = .ok (.lcmp, 1) := by decide +kernel
theorem dX3_more_87 : decode cX3_more 87 = .ok (.ifCond .ge 12, 3) := by decide +kernel
theorem dX3_more_90 : decode cX3_more 90 = .ok (.lload 5, 2) := by decide +kernel
theorem dX3_more_92 : decode cX3_more 92 = .ok (.lload 9, 2) := by decide +kernel
theorem dX3_more_94 : decode cX3_more 94 = .ok (.ldiv, 1) := by decide +kernel
theorem dX3_more_95 : decode cX3_more 95 = .ok (.lneg, 1) := by decide +kernel
theorem dX3_more_96 : decode cX3_more 96 = .ok (.goto 8, 3) := by decide +kernel
theorem dX3_more_99 : decode cX3_more 99 = .ok (.lload 5, 2) := by decide +kernel
theorem dX3_more_101 : decode cX3_more 101 = .ok (.lload 9, 2) := by decide +kernel
theorem dX3_more_103 : decode cX3_more 103 = .ok (.ldiv, 1) := by decide +kernel
theorem dX3_more_104 : decode cX3_more 104 = .ok (.putfield 47, 3) := by decide +kernel
theorem dX3_more_107 : decode cX3_more 107 = .ok (.aload_n 0, 1) := by decide +kernel
theorem dX3_more_108 : decode cX3_more 108 = .ok (.lload 7, 2) := by decide +kernel
theorem dX3_more_110 : decode cX3_more 110 = .ok (.lconst 0, 1) := by decide +kernel
theorem dX3_more_111 : decode cX3_more 111 = .ok (.lcmp, 1) := by decide +kernel
theorem dX3_more_112 : decode cX3_more 112 = .ok (.ifCond .ge 12, 3) := by decide +kernel
theorem dX3_more_115 : decode cX3_more 115 = .ok (.lload 7, 2) := by decide +kernel
theorem dX3_more_117 : decode cX3_more 117 = .ok (.lload 9, 2) := by decide +kernel
theorem dX3_more_119 : decode cX3_more 119 = .ok (.ldiv, 1) := by decide +kernel
theorem dX3_more_120 : decode cX3_more 120 = .ok (.lneg, 1) := by decide +kernel
theorem dX3_more_121 : decode cX3_more 121 = .ok (.goto 8, 3) := by decide +kernel
theorem dX3_more_124 : decode cX3_more 124 = .ok (.lload 7, 2) := by decide +kernel
theorem dX3_more_126 : decode cX3_more 126 = .ok (.lload 9, 2) := by decide +kernel
theorem dX3_more_128 : decode cX3_more 128 = .ok (.ldiv, 1) := by decide +kernel
theorem dX3_more_129 : decode cX3_more 129 = .ok (.putfield 51, 3) := by decide +kernel
theorem dX3_more_132 : decode cX3_more 132 = .ok (.return_, 1) := by decide +kernel
theorem dX3_primeOf_0 : decode cX3_primeOf 0 = .ok (.iload_n 0, 1) := by decide +kernel
theorem dX3_primeOf_1 : decode cX3_primeOf 1 = .ok (.ifCond .ne 7, 3) := by decide +kernel
theorem dX3_primeOf_4 : decode cX3_primeOf 4 = .ok (.iconst 2, 1) := by decide +kernel
theorem dX3_primeOf_5 : decode cX3_primeOf 5 = .ok (.goto 33, 3) := by decide +kernel
theorem dX3_primeOf_8 : decode cX3_primeOf 8 = .ok (.iload_n 0, 1) := by decide +kernel
theorem dX3_primeOf_9 : decode cX3_primeOf 9 = .ok (.iconst 1, 1) := by decide +kernel
theorem dX3_primeOf_10 : decode cX3_primeOf 10 = .ok (.if_icmp .ne 7, 3) := by decide +kernel
theorem dX3_primeOf_13 : decode cX3_primeOf 13 = .ok (.iconst 3, 1) := by decide +kernel
theorem dX3_primeOf_14 : decode cX3_primeOf 14 = .ok (.goto 24, 3) := by decide +kernel
theorem dX3_primeOf_17 : decode cX3_primeOf 17 = .ok (.iload_n 0, 1) := by decide +kernel
theorem dX3_primeOf_18 : decode cX3_primeOf 18 = .ok (.iconst 2, 1) := by decide +kernel
theorem dX3_primeOf_19 : decode cX3_primeOf 19 = .ok (.if_icmp .ne 7, 3) := by decide +kernel
theorem dX3_primeOf_22 : decode cX3_primeOf 22 = .ok (.iconst 5, 1) := by decide +kernel
theorem dX3_primeOf_23 : decode cX3_primeOf 23 = .ok (.goto 15, 3) := by decide +kernel
theorem dX3_primeOf_26 : decode cX3_primeOf 26 = .ok (.iload_n 0, 1) := by decide +kernel
theorem dX3_primeOf_27 : decode cX3_primeOf 27 = .ok (.iconst 3, 1) := by decide +kernel
theorem dX3_primeOf_28 : decode cX3_primeOf 28 = .ok (.if_icmp .ne 8, 3) := by decide +kernel
theorem dX3_primeOf_31 : decode cX3_primeOf 31 = .ok (.bipush 7, 2) := by decide +kernel
theorem dX3_primeOf_33 : decode cX3_primeOf 33 = .ok (.goto 5, 3) := by decide +kernel
theorem dX3_primeOf_36 : decode cX3_primeOf 36 = .ok (.bipush 11, 2) := by decide +kernel
theorem dX3_primeOf_38 : decode cX3_primeOf 38 = .ok (.ireturn, 1) := by decide +kernel
theorem dX3_putLogs_0 : decode cX3_putLogs 0 = .ok (.iload_n 1, 1) := by decide +kernel
theorem dX3_putLogs_1 : decode cX3_putLogs 1 = .ok (.ifCond .ge 8, 3) := by decide +kernel
theorem dX3_putLogs_4 : decode cX3_putLogs 4 = .ok (.iload_n 1, 1) := by decide +kernel
theorem dX3_putLogs_5 : decode cX3_putLogs 5 = .ok (.ineg, 1) := by decide +kernel
theorem dX3_putLogs_6 : decode cX3_putLogs 6 = .ok (.goto 4, 3) := by decide +kernel
theorem dX3_putLogs_9 : decode cX3_putLogs 9 = .ok (.iload_n 1, 1) := by decide +kernel
theorem dX3_putLogs_10 : decode cX3_putLogs 10 = .ok (.istore_n 3, 1) := by decide +kernel
theorem dX3_putLogs_11 : decode cX3_putLogs 11 = .ok (.iconst 0, 1) := by decide +kernel
theorem dX3_putLogs_12 : decode cX3_putLogs 12 = .ok (.istore 4, 2) := by decide +kernel
theorem dX3_putLogs_14 : decode cX3_putLogs 14 = .ok (.iload 4, 2) := by decide +kernel
theorem dX3_putLogs_16 : decode cX3_putLogs 16 = .ok (.iconst 5, 1) := by decide +kernel
theorem dX3_putLogs_17 : decode cX3_putLogs 17 = .ok (.if_icmp .ge 41, 3) := by decide +kernel
theorem dX3_putLogs_20 : decode cX3_putLogs 20 = .ok (.iload_n 3, 1) := by decide +kernel
theorem dX3_putLogs_21 : decode cX3_putLogs 21 = .ok (.iload 4, 2) := by decide +kernel
theorem dX3_putLogs_23 : decode cX3_putLogs 23 = .ok (.invokestatic 54, 3) := by decide +kernel
theorem dX3_putLogs_26 : decode cX3_putLogs 26 = .ok (.irem, 1) := by decide +kernel
theorem dX3_putLogs_27 : decode cX3_putLogs 27 = .ok (.ifCond .ne 25, 3) := by decide +kernel
theorem dX3_putLogs_30 : decode cX3_putLogs 30 = .ok (.iload_n 3, 1) := by decide +kernel
theorem dX3_putLogs_31 : decode cX3_putLogs 31 = .ok (.iload 4, 2) := by decide +kernel
theorem dX3_putLogs_33 : decode cX3_putLogs 33 = .ok (.invokestatic 54, 3) := by decide +kernel
theorem dX3_putLogs_36 : decode cX3_putLogs 36 = .ok (.idiv, 1) := by decide +kernel
theorem dX3_putLogs_37 : decode cX3_putLogs 37 = .ok (.istore_n 3, 1) := by decide +kernel
theorem dX3_putLogs_38 : decode cX3_putLogs 38 = .ok (.aload_n 0, 1) := by decide +kernel
theorem dX3_putLogs_39 : decode cX3_putLogs 39 = .ok (.getfield 25, 3) := by decide +kernel
theorem dX3_putLogs_42 : decode cX3_putLogs 42 = .ok (.iload 4, 2) := by decide +kernel
theorem dX3_putLogs_44 : decode cX3_putLogs 44 = .ok (.dup2, 1) := by decide +kernel
theorem dX3_putLogs_45 : decode cX3_putLogs 45 = .ok (.iaload, 1) := by decide +kernel
theorem dX3_putLogs_46 : decode cX3_putLogs 46 = .ok (.iload_n 2, 1) := by decide +kernel
theorem dX3_putLogs_47 : decode cX3_putLogs 47 = .ok (.iadd, 1) := by decide +kernel
theorem dX3_putLogs_48 : decode cX3_putLogs 48 = .ok (.iastore, 1) := by decide +kernel
theorem dX3_putLogs_49 : decode cX3_putLogs 49 = .ok (.goto (-29), 3) := by decide +kernel
theorem dX3_putLogs_52 : decode cX3_putLogs 52 = .ok (.iinc 4 1, 3) := by decide +kernel
theorem dX3_putLogs_55 : decode cX3_putLogs 55 = .ok (.goto (-41), 3) := by decide +kernel
theorem dX3_putLogs_58 : decode cX3_putLogs 58 = .ok (.return_, 1) := by decide +kernel
theorem dX3_hasPole_0 : decode cX3_hasPole 0 = .ok (.aload_n 0, 1) := by decide +kernel
theorem dX3_hasPole_1 : decode cX3_hasPole 1 = .ok (.getfield 13, 3) := by decide +kernel
theorem dX3_hasPole_4 : decode cX3_hasPole 4 = .ok (.bipush 8, 2) := by decide +kernel
theorem dX3_hasPole_6 : decode cX3_hasPole 6 = .ok (.iload_n 1, 1) := by decide +kernel
theorem dX3_hasPole_7 : decode cX3_hasPole 7 = .ok (.imul, 1) := by decide +kernel
theorem dX3_hasPole_8 : decode cX3_hasPole 8 = .ok (.iconst 4, 1) := by decide +kernel
theorem dX3_hasPole_9 : decode cX3_hasPole 9 = .ok (.iadd, 1) := by decide +kernel
theorem dX3_hasPole_10 : decode cX3_hasPole 10 = .ok (.iaload, 1) := by decide +kernel
theorem dX3_hasPole_11 : decode cX3_hasPole 11 = .ok (.ifCond .ne 32, 3) := by decide +kernel
theorem dX3_hasPole_14 : decode cX3_hasPole 14 = .ok (.aload_n 0, 1) := by decide +kernel
theorem dX3_hasPole_15 : decode cX3_hasPole 15 = .ok (.getfield 13, 3) := by decide +kernel
theorem dX3_hasPole_18 : decode cX3_hasPole 18 = .ok (.bipush 8, 2) := by decide +kernel
theorem dX3_hasPole_20 : decode cX3_hasPole 20 = .ok (.iload_n 1, 1) := by decide +kernel
theorem dX3_hasPole_21 : decode cX3_hasPole 21 = .ok (.imul, 1) := by decide +kernel
theorem dX3_hasPole_22 : decode cX3_hasPole 22 = .ok (.iconst 5, 1) := by decide +kernel
theorem dX3_hasPole_23 : decode cX3_hasPole 23 = .ok (.iadd, 1) := by decide +kernel
theorem dX3_hasPole_24 : decode cX3_hasPole 24 = .ok (.iaload, 1) := by decide +kernel
theorem dX3_hasPole_25 : decode cX3_hasPole 25 = .ok (.ifCond .ne 18, 3) := by decide +kernel
theorem dX3_hasPole_28 : decode cX3_hasPole 28 = .ok (.aload_n 0, 1) := by decide +kernel
theorem dX3_hasPole_29 : decode cX3_hasPole 29 = .ok (.getfield 13, 3) := by decide +kernel
theorem dX3_hasPole_32 : decode cX3_hasPole 32 = .ok (.bipush 8, 2) := by decide +kernel
theorem dX3_hasPole_34 : decode cX3_hasPole 34 = .ok (.iload_n 1, 1) := by decide +kernel
theorem dX3_hasPole_35 : decode cX3_hasPole 35 = .ok (.imul, 1) := by decide +kernel
theorem dX3_hasPole_36 : decode cX3_hasPole 36 = .ok (.bipush 6, 2) := by decide +kernel
theorem dX3_hasPole_38 : decode cX3_hasPole 38 = .ok (.iadd, 1) := by decide +kernel
theorem dX3_hasPole_39 : decode cX3_hasPole 39 = .ok (.iaload, 1) := by decide +kernel
theorem dX3_hasPole_40 : decode cX3_hasPole 40 = .ok (.ifCond .eq 7, 3) := by decide +kernel
theorem dX3_hasPole_43 : decode cX3_hasPole 43 = .ok (.iconst 1, 1) := by decide +kernel
theorem dX3_hasPole_44 : decode cX3_hasPole 44 = .ok (.goto 4, 3) := by decide +kernel
theorem dX3_hasPole_47 : decode cX3_hasPole 47 = .ok (.iconst 0, 1) := by decide +kernel
theorem dX3_hasPole_48 : decode cX3_hasPole 48 = .ok (.ireturn, 1) := by decide +kernel
theorem dX3_value_0 : decode cX3_value 0 = .ok (.aload_n 0, 1) := by decide +kernel
theorem dX3_value_1 : decode cX3_value 1 = .ok (.iload_n 1, 1) := by decide +kernel
theorem dX3_value_2 : decode cX3_value 2 = .ok (.bipush (-6), 2) := by decide +kernel
theorem dX3_value_4 : decode cX3_value 4 = .ok (.bipush 6, 2) := by decide +kernel
theorem dX3_value_6 : decode cX3_value 6 = .ok (.invokestatic 35, 3) := by decide +kernel
theorem dX3_value_9 : decode cX3_value 9 = .ok (.ifCond .eq 12, 3) := by decide +kernel
theorem dX3_value_12 : decode cX3_value 12 = .ok (.iload_n 2, 1) := by decide +kernel
theorem dX3_value_13 : decode cX3_value 13 = .ok (.iconst 0, 1) := by decide +kernel
theorem dX3_value_14 : decode cX3_value 14 = .ok (.iconst 1, 1) := by decide +kernel
theorem dX3_value_15 : decode cX3_value 15 = .ok (.invokestatic 35, 3) := by decide +kernel
theorem dX3_value_18 : decode cX3_value 18 = .ok (.ifCond .ne 7, 3) := by decide +kernel
theorem dX3_value_21 : decode cX3_value 21 = .ok (.iconst 1, 1) := by decide +kernel
theorem dX3_value_22 : decode cX3_value 22 = .ok (.goto 4, 3) := by decide +kernel
theorem dX3_value_25 : decode cX3_value 25 = .ok (.iconst 0, 1) := by decide +kernel
theorem dX3_value_26 : decode cX3_value 26 = .ok (.putfield 28, 3) := by decide +kernel
theorem dX3_value_29 : decode cX3_value 29 = .ok (.aload_n 0, 1) := by decide +kernel
theorem dX3_value_30 : decode cX3_value 30 = .ok (.getfield 28, 3) := by decide +kernel
theorem dX3_value_33 : decode cX3_value 33 = .ok (.ifCond .le 5, 3) := by decide +kernel
theorem dX3_value_36 : decode cX3_value 36 = .ok (.lconst 0, 1) := by decide +kernel
theorem dX3_value_37 : decode cX3_value 37 = .ok (.lreturn, 1) := by decide +kernel
theorem dX3_value_38 : decode cX3_value 38 = .ok (.iconst 0, 1) := by decide +kernel
theorem dX3_value_39 : decode cX3_value 39 = .ok (.istore_n 3, 1) := by decide +kernel
theorem dX3_value_40 : decode cX3_value 40 = .ok (.iload_n 3, 1) := by decide +kernel
theorem dX3_value_41 : decode cX3_value 41 = .ok (.aload_n 0, 1) := by decide +kernel
theorem dX3_value_42 : decode cX3_value 42 = .ok (.getfield 32, 3) := by decide +kernel
theorem dX3_value_45 : decode cX3_value 45 = .ok (.if_icmp .ge 19, 3) := by decide +kernel
theorem dX3_value_48 : decode cX3_value 48 = .ok (.aload_n 0, 1) := by decide +kernel
theorem dX3_value_49 : decode cX3_value 49 = .ok (.getfield 7, 3) := by decide +kernel
theorem dX3_value_52 : decode cX3_value 52 = .ok (.iload_n 3, 1) := by decide +kernel
theorem dX3_value_53 : decode cX3_value 53 = .ok (.iaload, 1) := by decide +kernel
theorem dX3_value_54 : decode cX3_value 54 = .ok (.iload_n 1, 1) := by decide +kernel
theorem dX3_value_55 : decode cX3_value 55 = .ok (.if_icmp .gt 9, 3) := by decide +kernel
theorem dX3_value_58 : decode cX3_value 58 = .ok (.iinc 3 1, 3) := by decide +kernel
theorem dX3_value_61 : decode cX3_value 61 = .ok (.goto (-21), 3) := by decide +kernel
theorem dX3_value_64 : decode cX3_value 64 = .ok (.bipush 8, 2) := by decide +kernel
theorem dX3_value_66 : decode cX3_value 66 = .ok (.iload_n 3, 1) := by decide +kernel
theorem dX3_value_67 : decode cX3_value 67 = .ok (.imul, 1) := by decide +kernel
theorem dX3_value_68 : decode cX3_value 68 = .ok (.istore 4, 2) := by decide +kernel
theorem dX3_value_70 : decode cX3_value 70 = .ok (.iload_n 1, 1) := by decide +kernel
theorem dX3_value_71 : decode cX3_value 71 = .ok (.aload_n 0, 1) := by decide +kernel
theorem dX3_value_72 : decode cX3_value 72 = .ok (.getfield 13, 3) := by decide +kernel
theorem dX3_value_75 : decode cX3_value 75 = .ok (.iload 4, 2) := by decide +kernel
theorem dX3_value_77 : decode cX3_value 77 = .ok (.bipush 7, 2) := by decide +kernel
theorem dX3_value_79 : decode cX3_value 79 = .ok (.iadd, 1) := by decide +kernel
theorem dX3_value_80 : decode cX3_value 80 = .ok (.iaload, 1) := by decide +kernel
theorem dX3_value_81 : decode cX3_value 81 = .ok (.isub, 1) := by decide +kernel
theorem dX3_value_82 : decode cX3_value 82 = .ok (.i2l, 1) := by decide +kernel
theorem dX3_value_83 : decode cX3_value 83 = .ok (.lstore 5, 2) := by decide +kernel
theorem dX3_value_85 : decode cX3_value 85 = .ok (.aload_n 0, 1) := by decide +kernel
theorem dX3_value_86 : decode cX3_value 86 = .ok (.iload_n 3, 1) := by decide +kernel
theorem dX3_value_87 : decode cX3_value 87 = .ok (.invokevirtual 58, 3) := by decide +kernel
theorem dX3_value_90 : decode cX3_value 90 = .ok (.ifCond .eq 17, 3) := by decide +kernel
theorem dX3_value_93 : decode cX3_value 93 = .ok (.lload 5, 2) := by decide +kernel
theorem dX3_value_95 : decode cX3_value 95 = .ok (.lconst 0, 1) := by decide +kernel
theorem dX3_value_96 : decode cX3_value 96 = .ok (.lcmp, 1) := by decide +kernel
theorem dX3_value_97 : decode cX3_value 97 = .ok (.ifCond .ne 10, 3) := by decide +kernel
theorem dX3_value_100 : decode cX3_value 100 = .ok (.aload_n 0, 1) := by decide +kernel
theorem dX3_value_101 : decode cX3_value 101 = .ok (.iconst 2, 1) := by decide +kernel
theorem dX3_value_102 : decode cX3_value 102 = .ok (.invokevirtual 62, 3) := by decide +kernel
theorem dX3_value_105 : decode cX3_value 105 = .ok (.i2l, 1) := by decide +kernel
theorem dX3_value_106 : decode cX3_value 106 = .ok (.lreturn, 1) := by decide +kernel
theorem dX3_value_107 : decode cX3_value 107 = .ok (.aload_n 0, 1) := by decide +kernel
theorem dX3_value_108 : decode cX3_value 108 = .ok (.invokevirtual 65, 3) := by decide +kernel
theorem dX3_value_111 : decode cX3_value 111 = .ok (.aload_n 0, 1) := by decide +kernel
theorem dX3_value_112 : decode cX3_value 112 = .ok (.aload_n 0, 1) := by decide +kernel
theorem dX3_value_113 : decode cX3_value 113 = .ok (.getfield 13, 3) := by decide +kernel
theorem dX3_value_116 : decode cX3_value 116 = .ok (.iload 4, 2) := by decide +kernel
theorem dX3_value_118 : decode cX3_value 118 = .ok (.iaload, 1) := by decide +kernel
theorem dX3_value_119 : decode cX3_value 119 = .ok (.i2l, 1) := by decide +kernel
theorem dX3_value_120 : decode cX3_value 120 = .ok (.iload_n 1, 1) := by decide +kernel
theorem dX3_value_121 : decode cX3_value 121 = .ok (.i2l, 1) := by decide +kernel
theorem dX3_value_122 : decode cX3_value 122 = .ok (.aload_n 0, 1) := by decide +kernel
theorem dX3_value_123 : decode cX3_value 123 = .ok (.getfield 13, 3) := by decide +kernel
theorem dX3_value_126 : decode cX3_value 126 = .ok (.iload 4, 2) := by decide +kernel
theorem dX3_value_128 : decode cX3_value 128 = .ok (.iconst 1, 1) := by decide +kernel
theorem dX3_value_129 : decode cX3_value 129 = .ok (.iadd, 1) := by decide +kernel
theorem dX3_value_130 : decode cX3_value 130 = .ok (.iaload, 1) := by decide +kernel
theorem dX3_value_131 : decode cX3_value 131 = .ok (.i2l, 1) := by decide +kernel
theorem dX3_value_132 : decode cX3_value 132 = .ok (.iload_n 1, 1) := by decide +kernel
theorem dX3_value_133 : decode cX3_value 133 = .ok (.i2l, 1) := by decide +kernel
theorem dX3_value_134 : decode cX3_value 134 = .ok (.aload_n 0, 1) := by decide +kernel
theorem dX3_value_135 : decode cX3_value 135 = .ok (.getfield 13, 3) := by decide +kernel
theorem dX3_value_138 : decode cX3_value 138 = .ok (.iload 4, 2) := by decide +kernel
theorem dX3_value_140 : decode cX3_value 140 = .ok (.iconst 2, 1) := by decide +kernel
theorem dX3_value_141 : decode cX3_value 141 = .ok (.iadd, 1) := by decide +kernel
theorem dX3_value_142 : decode cX3_value 142 = .ok (.iaload, 1) := by decide +kernel
theorem dX3_value_143 : decode cX3_value 143 = .ok (.i2l, 1) := by decide +kernel
theorem dX3_value_144 : decode cX3_value 144 = .ok (.iload_n 1, 1) := by decide +kernel
theorem dX3_value_145 : decode cX3_value 145 = .ok (.i2l, 1) := by decide +kernel
theorem dX3_value_146 : decode cX3_value 146 = .ok (.aload_n 0, 1) := by decide +kernel
theorem dX3_value_147 : decode cX3_value 147 = .ok (.getfield 13, 3) := by decide +kernel
theorem dX3_value_150 : decode cX3_value 150 = .ok (.iload 4, 2) := by decide +kernel
theorem dX3_value_152 : decode cX3_value 152 = .ok (.iconst 3, 1) := by decide +kernel
theorem dX3_value_153 : decode cX3_value 153 = .ok (.iadd, 1) := by decide +kernel
theorem dX3_value_154 : decode cX3_value 154 = .ok (.iaload, 1) := by decide +kernel
theorem dX3_value_155 : decode cX3_value 155 = .ok (.i2l, 1) := by decide +kernel
theorem dX3_value_156 : decode cX3_value 156 = .ok (.lmul, 1) := by decide +kernel
theorem dX3_value_157 : decode cX3_value 157 = .ok (.ladd, 1) := by decide +kernel
theorem dX3_value_158 : decode cX3_value 158 = .ok (.lmul, 1) := by decide +kernel
theorem dX3_value_159 : decode cX3_value 159 = .ok (.ladd, 1) := by decide +kernel
theorem dX3_value_160 : decode cX3_value 160 = .ok (.lmul, 1) := by decide +kernel
theorem dX3_value_161 : decode cX3_value 161 = .ok (.ladd, 1) := by decide +kernel
theorem dX3_value_162 : decode cX3_value 162 = .ok (.lconst 1, 1) := by decide +kernel
theorem dX3_value_163 : decode cX3_value 163 = .ok (.invokevirtual 68, 3) := by decide +kernel
theorem dX3_value_166 : decode cX3_value 166 = .ok (.aload_n 0, 1) := by decide +kernel
theorem dX3_value_167 : decode cX3_value 167 = .ok (.iload_n 3, 1) := by decide +kernel
theorem dX3_value_168 : decode cX3_value 168 = .ok (.invokevirtual 58, 3) := by decide +kernel
theorem dX3_value_171 : decode cX3_value 171 = .ok (.ifCond .eq 54, 3) := by decide +kernel
theorem dX3_value_174 : decode cX3_value 174 = .ok (.aload_n 0, 1) := by decide +kernel
theorem dX3_value_175 : decode cX3_value 175 = .ok (.aload_n 0, 1) := by decide +kernel
theorem dX3_value_176 : decode cX3_value 176 = .ok (.getfield 13, 3) := by decide +kernel
theorem dX3_value_179 : decode cX3_value 179 = .ok (.iload 4, 2) := by decide +kernel
theorem dX3_value_181 : decode cX3_value 181 = .ok (.iconst 4, 1) := by decide +kernel
theorem dX3_value_182 : decode cX3_value 182 = .ok (.iadd, 1) := by decide +kernel
theorem dX3_value_183 : decode cX3_value 183 = .ok (.iaload, 1) := by decide +kernel
theorem dX3_value_184 : decode cX3_value 184 = .ok (.i2l, 1) := by decide +kernel
theorem dX3_value_185 : decode cX3_value 185 = .ok (.lload 5, 2) := by decide +kernel
theorem dX3_value_187 : decode cX3_value 187 = .ok (.lmul, 1) := by decide +kernel
theorem dX3_value_188 : decode cX3_value 188 = .ok (.aload_n 0, 1) := by decide +kernel
theorem dX3_value_189 : decode cX3_value 189 = .ok (.getfield 13, 3) := by decide +kernel
theorem dX3_value_192 : decode cX3_value 192 = .ok (.iload 4, 2) := by decide +kernel
theorem dX3_value_194 : decode cX3_value 194 = .ok (.iconst 5, 1) := by decide +kernel
theorem dX3_value_195 : decode cX3_value 195 = .ok (.iadd, 1) := by decide +kernel
theorem dX3_value_196 : decode cX3_value 196 = .ok (.iaload, 1) := by decide +kernel
theorem dX3_value_197 : decode cX3_value 197 = .ok (.i2l, 1) := by decide +kernel
theorem dX3_value_198 : decode cX3_value 198 = .ok (.ladd, 1) := by decide +kernel
theorem dX3_value_199 : decode cX3_value 199 = .ok (.lload 5, 2) := by decide +kernel
theorem dX3_value_201 : decode cX3_value 201 = .ok (.lmul, 1) := by decide +kernel
theorem dX3_value_202 : decode cX3_value 202 = .ok (.aload_n 0, 1) := by decide +kernel
theorem dX3_value_203 : decode cX3_value 203 = .ok (.getfield 13, 3) := by decide +kernel
theorem dX3_value_206 : decode cX3_value 206 = .ok (.iload 4, 2) := by decide +kernel
theorem dX3_value_208 : decode cX3_value 208 = .ok (.bipush 6, 2) := by decide +kernel
theorem dX3_value_210 : decode cX3_value 210 = .ok (.iadd, 1) := by decide +kernel
theorem dX3_value_211 : decode cX3_value 211 = .ok (.iaload, 1) := by decide +kernel
theorem dX3_value_212 : decode cX3_value 212 = .ok (.i2l, 1) := by decide +kernel
theorem dX3_value_213 : decode cX3_value 213 = .ok (.ladd, 1) := by decide +kernel
theorem dX3_value_214 : decode cX3_value 214 = .ok (.lload 5, 2) := by decide +kernel
theorem dX3_value_216 : decode cX3_value 216 = .ok (.lload 5, 2) := by decide +kernel
theorem dX3_value_218 : decode cX3_value 218 = .ok (.lmul, 1) := by decide +kernel
theorem dX3_value_219 : decode cX3_value 219 = .ok (.lload 5, 2) := by decide +kernel
theorem dX3_value_221 : decode cX3_value 221 = .ok (.lmul, 1) := by decide +kernel
theorem dX3_value_222 : decode cX3_value 222 = .ok (.invokevirtual 68, 3) := by decide +kernel
theorem dX3_value_225 : decode cX3_value 225 = .ok (.iload_n 2, 1) := by decide +kernel
theorem dX3_value_226 : decode cX3_value 226 = .ok (.ifCond .ne 10, 3) := by decide +kernel
theorem dX3_value_229 : decode cX3_value 229 = .ok (.aload_n 0, 1) := by decide +kernel
theorem dX3_value_230 : decode cX3_value 230 = .ok (.getfield 47, 3) := by decide +kernel
theorem dX3_value_233 : decode cX3_value 233 = .ok (.goto 7, 3) := by decide +kernel
theorem dX3_value_236 : decode cX3_value 236 = .ok (.aload_n 0, 1) := by decide +kernel
theorem dX3_value_237 : decode cX3_value 237 = .ok (.getfield 51, 3) := by decide +kernel
theorem dX3_value_240 : decode cX3_value 240 = .ok (.lreturn, 1) := by decide +kernel
theorem dX3_isThere_0 : decode cX3_isThere 0 = .ok (.bipush 8, 2) := by decide +kernel
theorem dX3_isThere_2 : decode cX3_isThere 2 = .ok (.iload_n 1, 1) := by decide +kernel
theorem dX3_isThere_3 : decode cX3_isThere 3 = .ok (.imul, 1) := by decide +kernel
theorem dX3_isThere_4 : decode cX3_isThere 4 = .ok (.istore 4, 2) := by decide +kernel
theorem dX3_isThere_6 : decode cX3_isThere 6 = .ok (.aload_n 0, 1) := by decide +kernel
theorem dX3_isThere_7 : decode cX3_isThere 7 = .ok (.iload_n 1, 1) := by decide +kernel
theorem dX3_isThere_8 : decode cX3_isThere 8 = .ok (.invokevirtual 58, 3) := by decide +kernel
theorem dX3_isThere_11 : decode cX3_isThere 11 = .ok (.ifCond .eq 45, 3) := by decide +kernel
theorem dX3_isThere_14 : decode cX3_isThere 14 = .ok (.iload_n 2, 1) := by decide +kernel
theorem dX3_isThere_15 : decode cX3_isThere 15 = .ok (.bipush (-9), 2) := by decide +kernel
theorem dX3_isThere_17 : decode cX3_isThere 17 = .ok (.if_icmp .eq 17, 3) := by decide +kernel
theorem dX3_isThere_20 : decode cX3_isThere 20 = .ok (.aload_n 0, 1) := by decide +kernel
theorem dX3_isThere_21 : decode cX3_isThere 21 = .ok (.getfield 13, 3) := by decide +kernel
theorem dX3_isThere_24 : decode cX3_isThere 24 = .ok (.iload 4, 2) := by decide +kernel
theorem dX3_isThere_26 : decode cX3_isThere 26 = .ok (.bipush 7, 2) := by decide +kernel
theorem dX3_isThere_28 : decode cX3_isThere 28 = .ok (.iadd, 1) := by decide +kernel
theorem dX3_isThere_29 : decode cX3_isThere 29 = .ok (.iaload, 1) := by decide +kernel
theorem dX3_isThere_30 : decode cX3_isThere 30 = .ok (.iload_n 2, 1) := by decide +kernel
theorem dX3_isThere_31 : decode cX3_isThere 31 = .ok (.if_icmp .lt 25, 3) := by decide +kernel
theorem dX3_isThere_34 : decode cX3_isThere 34 = .ok (.iload_n 3, 1) := by decide +kernel
theorem dX3_isThere_35 : decode cX3_isThere 35 = .ok (.bipush 9, 2) := by decide +kernel
theorem dX3_isThere_37 : decode cX3_isThere 37 = .ok (.if_icmp .eq 17, 3) := by decide +kernel
theorem dX3_isThere_40 : decode cX3_isThere 40 = .ok (.aload_n 0, 1) := by decide +kernel
theorem dX3_isThere_41 : decode cX3_isThere 41 = .ok (.getfield 13, 3) := by decide +kernel
theorem dX3_isThere_44 : decode cX3_isThere 44 = .ok (.iload 4, 2) := by decide +kernel
theorem dX3_isThere_46 : decode cX3_isThere 46 = .ok (.bipush 7, 2) := by decide +kernel
theorem dX3_isThere_48 : decode cX3_isThere 48 = .ok (.iadd, 1) := by decide +kernel
theorem dX3_isThere_49 : decode cX3_isThere 49 = .ok (.iaload, 1) := by decide +kernel
theorem dX3_isThere_50 : decode cX3_isThere 50 = .ok (.iload_n 3, 1) := by decide +kernel
theorem dX3_isThere_51 : decode cX3_isThere 51 = .ok (.if_icmp .gt 5, 3) := by decide +kernel
theorem dX3_isThere_54 : decode cX3_isThere 54 = .ok (.iconst 0, 1) := by decide +kernel
theorem dX3_isThere_55 : decode cX3_isThere 55 = .ok (.ireturn, 1) := by decide +kernel
theorem dX3_isThere_56 : decode cX3_isThere 56 = .ok (.iload_n 2, 1) := by decide +kernel
theorem dX3_isThere_57 : decode cX3_isThere 57 = .ok (.bipush (-9), 2) := by decide +kernel
theorem dX3_isThere_59 : decode cX3_isThere 59 = .ok (.if_icmp .eq 9, 3) := by decide +kernel
theorem dX3_isThere_62 : decode cX3_isThere 62 = .ok (.iload_n 3, 1) := by decide +kernel
theorem dX3_isThere_63 : decode cX3_isThere 63 = .ok (.bipush 9, 2) := by decide +kernel
theorem dX3_isThere_65 : decode cX3_isThere 65 = .ok (.if_icmp .ne 7, 3) := by decide +kernel
theorem dX3_isThere_68 : decode cX3_isThere 68 = .ok (.iconst 1, 1) := by decide +kernel
theorem dX3_isThere_69 : decode cX3_isThere 69 = .ok (.goto 4, 3) := by decide +kernel
theorem dX3_isThere_72 : decode cX3_isThere 72 = .ok (.iconst 0, 1) := by decide +kernel
theorem dX3_isThere_73 : decode cX3_isThere 73 = .ok (.istore 5, 2) := by decide +kernel
theorem dX3_isThere_75 : decode cX3_isThere 75 = .ok (.iload 5, 2) := by decide +kernel
theorem dX3_isThere_77 : decode cX3_isThere 77 = .ok (.ifCond .eq 61, 3) := by decide +kernel
theorem dX3_isThere_80 : decode cX3_isThere 80 = .ok (.aload_n 0, 1) := by decide +kernel
theorem dX3_isThere_81 : decode cX3_isThere 81 = .ok (.getfield 13, 3) := by decide +kernel
theorem dX3_isThere_84 : decode cX3_isThere 84 = .ok (.iload 4, 2) := by decide +kernel
theorem dX3_isThere_86 : decode cX3_isThere 86 = .ok (.iaload, 1) := by decide +kernel
theorem dX3_isThere_87 : decode cX3_isThere 87 = .ok (.ifCond .ne 55, 3) := by decide +kernel
theorem dX3_isThere_90 : decode cX3_isThere 90 = .ok (.aload_n 0, 1) := by decide +kernel
theorem dX3_isThere_91 : decode cX3_isThere 91 = .ok (.getfield 13, 3) := by decide +kernel
theorem dX3_isThere_94 : decode cX3_isThere 94 = .ok (.iload 4, 2) := by decide +kernel
theorem dX3_isThere_96 : decode cX3_isThere 96 = .ok (.iconst 1, 1) := by decide +kernel
theorem dX3_isThere_97 : decode cX3_isThere 97 = .ok (.iadd, 1) := by decide +kernel
theorem dX3_isThere_98 : decode cX3_isThere 98 = .ok (.iaload, 1) := by decide +kernel
theorem dX3_isThere_99 : decode cX3_isThere 99 = .ok (.ifCond .ne 43, 3) := by decide +kernel
theorem dX3_isThere_102 : decode cX3_isThere 102 = .ok (.aload_n 0, 1) := by decide +kernel
theorem dX3_isThere_103 : decode cX3_isThere 103 = .ok (.getfield 13, 3) := by decide +kernel
theorem dX3_isThere_106 : decode cX3_isThere 106 = .ok (.iload 4, 2) := by decide +kernel
theorem dX3_isThere_108 : decode cX3_isThere 108 = .ok (.iconst 2, 1) := by decide +kernel
theorem dX3_isThere_109 : decode cX3_isThere 109 = .ok (.iadd, 1) := by decide +kernel
theorem dX3_isThere_110 : decode cX3_isThere 110 = .ok (.iaload, 1) := by decide +kernel
theorem dX3_isThere_111 : decode cX3_isThere 111 = .ok (.ifCond .ne 31, 3) := by decide +kernel
theorem dX3_isThere_114 : decode cX3_isThere 114 = .ok (.aload_n 0, 1) := by decide +kernel
theorem dX3_isThere_115 : decode cX3_isThere 115 = .ok (.getfield 13, 3) := by decide +kernel
theorem dX3_isThere_118 : decode cX3_isThere 118 = .ok (.iload 4, 2) := by decide +kernel
theorem dX3_isThere_120 : decode cX3_isThere 120 = .ok (.iconst 3, 1) := by decide +kernel
theorem dX3_isThere_121 : decode cX3_isThere 121 = .ok (.iadd, 1) := by decide +kernel
theorem dX3_isThere_122 : decode cX3_isThere 122 = .ok (.iaload, 1) := by decide +kernel
theorem dX3_isThere_123 : decode cX3_isThere 123 = .ok (.ifCond .ne 19, 3) := by decide +kernel
theorem dX3_isThere_126 : decode cX3_isThere 126 = .ok (.aload_n 0, 1) := by decide +kernel
theorem dX3_isThere_127 : decode cX3_isThere 127 = .ok (.getfield 13, 3) := by decide +kernel
theorem dX3_isThere_130 : decode cX3_isThere 130 = .ok (.iload 4, 2) := by decide +kernel
theorem dX3_isThere_132 : decode cX3_isThere 132 = .ok (.iconst 4, 1) := by decide +kernel
theorem dX3_isThere_133 : decode cX3_isThere 133 = .ok (.iadd, 1) := by decide +kernel
theorem dX3_isThere_134 : decode cX3_isThere 134 = .ok (.iaload, 1) := by decide +kernel
theorem dX3_isThere_135 : decode cX3_isThere 135 = .ok (.ifCond .ne 7, 3) := by decide +kernel
theorem dX3_isThere_138 : decode cX3_isThere 138 = .ok (.iconst 1, 1) := by decide +kernel
theorem dX3_isThere_139 : decode cX3_isThere 139 = .ok (.goto 4, 3) := by decide +kernel
theorem dX3_isThere_142 : decode cX3_isThere 142 = .ok (.iconst 0, 1) := by decide +kernel
theorem dX3_isThere_143 : decode cX3_isThere 143 = .ok (.ireturn, 1) := by decide +kernel
theorem dX3_putEnd_0 : decode cX3_putEnd 0 = .ok (.bipush 8, 2) := by decide +kernel
theorem dX3_putEnd_2 : decode cX3_putEnd 2 = .ok (.iload_n 1, 1) := by decide +kernel
theorem dX3_putEnd_3 : decode cX3_putEnd 3 = .ok (.imul, 1) := by decide +kernel
theorem dX3_putEnd_4 : decode cX3_putEnd 4 = .ok (.istore 4, 2) := by decide +kernel
theorem dX3_putEnd_6 : decode cX3_putEnd 6 = .ok (.iload_n 3, 1) := by decide +kernel
theorem dX3_putEnd_7 : decode cX3_putEnd 7 = .ok (.i2l, 1) := by decide +kernel
theorem dX3_putEnd_8 : decode cX3_putEnd 8 = .ok (.lstore 5, 2) := by decide +kernel
theorem dX3_putEnd_10 : decode cX3_putEnd 10 = .ok (.iconst 0, 1) := by decide +kernel
theorem dX3_putEnd_11 : decode cX3_putEnd 11 = .ok (.istore 7, 2) := by decide +kernel
theorem dX3_putEnd_13 : decode cX3_putEnd 13 = .ok (.iload 7, 2) := by decide +kernel
theorem dX3_putEnd_15 : decode cX3_putEnd 15 = .ok (.iconst 4, 1) := by decide +kernel
theorem dX3_putEnd_16 : decode cX3_putEnd 16 = .ok (.if_icmp .ge 39, 3) := by decide +kernel
theorem dX3_putEnd_19 : decode cX3_putEnd 19 = .ok (.lload 5, 2) := by decide +kernel
theorem dX3_putEnd_21 : decode cX3_putEnd 21 = .ok (.iload_n 2, 1) := by decide +kernel
theorem dX3_putEnd_22 : decode cX3_putEnd 22 = .ok (.i2l, 1) := by decide +kernel
theorem dX3_putEnd_23 : decode cX3_putEnd 23 = .ok (.lmul, 1) := by decide +kernel
theorem dX3_putEnd_24 : decode cX3_putEnd 24 = .ok (.lstore 5, 2) := by decide +kernel
theorem dX3_putEnd_26 : decode cX3_putEnd 26 = .ok (.aload_n 0, 1) := by decide +kernel
theorem dX3_putEnd_27 : decode cX3_putEnd 27 = .ok (.lload 5, 2) := by decide +kernel
theorem dX3_putEnd_29 : decode cX3_putEnd 29 = .ok (.aload_n 0, 1) := by decide +kernel
theorem dX3_putEnd_30 : decode cX3_putEnd 30 = .ok (.getfield 13, 3) := by decide +kernel
theorem dX3_putEnd_33 : decode cX3_putEnd 33 = .ok (.iload 4, 2) := by decide +kernel
theorem dX3_putEnd_35 : decode cX3_putEnd 35 = .ok (.iload 7, 2) := by decide +kernel
theorem dX3_putEnd_37 : decode cX3_putEnd 37 = .ok (.iadd, 1) := by decide +kernel
theorem dX3_putEnd_38 : decode cX3_putEnd 38 = .ok (.iaload, 1) := by decide +kernel
theorem dX3_putEnd_39 : decode cX3_putEnd 39 = .ok (.i2l, 1) := by decide +kernel
theorem dX3_putEnd_40 : decode cX3_putEnd 40 = .ok (.lmul, 1) := by decide +kernel
theorem dX3_putEnd_41 : decode cX3_putEnd 41 = .ok (.iload 7, 2) := by decide +kernel
theorem dX3_putEnd_43 : decode cX3_putEnd 43 = .ok (.i2l, 1) := by decide +kernel
theorem dX3_putEnd_44 : decode cX3_putEnd 44 = .ok (.lconst 1, 1) := by decide +kernel
theorem dX3_putEnd_45 : decode cX3_putEnd 45 = .ok (.ladd, 1) := by decide +kernel
theorem dX3_putEnd_46 : decode cX3_putEnd 46 = .ok (.invokevirtual 68, 3) := by decide +kernel
theorem dX3_putEnd_49 : decode cX3_putEnd 49 = .ok (.iinc 7 1, 3) := by decide +kernel
theorem dX3_putEnd_52 : decode cX3_putEnd 52 = .ok (.goto (-39), 3) := by decide +kernel
theorem dX3_putEnd_55 : decode cX3_putEnd 55 = .ok (.aload_n 0, 1) := by decide +kernel
theorem dX3_putEnd_56 : decode cX3_putEnd 56 = .ok (.iload_n 1, 1) := by decide +kernel
theorem dX3_putEnd_57 : decode cX3_putEnd 57 = .ok (.invokevirtual 58, 3) := by decide +kernel
theorem dX3_putEnd_60 : decode cX3_putEnd 60 = .ok (.ifCond .ne 4, 3) := by decide +kernel
theorem dX3_putEnd_63 : decode cX3_putEnd 63 = .ok (.return_, 1) := by decide +kernel
theorem dX3_putEnd_64 : decode cX3_putEnd 64 = .ok (.iload_n 2, 1) := by decide +kernel
theorem dX3_putEnd_65 : decode cX3_putEnd 65 = .ok (.aload_n 0, 1) := by decide +kernel
theorem dX3_putEnd_66 : decode cX3_putEnd 66 = .ok (.getfield 13, 3) := by decide +kernel
theorem dX3_putEnd_69 : decode cX3_putEnd 69 = .ok (.iload 4, 2) := by decide +kernel
theorem dX3_putEnd_71 : decode cX3_putEnd 71 = .ok (.bipush 7, 2) := by decide +kernel
theorem dX3_putEnd_73 : decode cX3_putEnd 73 = .ok (.iadd, 1) := by decide +kernel
theorem dX3_putEnd_74 : decode cX3_putEnd 74 = .ok (.iaload, 1) := by decide +kernel
theorem dX3_putEnd_75 : decode cX3_putEnd 75 = .ok (.isub, 1) := by decide +kernel
theorem dX3_putEnd_76 : decode cX3_putEnd 76 = .ok (.istore 7, 2) := by decide +kernel
theorem dX3_putEnd_78 : decode cX3_putEnd 78 = .ok (.aload_n 0, 1) := by decide +kernel
theorem dX3_putEnd_79 : decode cX3_putEnd 79 = .ok (.iload 7, 2) := by decide +kernel
theorem dX3_putEnd_81 : decode cX3_putEnd 81 = .ok (.iload_n 3, 1) := by decide +kernel
theorem dX3_putEnd_82 : decode cX3_putEnd 82 = .ok (.aload_n 0, 1) := by decide +kernel
theorem dX3_putEnd_83 : decode cX3_putEnd 83 = .ok (.getfield 13, 3) := by decide +kernel
theorem dX3_putEnd_86 : decode cX3_putEnd 86 = .ok (.iload 4, 2) := by decide +kernel
theorem dX3_putEnd_88 : decode cX3_putEnd 88 = .ok (.iconst 4, 1) := by decide +kernel
theorem dX3_putEnd_89 : decode cX3_putEnd 89 = .ok (.iadd, 1) := by decide +kernel
theorem dX3_putEnd_90 : decode cX3_putEnd 90 = .ok (.iaload, 1) := by decide +kernel
theorem dX3_putEnd_91 : decode cX3_putEnd 91 = .ok (.imul, 1) := by decide +kernel
theorem dX3_putEnd_92 : decode cX3_putEnd 92 = .ok (.invokevirtual 72, 3) := by decide +kernel
theorem dX3_putEnd_95 : decode cX3_putEnd 95 = .ok (.aload_n 0, 1) := by decide +kernel
theorem dX3_putEnd_96 : decode cX3_putEnd 96 = .ok (.iload_n 3, 1) := by decide +kernel
theorem dX3_putEnd_97 : decode cX3_putEnd 97 = .ok (.ineg, 1) := by decide +kernel
theorem dX3_putEnd_98 : decode cX3_putEnd 98 = .ok (.i2l, 1) := by decide +kernel
theorem dX3_putEnd_99 : decode cX3_putEnd 99 = .ok (.aload_n 0, 1) := by decide +kernel
theorem dX3_putEnd_100 : decode cX3_putEnd 100 = .ok (.getfield 13, 3) := by decide +kernel
theorem dX3_putEnd_103 : decode cX3_putEnd 103 = .ok (.iload 4, 2) := by decide +kernel
theorem dX3_putEnd_105 : decode cX3_putEnd 105 = .ok (.iconst 5, 1) := by decide +kernel
theorem dX3_putEnd_106 : decode cX3_putEnd 106 = .ok (.iadd, 1) := by decide +kernel
theorem dX3_putEnd_107 : decode cX3_putEnd 107 = .ok (.iaload, 1) := by decide +kernel
theorem dX3_putEnd_108 : decode cX3_putEnd 108 = .ok (.i2l, 1) := by decide +kernel
theorem dX3_putEnd_109 : decode cX3_putEnd 109 = .ok (.lmul, 1) := by decide +kernel
theorem dX3_putEnd_110 : decode cX3_putEnd 110 = .ok (.iload 7, 2) := by decide +kernel
theorem dX3_putEnd_112 : decode cX3_putEnd 112 = .ok (.i2l, 1) := by decide +kernel
theorem dX3_putEnd_113 : decode cX3_putEnd 113 = .ok (.invokevirtual 68, 3) := by decide +kernel
theorem dX3_putEnd_116 : decode cX3_putEnd 116 = .ok (.aload_n 0, 1) := by decide +kernel
theorem dX3_putEnd_117 : decode cX3_putEnd 117 = .ok (.iload_n 3, 1) := by decide +kernel
theorem dX3_putEnd_118 : decode cX3_putEnd 118 = .ok (.ineg, 1) := by decide +kernel
theorem dX3_putEnd_119 : decode cX3_putEnd 119 = .ok (.i2l, 1) := by decide +kernel
theorem dX3_putEnd_120 : decode cX3_putEnd 120 = .ok (.aload_n 0, 1) := by decide +kernel
theorem dX3_putEnd_121 : decode cX3_putEnd 121 = .ok (.getfield 13, 3) := by decide +kernel
theorem dX3_putEnd_124 : decode cX3_putEnd 124 = .ok (.iload 4, 2) := by decide +kernel
theorem dX3_putEnd_126 : decode cX3_putEnd 126 = .ok (.bipush 6, 2) := by decide +kernel
theorem dX3_putEnd_128 : decode cX3_putEnd 128 = .ok (.iadd, 1) := by decide +kernel
theorem dX3_putEnd_129 : decode cX3_putEnd 129 = .ok (.iaload, 1) := by decide +kernel
theorem dX3_putEnd_130 : decode cX3_putEnd 130 = .ok (.i2l, 1) := by decide +kernel
theorem dX3_putEnd_131 : decode cX3_putEnd 131 = .ok (.lmul, 1) := by decide +kernel
theorem dX3_putEnd_132 : decode cX3_putEnd 132 = .ok (.ldc2_w 76, 3) := by decide +kernel
theorem dX3_putEnd_135 : decode cX3_putEnd 135 = .ok (.iload 7, 2) := by decide +kernel
theorem dX3_putEnd_137 : decode cX3_putEnd 137 = .ok (.i2l, 1) := by decide +kernel
theorem dX3_putEnd_138 : decode cX3_putEnd 138 = .ok (.lmul, 1) := by decide +kernel
theorem dX3_putEnd_139 : decode cX3_putEnd 139 = .ok (.iload 7, 2) := by decide +kernel
theorem dX3_putEnd_141 : decode cX3_putEnd 141 = .ok (.i2l, 1) := by decide +kernel
theorem dX3_putEnd_142 : decode cX3_putEnd 142 = .ok (.lmul, 1) := by decide +kernel
theorem dX3_putEnd_143 : decode cX3_putEnd 143 = .ok (.invokevirtual 68, 3) := by decide +kernel
theorem dX3_putEnd_146 : decode cX3_putEnd 146 = .ok (.return_, 1) := by decide +kernel
theorem dX3_integral_0 : decode cX3_integral 0 = .ok (.iload_n 1, 1) := by decide +kernel
theorem dX3_integral_1 : decode cX3_integral 1 = .ok (.bipush (-6), 2) := by decide +kernel
theorem dX3_integral_3 : decode cX3_integral 3 = .ok (.bipush 6, 2) := by decide +kernel
theorem dX3_integral_5 : decode cX3_integral 5 = .ok (.invokestatic 35, 3) := by decide +kernel
theorem dX3_integral_8 : decode cX3_integral 8 = .ok (.ifCond .ne 15, 3) := by decide +kernel
theorem dX3_integral_11 : decode cX3_integral 11 = .ok (.iload_n 1, 1) := by decide +kernel
theorem dX3_integral_12 : decode cX3_integral 12 = .ok (.bipush (-9), 2) := by decide +kernel
theorem dX3_integral_14 : decode cX3_integral 14 = .ok (.if_icmp .eq 9, 3) := by decide +kernel
theorem dX3_integral_17 : decode cX3_integral 17 = .ok (.iload_n 1, 1) := by decide +kernel
theorem dX3_integral_18 : decode cX3_integral 18 = .ok (.bipush 9, 2) := by decide +kernel
theorem dX3_integral_20 : decode cX3_integral 20 = .ok (.if_icmp .ne 30, 3) := by decide +kernel
theorem dX3_integral_23 : decode cX3_integral 23 = .ok (.iload_n 2, 1) := by decide +kernel
theorem dX3_integral_24 : decode cX3_integral 24 = .ok (.bipush (-6), 2) := by decide +kernel
theorem dX3_integral_26 : decode cX3_integral 26 = .ok (.bipush 6, 2) := by decide +kernel
theorem dX3_integral_28 : decode cX3_integral 28 = .ok (.invokestatic 35, 3) := by decide +kernel
theorem dX3_integral_31 : decode cX3_integral 31 = .ok (.ifCond .ne 15, 3) := by decide +kernel
theorem dX3_integral_34 : decode cX3_integral 34 = .ok (.iload_n 2, 1) := by decide +kernel
theorem dX3_integral_35 : decode cX3_integral 35 = .ok (.bipush (-9), 2) := by decide +kernel
theorem dX3_integral_37 : decode cX3_integral 37 = .ok (.if_icmp .eq 9, 3) := by decide +kernel
theorem dX3_integral_40 : decode cX3_integral 40 = .ok (.iload_n 2, 1) := by decide +kernel
theorem dX3_integral_41 : decode cX3_integral 41 = .ok (.bipush 9, 2) := by decide +kernel
theorem dX3_integral_43 : decode cX3_integral 43 = .ok (.if_icmp .ne 7, 3) := by decide +kernel
theorem dX3_integral_46 : decode cX3_integral 46 = .ok (.iconst 1, 1) := by decide +kernel
theorem dX3_integral_47 : decode cX3_integral 47 = .ok (.goto 4, 3) := by decide +kernel
theorem dX3_integral_50 : decode cX3_integral 50 = .ok (.iconst 0, 1) := by decide +kernel
theorem dX3_integral_51 : decode cX3_integral 51 = .ok (.istore_n 3, 1) := by decide +kernel
theorem dX3_integral_52 : decode cX3_integral 52 = .ok (.aload_n 0, 1) := by decide +kernel
theorem dX3_integral_53 : decode cX3_integral 53 = .ok (.iload_n 3, 1) := by decide +kernel
theorem dX3_integral_54 : decode cX3_integral 54 = .ok (.ifCond .eq 7, 3) := by decide +kernel
theorem dX3_integral_57 : decode cX3_integral 57 = .ok (.iconst 0, 1) := by decide +kernel
theorem dX3_integral_58 : decode cX3_integral 58 = .ok (.goto 4, 3) := by decide +kernel
theorem dX3_integral_61 : decode cX3_integral 61 = .ok (.iconst 1, 1) := by decide +kernel
theorem dX3_integral_62 : decode cX3_integral 62 = .ok (.putfield 28, 3) := by decide +kernel
theorem dX3_integral_65 : decode cX3_integral 65 = .ok (.aload_n 0, 1) := by decide +kernel
theorem dX3_integral_66 : decode cX3_integral 66 = .ok (.getfield 28, 3) := by decide +kernel
theorem dX3_integral_69 : decode cX3_integral 69 = .ok (.ifCond .le 5, 3) := by decide +kernel
theorem dX3_integral_72 : decode cX3_integral 72 = .ok (.iconst 0, 1) := by decide +kernel
theorem dX3_integral_73 : decode cX3_integral 73 = .ok (.ireturn, 1) := by decide +kernel
theorem dX3_integral_74 : decode cX3_integral 74 = .ok (.aload_n 0, 1) := by decide +kernel
theorem dX3_integral_75 : decode cX3_integral 75 = .ok (.iconst 0, 1) := by decide +kernel
theorem dX3_integral_76 : decode cX3_integral 76 = .ok (.putfield 43, 3) := by decide +kernel
theorem dX3_integral_79 : decode cX3_integral 79 = .ok (.iload_n 1, 1) := by decide +kernel
theorem dX3_integral_80 : decode cX3_integral 80 = .ok (.iload_n 2, 1) := by decide +kernel
theorem dX3_integral_81 : decode cX3_integral 81 = .ok (.if_icmp .le 7, 3) := by decide +kernel
theorem dX3_integral_84 : decode cX3_integral 84 = .ok (.iconst (-1), 1) := by decide +kernel
theorem dX3_integral_85 : decode cX3_integral 85 = .ok (.goto 4, 3) := by decide +kernel
theorem dX3_integral_88 : decode cX3_integral 88 = .ok (.iconst 1, 1) := by decide +kernel
theorem dX3_integral_89 : decode cX3_integral 89 = .ok (.istore 4, 2) := by decide +kernel
theorem dX3_integral_91 : decode cX3_integral 91 = .ok (.iload_n 1, 1) := by decide +kernel
theorem dX3_integral_92 : decode cX3_integral 92 = .ok (.iload_n 2, 1) := by decide +kernel
theorem dX3_integral_93 : decode cX3_integral 93 = .ok (.if_icmp .le 7, 3) := by decide +kernel
theorem dX3_integral_96 : decode cX3_integral 96 = .ok (.iload_n 2, 1) := by decide +kernel
theorem dX3_integral_97 : decode cX3_integral 97 = .ok (.goto 4, 3) := by decide +kernel
theorem dX3_integral_100 : decode cX3_integral 100 = .ok (.iload_n 1, 1) := by decide +kernel
theorem dX3_integral_101 : decode cX3_integral 101 = .ok (.istore 5, 2) := by decide +kernel
theorem dX3_integral_103 : decode cX3_integral 103 = .ok (.iload_n 1, 1) := by decide +kernel
theorem dX3_integral_104 : decode cX3_integral 104 = .ok (.iload_n 2, 1) := by decide +kernel
theorem dX3_integral_105 : decode cX3_integral 105 = .ok (.if_icmp .le 7, 3) := by decide +kernel
theorem dX3_integral_108 : decode cX3_integral 108 = .ok (.iload_n 1, 1) := by decide +kernel
theorem dX3_integral_109 : decode cX3_integral 109 = .ok (.goto 4, 3) := by decide +kernel
theorem dX3_integral_112 : decode cX3_integral 112 = .ok (.iload_n 2, 1) := by decide +kernel
theorem dX3_integral_113 : decode cX3_integral 113 = .ok (.istore 6, 2) := by decide +kernel
theorem dX3_integral_115 : decode cX3_integral 115 = .ok (.aload_n 0, 1) := by decide +kernel
theorem dX3_integral_116 : decode cX3_integral 116 = .ok (.invokevirtual 65, 3) := by decide +kernel
theorem dX3_integral_119 : decode cX3_integral 119 = .ok (.iconst 0, 1) := by decide +kernel
theorem dX3_integral_120 : decode cX3_integral 120 = .ok (.istore 7, 2) := by decide +kernel
theorem dX3_integral_122 : decode cX3_integral 122 = .ok (.iload 7, 2) := by decide +kernel
theorem dX3_integral_124 : decode cX3_integral 124 = .ok (.aload_n 0, 1) := by decide +kernel
theorem dX3_integral_125 : decode cX3_integral 125 = .ok (.getfield 32, 3) := by decide +kernel
theorem dX3_integral_128 : decode cX3_integral 128 = .ok (.if_icmp .gt 139, 3) := by decide +kernel
theorem dX3_integral_131 : decode cX3_integral 131 = .ok (.iload 7, 2) := by decide +kernel
theorem dX3_integral_133 : decode cX3_integral 133 = .ok (.ifCond .le 29, 3) := by decide +kernel
theorem dX3_integral_136 : decode cX3_integral 136 = .ok (.aload_n 0, 1) := by decide +kernel
theorem dX3_integral_137 : decode cX3_integral 137 = .ok (.getfield 7, 3) := by decide +kernel
theorem dX3_integral_140 : decode cX3_integral 140 = .ok (.iload 7, 2) := by decide +kernel
theorem dX3_integral_142 : decode cX3_integral 142 = .ok (.iconst 1, 1) := by decide +kernel
theorem dX3_integral_143 : decode cX3_integral 143 = .ok (.isub, 1) := by decide +kernel
theorem dX3_integral_144 : decode cX3_integral 144 = .ok (.iaload, 1) := by decide +kernel
theorem dX3_integral_145 : decode cX3_integral 145 = .ok (.iload 5, 2) := by decide +kernel
theorem dX3_integral_147 : decode cX3_integral 147 = .ok (.if_icmp .le 15, 3) := by decide +kernel
theorem dX3_integral_150 : decode cX3_integral 150 = .ok (.aload_n 0, 1) := by decide +kernel
theorem dX3_integral_151 : decode cX3_integral 151 = .ok (.getfield 7, 3) := by decide +kernel
theorem dX3_integral_154 : decode cX3_integral 154 = .ok (.iload 7, 2) := by decide +kernel
theorem dX3_integral_156 : decode cX3_integral 156 = .ok (.iconst 1, 1) := by decide +kernel
theorem dX3_integral_157 : decode cX3_integral 157 = .ok (.isub, 1) := by decide +kernel
theorem dX3_integral_158 : decode cX3_integral 158 = .ok (.iaload, 1) := by decide +kernel
theorem dX3_integral_159 : decode cX3_integral 159 = .ok (.goto 5, 3) := by decide +kernel
theorem dX3_integral_162 : decode cX3_integral 162 = .ok (.iload 5, 2) := by decide +kernel
theorem dX3_integral_164 : decode cX3_integral 164 = .ok (.istore 8, 2) := by decide +kernel
theorem dX3_integral_166 : decode cX3_integral 166 = .ok (.iload 7, 2) := by decide +kernel
theorem dX3_integral_168 : decode cX3_integral 168 = .ok (.aload_n 0, 1) := by decide +kernel
theorem dX3_integral_169 : decode cX3_integral 169 = .ok (.getfield 32, 3) := by decide +kernel
theorem dX3_integral_172 : decode cX3_integral 172 = .ok (.if_icmp .ge 25, 3) := by decide +kernel
theorem dX3_integral_175 : decode cX3_integral 175 = .ok (.aload_n 0, 1) := by decide +kernel
theorem dX3_integral_176 : decode cX3_integral 176 = .ok (.getfield 7, 3) := by decide +kernel
theorem dX3_integral_179 : decode cX3_integral 179 = .ok (.iload 7, 2) := by decide +kernel
theorem dX3_integral_181 : decode cX3_integral 181 = .ok (.iaload, 1) := by decide +kernel
theorem dX3_integral_182 : decode cX3_integral 182 = .ok (.iload 6, 2) := by decide +kernel
theorem dX3_integral_184 : decode cX3_integral 184 = .ok (.if_icmp .ge 13, 3) := by decide +kernel
theorem dX3_integral_187 : decode cX3_integral 187 = .ok (.aload_n 0, 1) := by decide +kernel
theorem dX3_integral_188 : decode cX3_integral 188 = .ok (.getfield 7, 3) := by decide +kernel
theorem dX3_integral_191 : decode cX3_integral 191 = .ok (.iload 7, 2) := by decide +kernel
theorem dX3_integral_193 : decode cX3_integral 193 = .ok (.iaload, 1) := by decide +kernel
theorem dX3_integral_194 : decode cX3_integral 194 = .ok (.goto 5, 3) := by decide +kernel
theorem dX3_integral_197 : decode cX3_integral 197 = .ok (.iload 6, 2) := by decide +kernel
theorem dX3_integral_199 : decode cX3_integral 199 = .ok (.istore 9, 2) := by decide +kernel
theorem dX3_integral_201 : decode cX3_integral 201 = .ok (.iload 8, 2) := by decide +kernel
theorem dX3_integral_203 : decode cX3_integral 203 = .ok (.iload 9, 2) := by decide +kernel
theorem dX3_integral_205 : decode cX3_integral 205 = .ok (.if_icmp .lt 6, 3) := by decide +kernel
theorem dX3_integral_208 : decode cX3_integral 208 = .ok (.goto 53, 3) := by decide +kernel
theorem dX3_integral_211 : decode cX3_integral 211 = .ok (.aload_n 0, 1) := by decide +kernel
theorem dX3_integral_212 : decode cX3_integral 212 = .ok (.iload 7, 2) := by decide +kernel
theorem dX3_integral_214 : decode cX3_integral 214 = .ok (.iload 8, 2) := by decide +kernel
theorem dX3_integral_216 : decode cX3_integral 216 = .ok (.iload 9, 2) := by decide +kernel
theorem dX3_integral_218 : decode cX3_integral 218 = .ok (.invokevirtual 78, 3) := by decide +kernel
theorem dX3_integral_221 : decode cX3_integral 221 = .ok (.ifCond .ne 5, 3) := by decide +kernel
theorem dX3_integral_224 : decode cX3_integral 224 = .ok (.iconst 0, 1) := by decide +kernel
theorem dX3_integral_225 : decode cX3_integral 225 = .ok (.ireturn, 1) := by decide +kernel
theorem dX3_integral_226 : decode cX3_integral 226 = .ok (.iload 9, 2) := by decide +kernel
theorem dX3_integral_228 : decode cX3_integral 228 = .ok (.bipush 9, 2) := by decide +kernel
theorem dX3_integral_230 : decode cX3_integral 230 = .ok (.if_icmp .eq 13, 3) := by decide +kernel
theorem dX3_integral_233 : decode cX3_integral 233 = .ok (.aload_n 0, 1) := by decide +kernel
theorem dX3_integral_234 : decode cX3_integral 234 = .ok (.iload 7, 2) := by decide +kernel
theorem dX3_integral_236 : decode cX3_integral 236 = .ok (.iload 9, 2) := by decide +kernel
theorem dX3_integral_238 : decode cX3_integral 238 = .ok (.iload 4, 2) := by decide +kernel
theorem dX3_integral_240 : decode cX3_integral 240 = .ok (.invokevirtual 81, 3) := by decide +kernel
theorem dX3_integral_243 : decode cX3_integral 243 = .ok (.iload 8, 2) := by decide +kernel
theorem dX3_integral_245 : decode cX3_integral 245 = .ok (.bipush (-9), 2) := by decide +kernel
theorem dX3_integral_247 : decode cX3_integral 247 = .ok (.if_icmp .eq 14, 3) := by decide +kernel
theorem dX3_integral_250 : decode cX3_integral 250 = .ok (.aload_n 0, 1) := by decide +kernel
theorem dX3_integral_251 : decode cX3_integral 251 = .ok (.iload 7, 2) := by decide +kernel
theorem dX3_integral_253 : decode cX3_integral 253 = .ok (.iload 8, 2) := by decide +kernel
theorem dX3_integral_255 : decode cX3_integral 255 = .ok (.iload 4, 2) := by decide +kernel
theorem dX3_integral_257 : decode cX3_integral 257 = .ok (.ineg, 1) := by decide +kernel
theorem dX3_integral_258 : decode cX3_integral 258 = .ok (.invokevirtual 81, 3) := by decide +kernel
theorem dX3_integral_261 : decode cX3_integral 261 = .ok (.iinc 7 1, 3) := by decide +kernel
theorem dX3_integral_264 : decode cX3_integral 264 = .ok (.goto (-142), 3) := by decide +kernel
theorem dX3_integral_267 : decode cX3_integral 267 = .ok (.aload_n 0, 1) := by decide +kernel
theorem dX3_integral_268 : decode cX3_integral 268 = .ok (.iconst 1, 1) := by decide +kernel
theorem dX3_integral_269 : decode cX3_integral 269 = .ok (.putfield 43, 3) := by decide +kernel
theorem dX3_integral_272 : decode cX3_integral 272 = .ok (.aload_n 0, 1) := by decide +kernel
theorem dX3_integral_273 : decode cX3_integral 273 = .ok (.aload_n 0, 1) := by decide +kernel
theorem dX3_integral_274 : decode cX3_integral 274 = .ok (.getfield 47, 3) := by decide +kernel
theorem dX3_integral_277 : decode cX3_integral 277 = .ok (.putfield 85, 3) := by decide +kernel
theorem dX3_integral_280 : decode cX3_integral 280 = .ok (.aload_n 0, 1) := by decide +kernel
theorem dX3_integral_281 : decode cX3_integral 281 = .ok (.aload_n 0, 1) := by decide +kernel
theorem dX3_integral_282 : decode cX3_integral 282 = .ok (.getfield 51, 3) := by decide +kernel
theorem dX3_integral_285 : decode cX3_integral 285 = .ok (.putfield 88, 3) := by decide +kernel
theorem dX3_integral_288 : decode cX3_integral 288 = .ok (.iconst 0, 1) := by decide +kernel
theorem dX3_integral_289 : decode cX3_integral 289 = .ok (.istore 7, 2) := by decide +kernel
theorem dX3_integral_291 : decode cX3_integral 291 = .ok (.iload 7, 2) := by decide +kernel
theorem dX3_integral_293 : decode cX3_integral 293 = .ok (.iconst 5, 1) := by decide +kernel
theorem dX3_integral_294 : decode cX3_integral 294 = .ok (.if_icmp .ge 23, 3) := by decide +kernel
theorem dX3_integral_297 : decode cX3_integral 297 = .ok (.aload_n 0, 1) := by decide +kernel
theorem dX3_integral_298 : decode cX3_integral 298 = .ok (.getfield 22, 3) := by decide +kernel
theorem dX3_integral_301 : decode cX3_integral 301 = .ok (.iload 7, 2) := by decide +kernel
theorem dX3_integral_303 : decode cX3_integral 303 = .ok (.aload_n 0, 1) := by decide +kernel
theorem dX3_integral_304 : decode cX3_integral 304 = .ok (.getfield 25, 3) := by decide +kernel
theorem dX3_integral_307 : decode cX3_integral 307 = .ok (.iload 7, 2) := by decide +kernel
theorem dX3_integral_309 : decode cX3_integral 309 = .ok (.iaload, 1) := by decide +kernel
theorem dX3_integral_310 : decode cX3_integral 310 = .ok (.iastore, 1) := by decide +kernel
theorem dX3_integral_311 : decode cX3_integral 311 = .ok (.iinc 7 1, 3) := by decide +kernel
theorem dX3_integral_314 : decode cX3_integral 314 = .ok (.goto (-23), 3) := by decide +kernel
theorem dX3_integral_317 : decode cX3_integral 317 = .ok (.iconst 1, 1) := by decide +kernel
theorem dX3_integral_318 : decode cX3_integral 318 = .ok (.ireturn, 1) := by decide +kernel
theorem dX3_fraction_0 : decode cX3_fraction 0 = .ok (.aload_n 0, 1) := by decide +kernel
theorem dX3_fraction_1 : decode cX3_fraction 1 = .ok (.aload_n 0, 1) := by decide +kernel
theorem dX3_fraction_2 : decode cX3_fraction 2 = .ok (.getfield 43, 3) := by decide +kernel
theorem dX3_fraction_5 : decode cX3_fraction 5 = .ok (.ifCond .ne 7, 3) := by decide +kernel
theorem dX3_fraction_8 : decode cX3_fraction 8 = .ok (.iconst 1, 1) := by decide +kernel
theorem dX3_fraction_9 : decode cX3_fraction 9 = .ok (.goto 17, 3) := by decide +kernel
theorem dX3_fraction_12 : decode cX3_fraction 12 = .ok (.iload_n 1, 1) := by decide +kernel
theorem dX3_fraction_13 : decode cX3_fraction 13 = .ok (.iconst 0, 1) := by decide +kernel
theorem dX3_fraction_14 : decode cX3_fraction 14 = .ok (.iconst 1, 1) := by decide +kernel
theorem dX3_fraction_15 : decode cX3_fraction 15 = .ok (.invokestatic 35, 3) := by decide +kernel
theorem dX3_fraction_18 : decode cX3_fraction 18 = .ok (.ifCond .eq 7, 3) := by decide +kernel
theorem dX3_fraction_21 : decode cX3_fraction 21 = .ok (.iconst 0, 1) := by decide +kernel
theorem dX3_fraction_22 : decode cX3_fraction 22 = .ok (.goto 4, 3) := by decide +kernel
theorem dX3_fraction_25 : decode cX3_fraction 25 = .ok (.iconst 2, 1) := by decide +kernel
theorem dX3_fraction_26 : decode cX3_fraction 26 = .ok (.putfield 28, 3) := by decide +kernel
theorem dX3_fraction_29 : decode cX3_fraction 29 = .ok (.aload_n 0, 1) := by decide +kernel
theorem dX3_fraction_30 : decode cX3_fraction 30 = .ok (.getfield 28, 3) := by decide +kernel
theorem dX3_fraction_33 : decode cX3_fraction 33 = .ok (.ifCond .le 7, 3) := by decide +kernel
theorem dX3_fraction_36 : decode cX3_fraction 36 = .ok (.lconst 0, 1) := by decide +kernel
theorem dX3_fraction_37 : decode cX3_fraction 37 = .ok (.goto 18, 3) := by decide +kernel
theorem dX3_fraction_40 : decode cX3_fraction 40 = .ok (.iload_n 1, 1) := by decide +kernel
theorem dX3_fraction_41 : decode cX3_fraction 41 = .ok (.ifCond .ne 10, 3) := by decide +kernel
theorem dX3_fraction_44 : decode cX3_fraction 44 = .ok (.aload_n 0, 1) := by decide +kernel
theorem dX3_fraction_45 : decode cX3_fraction 45 = .ok (.getfield 85, 3) := by decide +kernel
theorem dX3_fraction_48 : decode cX3_fraction 48 = .ok (.goto 7, 3) := by decide +kernel
theorem dX3_fraction_51 : decode cX3_fraction 51 = .ok (.aload_n 0, 1) := by decide +kernel
theorem dX3_fraction_52 : decode cX3_fraction 52 = .ok (.getfield 88, 3) := by decide +kernel
theorem dX3_fraction_55 : decode cX3_fraction 55 = .ok (.lreturn, 1) := by decide +kernel
theorem dX3_logarithm_0 : decode cX3_logarithm 0 = .ok (.aload_n 0, 1) := by decide +kernel
theorem dX3_logarithm_1 : decode cX3_logarithm 1 = .ok (.getfield 43, 3) := by decide +kernel
theorem dX3_logarithm_4 : decode cX3_logarithm 4 = .ok (.ifCond .ne 9, 3) := by decide +kernel
theorem dX3_logarithm_7 : decode cX3_logarithm 7 = .ok (.aload_n 0, 1) := by decide +kernel
theorem dX3_logarithm_8 : decode cX3_logarithm 8 = .ok (.iconst 1, 1) := by decide +kernel
theorem dX3_logarithm_9 : decode cX3_logarithm 9 = .ok (.invokevirtual 62, 3) := by decide +kernel
theorem dX3_logarithm_12 : decode cX3_logarithm 12 = .ok (.ireturn, 1) := by decide +kernel
theorem dX3_logarithm_13 : decode cX3_logarithm 13 = .ok (.aload_n 0, 1) := by decide +kernel
theorem dX3_logarithm_14 : decode cX3_logarithm 14 = .ok (.iconst 0, 1) := by decide +kernel
theorem dX3_logarithm_15 : decode cX3_logarithm 15 = .ok (.putfield 28, 3) := by decide +kernel
theorem dX3_logarithm_18 : decode cX3_logarithm 18 = .ok (.iconst 0, 1) := by decide +kernel
theorem dX3_logarithm_19 : decode cX3_logarithm 19 = .ok (.istore_n 2, 1) := by decide +kernel
theorem dX3_logarithm_20 : decode cX3_logarithm 20 = .ok (.iload_n 2, 1) := by decide +kernel
theorem dX3_logarithm_21 : decode cX3_logarithm 21 = .ok (.iconst 5, 1) := by decide +kernel
theorem dX3_logarithm_22 : decode cX3_logarithm 22 = .ok (.if_icmp .ge 24, 3) := by decide +kernel
theorem dX3_logarithm_25 : decode cX3_logarithm 25 = .ok (.iload_n 2, 1) := by decide +kernel
theorem dX3_logarithm_26 : decode cX3_logarithm 26 = .ok (.invokestatic 54, 3) := by decide +kernel
theorem dX3_logarithm_29 : decode cX3_logarithm 29 = .ok (.iload_n 1, 1) := by decide +kernel
theorem dX3_logarithm_30 : decode cX3_logarithm 30 = .ok (.if_icmp .ne 10, 3) := by decide +kernel
theorem dX3_logarithm_33 : decode cX3_logarithm 33 = .ok (.aload_n 0, 1) := by decide +kernel
theorem dX3_logarithm_34 : decode cX3_logarithm 34 = .ok (.getfield 22, 3) := by decide +kernel
theorem dX3_logarithm_37 : decode cX3_logarithm 37 = .ok (.iload_n 2, 1) := by decide +kernel
theorem dX3_logarithm_38 : decode cX3_logarithm 38 = .ok (.iaload, 1) := by decide +kernel
theorem dX3_logarithm_39 : decode cX3_logarithm 39 = .ok (.ireturn, 1) := by decide +kernel
theorem dX3_logarithm_40 : decode cX3_logarithm 40 = .ok (.iinc 2 1, 3) := by decide +kernel
theorem dX3_logarithm_43 : decode cX3_logarithm 43 = .ok (.goto (-23), 3) := by decide +kernel
theorem dX3_logarithm_46 : decode cX3_logarithm 46 = .ok (.aload_n 0, 1) := by decide +kernel
theorem dX3_logarithm_47 : decode cX3_logarithm 47 = .ok (.iconst 2, 1) := by decide +kernel
theorem dX3_logarithm_48 : decode cX3_logarithm 48 = .ok (.invokevirtual 62, 3) := by decide +kernel
theorem dX3_logarithm_51 : decode cX3_logarithm 51 = .ok (.ireturn, 1) := by decide +kernel
theorem dX3_pieceAt_0 : decode cX3_pieceAt 0 = .ok (.iconst 0, 1) := by decide +kernel
theorem dX3_pieceAt_1 : decode cX3_pieceAt 1 = .ok (.istore_n 2, 1) := by decide +kernel
theorem dX3_pieceAt_2 : decode cX3_pieceAt 2 = .ok (.iload_n 2, 1) := by decide +kernel
theorem dX3_pieceAt_3 : decode cX3_pieceAt 3 = .ok (.aload_n 0, 1) := by decide +kernel
theorem dX3_pieceAt_4 : decode cX3_pieceAt 4 = .ok (.getfield 32, 3) := by decide +kernel
theorem dX3_pieceAt_7 : decode cX3_pieceAt 7 = .ok (.if_icmp .ge 21, 3) := by decide +kernel
theorem dX3_pieceAt_10 : decode cX3_pieceAt 10 = .ok (.iconst 2, 1) := by decide +kernel
theorem dX3_pieceAt_11 : decode cX3_pieceAt 11 = .ok (.aload_n 0, 1) := by decide +kernel
theorem dX3_pieceAt_12 : decode cX3_pieceAt 12 = .ok (.getfield 7, 3) := by decide +kernel
theorem dX3_pieceAt_15 : decode cX3_pieceAt 15 = .ok (.iload_n 2, 1) := by decide +kernel
theorem dX3_pieceAt_16 : decode cX3_pieceAt 16 = .ok (.iaload, 1) := by decide +kernel
theorem dX3_pieceAt_17 : decode cX3_pieceAt 17 = .ok (.imul, 1) := by decide +kernel
theorem dX3_pieceAt_18 : decode cX3_pieceAt 18 = .ok (.iload_n 1, 1) := by decide +kernel
theorem dX3_pieceAt_19 : decode cX3_pieceAt 19 = .ok (.if_icmp .ge 9, 3) := by decide +kernel
theorem dX3_pieceAt_22 : decode cX3_pieceAt 22 = .ok (.iinc 2 1, 3) := by decide +kernel
theorem dX3_pieceAt_25 : decode cX3_pieceAt 25 = .ok (.goto (-23), 3) := by decide +kernel
theorem dX3_pieceAt_28 : decode cX3_pieceAt 28 = .ok (.iload_n 2, 1) := by decide +kernel
theorem dX3_pieceAt_29 : decode cX3_pieceAt 29 = .ok (.ireturn, 1) := by decide +kernel
theorem dX3_isTurned_0 : decode cX3_isTurned 0 = .ok (.iconst 0, 1) := by decide +kernel
theorem dX3_isTurned_1 : decode cX3_isTurned 1 = .ok (.istore 4, 2) := by decide +kernel
theorem dX3_isTurned_3 : decode cX3_isTurned 3 = .ok (.iload 4, 2) := by decide +kernel
theorem dX3_isTurned_5 : decode cX3_isTurned 5 = .ok (.bipush 7, 2) := by decide +kernel
theorem dX3_isTurned_7 : decode cX3_isTurned 7 = .ok (.if_icmp .ge 39, 3) := by decide +kernel
theorem dX3_isTurned_10 : decode cX3_isTurned 10 = .ok (.aload_n 0, 1) := by decide +kernel
theorem dX3_isTurned_11 : decode cX3_isTurned 11 = .ok (.getfield 13, 3) := by decide +kernel
theorem dX3_isTurned_14 : decode cX3_isTurned 14 = .ok (.bipush 8, 2) := by decide +kernel
theorem dX3_isTurned_16 : decode cX3_isTurned 16 = .ok (.iload_n 1, 1) := by decide +kernel
theorem dX3_isTurned_17 : decode cX3_isTurned 17 = .ok (.imul, 1) := by decide +kernel
theorem dX3_isTurned_18 : decode cX3_isTurned 18 = .ok (.iload 4, 2) := by decide +kernel
theorem dX3_isTurned_20 : decode cX3_isTurned 20 = .ok (.iadd, 1) := by decide +kernel
theorem dX3_isTurned_21 : decode cX3_isTurned 21 = .ok (.iaload, 1) := by decide +kernel
theorem dX3_isTurned_22 : decode cX3_isTurned 22 = .ok (.iload_n 3, 1) := by decide +kernel
theorem dX3_isTurned_23 : decode cX3_isTurned 23 = .ok (.aload_n 0, 1) := by decide +kernel
theorem dX3_isTurned_24 : decode cX3_isTurned 24 = .ok (.aload_n 0, 1) := by decide +kernel
theorem dX3_isTurned_25 : decode cX3_isTurned 25 = .ok (.getfield 13, 3) := by decide +kernel
theorem dX3_isTurned_28 : decode cX3_isTurned 28 = .ok (.iload_n 2, 1) := by decide +kernel
theorem dX3_isTurned_29 : decode cX3_isTurned 29 = .ok (.iload 4, 2) := by decide +kernel
theorem dX3_isTurned_31 : decode cX3_isTurned 31 = .ok (.invokevirtual 39, 3) := by decide +kernel
theorem dX3_isTurned_34 : decode cX3_isTurned 34 = .ok (.imul, 1) := by decide +kernel
theorem dX3_isTurned_35 : decode cX3_isTurned 35 = .ok (.if_icmp .eq 5, 3) := by decide +kernel
theorem dX3_isTurned_38 : decode cX3_isTurned 38 = .ok (.iconst 0, 1) := by decide +kernel
theorem dX3_isTurned_39 : decode cX3_isTurned 39 = .ok (.ireturn, 1) := by decide +kernel
theorem dX3_isTurned_40 : decode cX3_isTurned 40 = .ok (.iinc 4 1, 3) := by decide +kernel
theorem dX3_isTurned_43 : decode cX3_isTurned 43 = .ok (.goto (-40), 3) := by decide +kernel
theorem dX3_isTurned_46 : decode cX3_isTurned 46 = .ok (.aload_n 0, 1) := by decide +kernel
theorem dX3_isTurned_47 : decode cX3_isTurned 47 = .ok (.iload_n 1, 1) := by decide +kernel
theorem dX3_isTurned_48 : decode cX3_isTurned 48 = .ok (.invokevirtual 58, 3) := by decide +kernel
theorem dX3_isTurned_51 : decode cX3_isTurned 51 = .ok (.ifCond .eq 29, 3) := by decide +kernel
theorem dX3_isTurned_54 : decode cX3_isTurned 54 = .ok (.aload_n 0, 1) := by decide +kernel
theorem dX3_isTurned_55 : decode cX3_isTurned 55 = .ok (.getfield 13, 3) := by decide +kernel
theorem dX3_isTurned_58 : decode cX3_isTurned 58 = .ok (.bipush 8, 2) := by decide +kernel
theorem dX3_isTurned_60 : decode cX3_isTurned 60 = .ok (.iload_n 1, 1) := by decide +kernel
theorem dX3_isTurned_61 : decode cX3_isTurned 61 = .ok (.imul, 1) := by decide +kernel
theorem dX3_isTurned_62 : decode cX3_isTurned 62 = .ok (.bipush 7, 2) := by decide +kernel
theorem dX3_isTurned_64 : decode cX3_isTurned 64 = .ok (.iadd, 1) := by decide +kernel
theorem dX3_isTurned_65 : decode cX3_isTurned 65 = .ok (.iaload, 1) := by decide +kernel
theorem dX3_isTurned_66 : decode cX3_isTurned 66 = .ok (.aload_n 0, 1) := by decide +kernel
theorem dX3_isTurned_67 : decode cX3_isTurned 67 = .ok (.aload_n 0, 1) := by decide +kernel
theorem dX3_isTurned_68 : decode cX3_isTurned 68 = .ok (.getfield 13, 3) := by decide +kernel
theorem dX3_isTurned_71 : decode cX3_isTurned 71 = .ok (.iload_n 2, 1) := by decide +kernel
theorem dX3_isTurned_72 : decode cX3_isTurned 72 = .ok (.bipush 7, 2) := by decide +kernel
theorem dX3_isTurned_74 : decode cX3_isTurned 74 = .ok (.invokevirtual 39, 3) := by decide +kernel
theorem dX3_isTurned_77 : decode cX3_isTurned 77 = .ok (.if_icmp .ne 7, 3) := by decide +kernel
theorem dX3_isTurned_80 : decode cX3_isTurned 80 = .ok (.iconst 1, 1) := by decide +kernel
theorem dX3_isTurned_81 : decode cX3_isTurned 81 = .ok (.goto 4, 3) := by decide +kernel
theorem dX3_isTurned_84 : decode cX3_isTurned 84 = .ok (.iconst 0, 1) := by decide +kernel
theorem dX3_isTurned_85 : decode cX3_isTurned 85 = .ok (.ireturn, 1) := by decide +kernel
theorem dX3_symmetry_0 : decode cX3_symmetry 0 = .ok (.aload_n 0, 1) := by decide +kernel
theorem dX3_symmetry_1 : decode cX3_symmetry 1 = .ok (.iconst 0, 1) := by decide +kernel
theorem dX3_symmetry_2 : decode cX3_symmetry 2 = .ok (.putfield 28, 3) := by decide +kernel
theorem dX3_symmetry_5 : decode cX3_symmetry 5 = .ok (.iconst 1, 1) := by decide +kernel
theorem dX3_symmetry_6 : decode cX3_symmetry 6 = .ok (.istore_n 1, 1) := by decide +kernel
theorem dX3_symmetry_7 : decode cX3_symmetry 7 = .ok (.iconst 1, 1) := by decide +kernel
theorem dX3_symmetry_8 : decode cX3_symmetry 8 = .ok (.istore_n 2, 1) := by decide +kernel
theorem dX3_symmetry_9 : decode cX3_symmetry 9 = .ok (.bipush (-13), 2) := by decide +kernel
theorem dX3_symmetry_11 : decode cX3_symmetry 11 = .ok (.istore_n 3, 1) := by decide +kernel
theorem dX3_symmetry_12 : decode cX3_symmetry 12 = .ok (.iload_n 3, 1) := by decide +kernel
theorem dX3_symmetry_13 : decode cX3_symmetry 13 = .ok (.bipush 14, 2) := by decide +kernel
theorem dX3_symmetry_15 : decode cX3_symmetry 15 = .ok (.if_icmp .ge 67, 3) := by decide +kernel
theorem dX3_symmetry_18 : decode cX3_symmetry 18 = .ok (.iload_n 1, 1) := by decide +kernel
theorem dX3_symmetry_19 : decode cX3_symmetry 19 = .ok (.ifCond .eq 26, 3) := by decide +kernel
theorem dX3_symmetry_22 : decode cX3_symmetry 22 = .ok (.aload_n 0, 1) := by decide +kernel
theorem dX3_symmetry_23 : decode cX3_symmetry 23 = .ok (.aload_n 0, 1) := by decide +kernel
theorem dX3_symmetry_24 : decode cX3_symmetry 24 = .ok (.iload_n 3, 1) := by decide +kernel
theorem dX3_symmetry_25 : decode cX3_symmetry 25 = .ok (.invokevirtual 91, 3) := by decide +kernel
theorem dX3_symmetry_28 : decode cX3_symmetry 28 = .ok (.aload_n 0, 1) := by decide +kernel
theorem dX3_symmetry_29 : decode cX3_symmetry 29 = .ok (.iload_n 3, 1) := by decide +kernel
theorem dX3_symmetry_30 : decode cX3_symmetry 30 = .ok (.ineg, 1) := by decide +kernel
theorem dX3_symmetry_31 : decode cX3_symmetry 31 = .ok (.invokevirtual 91, 3) := by decide +kernel
theorem dX3_symmetry_34 : decode cX3_symmetry 34 = .ok (.iconst 1, 1) := by decide +kernel
theorem dX3_symmetry_35 : decode cX3_symmetry 35 = .ok (.invokevirtual 94, 3) := by decide +kernel
theorem dX3_symmetry_38 : decode cX3_symmetry 38 = .ok (.ifCond .eq 7, 3) := by decide +kernel
theorem dX3_symmetry_41 : decode cX3_symmetry 41 = .ok (.iconst 1, 1) := by decide +kernel
theorem dX3_symmetry_42 : decode cX3_symmetry 42 = .ok (.goto 4, 3) := by decide +kernel
theorem dX3_symmetry_45 : decode cX3_symmetry 45 = .ok (.iconst 0, 1) := by decide +kernel
theorem dX3_symmetry_46 : decode cX3_symmetry 46 = .ok (.istore_n 1, 1) := by decide +kernel
theorem dX3_symmetry_47 : decode cX3_symmetry 47 = .ok (.iload_n 2, 1) := by decide +kernel
theorem dX3_symmetry_48 : decode cX3_symmetry 48 = .ok (.ifCond .eq 26, 3) := by decide +kernel
theorem dX3_symmetry_51 : decode cX3_symmetry 51 = .ok (.aload_n 0, 1) := by decide +kernel
theorem dX3_symmetry_52 : decode cX3_symmetry 52 = .ok (.aload_n 0, 1) := by decide +kernel
theorem dX3_symmetry_53 : decode cX3_symmetry 53 = .ok (.iload_n 3, 1) := by decide +kernel
theorem dX3_symmetry_54 : decode cX3_symmetry 54 = .ok (.invokevirtual 91, 3) := by decide +kernel
theorem dX3_symmetry_57 : decode cX3_symmetry 57 = .ok (.aload_n 0, 1) := by decide +kernel
theorem dX3_symmetry_58 : decode cX3_symmetry 58 = .ok (.iload_n 3, 1) := by decide +kernel
theorem dX3_symmetry_59 : decode cX3_symmetry 59 = .ok (.ineg, 1) := by decide +kernel
theorem dX3_symmetry_60 : decode cX3_symmetry 60 = .ok (.invokevirtual 91, 3) := by decide +kernel
theorem dX3_symmetry_63 : decode cX3_symmetry 63 = .ok (.iconst (-1), 1) := by decide +kernel
theorem dX3_symmetry_64 : decode cX3_symmetry 64 = .ok (.invokevirtual 94, 3) := by decide +kernel
theorem dX3_symmetry_67 : decode cX3_symmetry 67 = .ok (.ifCond .eq 7, 3) := by decide +kernel
theorem dX3_symmetry_70 : decode cX3_symmetry 70 = .ok (.iconst 1, 1) := by decide +kernel
theorem dX3_symmetry_71 : decode cX3_symmetry 71 = .ok (.goto 4, 3) := by decide +kernel
theorem dX3_symmetry_74 : decode cX3_symmetry 74 = .ok (.iconst 0, 1) := by decide +kernel
theorem dX3_symmetry_75 : decode cX3_symmetry 75 = .ok (.istore_n 2, 1) := by decide +kernel
theorem dX3_symmetry_76 : decode cX3_symmetry 76 = .ok (.iinc 3 2, 3) := by decide +kernel
theorem dX3_symmetry_79 : decode cX3_symmetry 79 = .ok (.goto (-67), 3) := by decide +kernel
theorem dX3_symmetry_82 : decode cX3_symmetry 82 = .ok (.iload_n 1, 1) := by decide +kernel
theorem dX3_symmetry_83 : decode cX3_symmetry 83 = .ok (.ifCond .eq 11, 3) := by decide +kernel
theorem dX3_symmetry_86 : decode cX3_symmetry 86 = .ok (.iload_n 2, 1) := by decide +kernel
theorem dX3_symmetry_87 : decode cX3_symmetry 87 = .ok (.ifCond .eq 7, 3) := by decide +kernel
theorem dX3_symmetry_90 : decode cX3_symmetry 90 = .ok (.iconst 2, 1) := by decide +kernel
theorem dX3_symmetry_91 : decode cX3_symmetry 91 = .ok (.goto 20, 3) := by decide +kernel
theorem dX3_symmetry_94 : decode cX3_symmetry 94 = .ok (.iload_n 1, 1) := by decide +kernel
theorem dX3_symmetry_95 : decode cX3_symmetry 95 = .ok (.ifCond .eq 7, 3) := by decide +kernel
theorem dX3_symmetry_98 : decode cX3_symmetry 98 = .ok (.iconst 1, 1) := by decide +kernel
theorem dX3_symmetry_99 : decode cX3_symmetry 99 = .ok (.goto 12, 3) := by decide +kernel
theorem dX3_symmetry_102 : decode cX3_symmetry 102 = .ok (.iload_n 2, 1) := by decide +kernel
theorem dX3_symmetry_103 : decode cX3_symmetry 103 = .ok (.ifCond .eq 7, 3) := by decide +kernel
theorem dX3_symmetry_106 : decode cX3_symmetry 106 = .ok (.iconst (-1), 1) := by decide +kernel
theorem dX3_symmetry_107 : decode cX3_symmetry 107 = .ok (.goto 4, 3) := by decide +kernel
theorem dX3_symmetry_110 : decode cX3_symmetry 110 = .ok (.iconst 0, 1) := by decide +kernel
theorem dX3_symmetry_111 : decode cX3_symmetry 111 = .ok (.ireturn, 1) := by decide +kernel
end
section
abbrev cL_law : ByteArray := code
theorem dL_cut_0 : decode cL_cut 0 = .ok (.aload_n 2, 1) := by decide +kernel
theorem dL_cut_1 : decode cL_cut 1 = .ok (.iconst 0, 1) := by decide +kernel
theorem dL_cut_2 : decode cL_cut 2 = .ok (.aload_n 0, 1) := by decide +kernel
theorem dL_cut_3 : decode cL_cut 3 = .ok (.iload_n 1, 1) := by decide +kernel
theorem dL_cut_4 : decode cL_cut 4 = .ok (.invokevirtual 7, 3) := by decide +kernel
theorem dL_cut_7 : decode cL_cut 7 = .ok (.i2l, 1) := by decide +kernel
theorem dL_cut_8 : decode cL_cut 8 = .ok (.lastore, 1) := by decide +kernel
theorem dL_cut_9 : decode cL_cut 9 = .ok (.goto 9, 3) := by decide +kernel
theorem dL_cut_12 : decode cL_cut 12 = .ok (.astore_n 3, 1) := by decide +kernel
theorem dL_cut_13 : decode cL_cut 13 = .ok (.iconst 1, 1) := by decide +kernel
theorem dL_cut_14 : decode cL_cut 14 = .ok (.ireturn, 1) := by decide +kernel
theorem dL_cut_15 : decode cL_cut 15 = .ok (.astore_n 3, 1) := by decide +kernel
theorem dL_cut_16 : decode cL_cut 16 = .ok (.iconst 2, 1) := by decide +kernel
theorem dL_cut_17 : decode cL_cut 17 = .ok (.ireturn, 1) := by decide +kernel
theorem dL_cut_18 : decode cL_cut 18 = .ok (.iconst 0, 1) := by decide +kernel
theorem dL_cut_19 : decode cL_cut 19 = .ok (.ireturn, 1) := by decide +kernel
theorem dL_join_0 : decode cL_join 0 = .ok (.aload_n 0, 1) := by decide +kernel
theorem dL_join_1 : decode cL_join 1 = .ok (.iload_n 1, 1) := by decide +kernel
theorem dL_join_2 : decode cL_join 2 = .ok (.invokevirtual 17, 3) := by decide +kernel
theorem dL_join_5 : decode cL_join 5 = .ok (.goto 6, 3) := by decide +kernel
theorem dL_join_8 : decode cL_join 8 = .ok (.astore_n 2, 1) := by decide +kernel
theorem dL_join_9 : decode cL_join 9 = .ok (.iconst 1, 1) := by decide +kernel
theorem dL_join_10 : decode cL_join 10 = .ok (.ireturn, 1) := by decide +kernel
theorem dL_join_11 : decode cL_join 11 = .ok (.iconst 0, 1) := by decide +kernel
theorem dL_join_12 : decode cL_join 12 = .ok (.ireturn, 1) := by decide +kernel
theorem dL_put_0 : decode cL_put 0 = .ok (.aload 4, 2) := by decide +kernel
theorem dL_put_2 : decode cL_put 2 = .ok (.iconst 0, 1) := by decide +kernel
theorem dL_put_3 : decode cL_put 3 = .ok (.aload_n 0, 1) := by decide +kernel
theorem dL_put_4 : decode cL_put 4 = .ok (.iload_n 1, 1) := by decide +kernel
theorem dL_put_5 : decode cL_put 5 = .ok (.iload_n 2, 1) := by decide +kernel
theorem dL_put_6 : decode cL_put 6 = .ok (.iload_n 3, 1) := by decide +kernel
theorem dL_put_7 : decode cL_put 7 = .ok (.invokevirtual 23, 3) := by decide +kernel
theorem dL_put_10 : decode cL_put 10 = .ok (.ifCond .eq 7, 3) := by decide +kernel
theorem dL_put_13 : decode cL_put 13 = .ok (.lconst 1, 1) := by decide +kernel
theorem dL_put_14 : decode cL_put 14 = .ok (.goto 4, 3) := by decide +kernel
theorem dL_put_17 : decode cL_put 17 = .ok (.lconst 0, 1) := by decide +kernel
theorem dL_put_18 : decode cL_put 18 = .ok (.lastore, 1) := by decide +kernel
theorem dL_put_19 : decode cL_put 19 = .ok (.goto 11, 3) := by decide +kernel
theorem dL_put_22 : decode cL_put 22 = .ok (.astore 5, 2) := by decide +kernel
theorem dL_put_24 : decode cL_put 24 = .ok (.iconst 1, 1) := by decide +kernel
theorem dL_put_25 : decode cL_put 25 = .ok (.ireturn, 1) := by decide +kernel
theorem dL_put_26 : decode cL_put 26 = .ok (.astore 5, 2) := by decide +kernel
theorem dL_put_28 : decode cL_put 28 = .ok (.iconst 2, 1) := by decide +kernel
theorem dL_put_29 : decode cL_put 29 = .ok (.ireturn, 1) := by decide +kernel
theorem dL_put_30 : decode cL_put 30 = .ok (.iconst 0, 1) := by decide +kernel
theorem dL_put_31 : decode cL_put 31 = .ok (.ireturn, 1) := by decide +kernel
theorem dL_at_0 : decode cL_at 0 = .ok (.aload_n 3, 1) := by decide +kernel
theorem dL_at_1 : decode cL_at 1 = .ok (.iconst 0, 1) := by decide +kernel
theorem dL_at_2 : decode cL_at 2 = .ok (.aload_n 0, 1) := by decide +kernel
theorem dL_at_3 : decode cL_at 3 = .ok (.iload_n 1, 1) := by decide +kernel
theorem dL_at_4 : decode cL_at 4 = .ok (.iload_n 2, 1) := by decide +kernel
theorem dL_at_5 : decode cL_at 5 = .ok (.invokevirtual 27, 3) := by decide +kernel
theorem dL_at_8 : decode cL_at 8 = .ok (.i2l, 1) := by decide +kernel
theorem dL_at_9 : decode cL_at 9 = .ok (.lastore, 1) := by decide +kernel
theorem dL_at_10 : decode cL_at 10 = .ok (.goto 11, 3) := by decide +kernel
theorem dL_at_13 : decode cL_at 13 = .ok (.astore 4, 2) := by decide +kernel
theorem dL_at_15 : decode cL_at 15 = .ok (.iconst 1, 1) := by decide +kernel
theorem dL_at_16 : decode cL_at 16 = .ok (.ireturn, 1) := by decide +kernel
theorem dL_at_17 : decode cL_at 17 = .ok (.astore 4, 2) := by decide +kernel
theorem dL_at_19 : decode cL_at 19 = .ok (.iconst 2, 1) := by decide +kernel
theorem dL_at_20 : decode cL_at 20 = .ok (.ireturn, 1) := by decide +kernel
theorem dL_at_21 : decode cL_at 21 = .ok (.iconst 0, 1) := by decide +kernel
theorem dL_at_22 : decode cL_at 22 = .ok (.ireturn, 1) := by decide +kernel
theorem dL_place_0 : decode cL_place 0 = .ok (.aload_n 2, 1) := by decide +kernel
theorem dL_place_1 : decode cL_place 1 = .ok (.iconst 0, 1) := by decide +kernel
theorem dL_place_2 : decode cL_place 2 = .ok (.aload_n 0, 1) := by decide +kernel
theorem dL_place_3 : decode cL_place 3 = .ok (.iload_n 1, 1) := by decide +kernel
theorem dL_place_4 : decode cL_place 4 = .ok (.invokevirtual 31, 3) := by decide +kernel
theorem dL_place_7 : decode cL_place 7 = .ok (.i2l, 1) := by decide +kernel
theorem dL_place_8 : decode cL_place 8 = .ok (.lastore, 1) := by decide +kernel
theorem dL_place_9 : decode cL_place 9 = .ok (.goto 6, 3) := by decide +kernel
theorem dL_place_12 : decode cL_place 12 = .ok (.astore_n 3, 1) := by decide +kernel
theorem dL_place_13 : decode cL_place 13 = .ok (.iconst 1, 1) := by decide +kernel
theorem dL_place_14 : decode cL_place 14 = .ok (.ireturn, 1) := by decide +kernel
theorem dL_place_15 : decode cL_place 15 = .ok (.iconst 0, 1) := by decide +kernel
theorem dL_place_16 : decode cL_place 16 = .ok (.ireturn, 1) := by decide +kernel
theorem dL_value_0 : decode cL_value 0 = .ok (.aload_n 3, 1) := by decide +kernel
theorem dL_value_1 : decode cL_value 1 = .ok (.iconst 0, 1) := by decide +kernel
theorem dL_value_2 : decode cL_value 2 = .ok (.aload_n 0, 1) := by decide +kernel
theorem dL_value_3 : decode cL_value 3 = .ok (.iload_n 1, 1) := by decide +kernel
theorem dL_value_4 : decode cL_value 4 = .ok (.iload_n 2, 1) := by decide +kernel
theorem dL_value_5 : decode cL_value 5 = .ok (.invokevirtual 34, 3) := by decide +kernel
theorem dL_value_8 : decode cL_value 8 = .ok (.lastore, 1) := by decide +kernel
theorem dL_value_9 : decode cL_value 9 = .ok (.goto 11, 3) := by decide +kernel
theorem dL_value_12 : decode cL_value 12 = .ok (.astore 4, 2) := by decide +kernel
theorem dL_value_14 : decode cL_value 14 = .ok (.iconst 1, 1) := by decide +kernel
theorem dL_value_15 : decode cL_value 15 = .ok (.ireturn, 1) := by decide +kernel
theorem dL_value_16 : decode cL_value 16 = .ok (.astore 4, 2) := by decide +kernel
theorem dL_value_18 : decode cL_value 18 = .ok (.iconst 2, 1) := by decide +kernel
theorem dL_value_19 : decode cL_value 19 = .ok (.ireturn, 1) := by decide +kernel
theorem dL_value_20 : decode cL_value 20 = .ok (.iconst 0, 1) := by decide +kernel
theorem dL_value_21 : decode cL_value 21 = .ok (.ireturn, 1) := by decide +kernel
theorem dL_integral_0 : decode cL_integral 0 = .ok (.aload_n 3, 1) := by decide +kernel
theorem dL_integral_1 : decode cL_integral 1 = .ok (.iconst 0, 1) := by decide +kernel
theorem dL_integral_2 : decode cL_integral 2 = .ok (.aload_n 0, 1) := by decide +kernel
theorem dL_integral_3 : decode cL_integral 3 = .ok (.iload_n 1, 1) := by decide +kernel
theorem dL_integral_4 : decode cL_integral 4 = .ok (.iload_n 2, 1) := by decide +kernel
theorem dL_integral_5 : decode cL_integral 5 = .ok (.invokevirtual 38, 3) := by decide +kernel
theorem dL_integral_8 : decode cL_integral 8 = .ok (.ifCond .eq 7, 3) := by decide +kernel
theorem dL_integral_11 : decode cL_integral 11 = .ok (.lconst 1, 1) := by decide +kernel
theorem dL_integral_12 : decode cL_integral 12 = .ok (.goto 4, 3) := by decide +kernel
theorem dL_integral_15 : decode cL_integral 15 = .ok (.lconst 0, 1) := by decide +kernel
theorem dL_integral_16 : decode cL_integral 16 = .ok (.lastore, 1) := by decide +kernel
theorem dL_integral_17 : decode cL_integral 17 = .ok (.goto 7, 3) := by decide +kernel
theorem dL_integral_20 : decode cL_integral 20 = .ok (.astore 4, 2) := by decide +kernel
theorem dL_integral_22 : decode cL_integral 22 = .ok (.iconst 1, 1) := by decide +kernel
theorem dL_integral_23 : decode cL_integral 23 = .ok (.ireturn, 1) := by decide +kernel
theorem dL_integral_24 : decode cL_integral 24 = .ok (.iconst 0, 1) := by decide +kernel
theorem dL_integral_25 : decode cL_integral 25 = .ok (.ireturn, 1) := by decide +kernel
theorem dL_fraction_0 : decode cL_fraction 0 = .ok (.aload_n 2, 1) := by decide +kernel
theorem dL_fraction_1 : decode cL_fraction 1 = .ok (.iconst 0, 1) := by decide +kernel
theorem dL_fraction_2 : decode cL_fraction 2 = .ok (.aload_n 0, 1) := by decide +kernel
theorem dL_fraction_3 : decode cL_fraction 3 = .ok (.iload_n 1, 1) := by decide +kernel
theorem dL_fraction_4 : decode cL_fraction 4 = .ok (.invokevirtual 42, 3) := by decide +kernel
theorem dL_fraction_7 : decode cL_fraction 7 = .ok (.lastore, 1) := by decide +kernel
theorem dL_fraction_8 : decode cL_fraction 8 = .ok (.goto 9, 3) := by decide +kernel
theorem dL_fraction_11 : decode cL_fraction 11 = .ok (.astore_n 3, 1) := by decide +kernel
theorem dL_fraction_12 : decode cL_fraction 12 = .ok (.iconst 1, 1) := by decide +kernel
theorem dL_fraction_13 : decode cL_fraction 13 = .ok (.ireturn, 1) := by decide +kernel
theorem dL_fraction_14 : decode cL_fraction 14 = .ok (.astore_n 3, 1) := by decide +kernel
theorem dL_fraction_15 : decode cL_fraction 15 = .ok (.iconst 2, 1) := by decide +kernel
theorem dL_fraction_16 : decode cL_fraction 16 = .ok (.ireturn, 1) := by decide +kernel
theorem dL_fraction_17 : decode cL_fraction 17 = .ok (.iconst 0, 1) := by decide +kernel
theorem dL_fraction_18 : decode cL_fraction 18 = .ok (.ireturn, 1) := by decide +kernel
theorem dL_logarithm_0 : decode cL_logarithm 0 = .ok (.aload_n 2, 1) := by decide +kernel
theorem dL_logarithm_1 : decode cL_logarithm 1 = .ok (.iconst 0, 1) := by decide +kernel
theorem dL_logarithm_2 : decode cL_logarithm 2 = .ok (.aload_n 0, 1) := by decide +kernel
theorem dL_logarithm_3 : decode cL_logarithm 3 = .ok (.iload_n 1, 1) := by decide +kernel
theorem dL_logarithm_4 : decode cL_logarithm 4 = .ok (.invokevirtual 46, 3) := by decide +kernel
theorem dL_logarithm_7 : decode cL_logarithm 7 = .ok (.i2l, 1) := by decide +kernel
theorem dL_logarithm_8 : decode cL_logarithm 8 = .ok (.lastore, 1) := by decide +kernel
theorem dL_logarithm_9 : decode cL_logarithm 9 = .ok (.goto 9, 3) := by decide +kernel
theorem dL_logarithm_12 : decode cL_logarithm 12 = .ok (.astore_n 3, 1) := by decide +kernel
theorem dL_logarithm_13 : decode cL_logarithm 13 = .ok (.iconst 1, 1) := by decide +kernel
theorem dL_logarithm_14 : decode cL_logarithm 14 = .ok (.ireturn, 1) := by decide +kernel
theorem dL_logarithm_15 : decode cL_logarithm 15 = .ok (.astore_n 3, 1) := by decide +kernel
theorem dL_logarithm_16 : decode cL_logarithm 16 = .ok (.iconst 2, 1) := by decide +kernel
theorem dL_logarithm_17 : decode cL_logarithm 17 = .ok (.ireturn, 1) := by decide +kernel
theorem dL_logarithm_18 : decode cL_logarithm 18 = .ok (.iconst 0, 1) := by decide +kernel
theorem dL_logarithm_19 : decode cL_logarithm 19 = .ok (.ireturn, 1) := by decide +kernel
theorem dL_law_0 : decode cL_law 0 = .ok (.new 8, 3) := by decide +kernel
theorem dL_law_3 : decode cL_law 3 = .ok (.dup, 1) := by decide +kernel
theorem dL_law_4 : decode cL_law 4 = .ok (.invokespecial 49, 3) := by decide +kernel
theorem dL_law_7 : decode cL_law 7 = .ok (.astore_n 1, 1) := by decide +kernel
theorem dL_law_8 : decode cL_law 8 = .ok (.new 50, 3) := by decide +kernel
theorem dL_law_11 : decode cL_law 11 = .ok (.dup, 1) := by decide +kernel
theorem dL_law_12 : decode cL_law 12 = .ok (.invokespecial 52, 3) := by decide +kernel
theorem dL_law_15 : decode cL_law 15 = .ok (.astore_n 2, 1) := by decide +kernel
theorem dL_law_16 : decode cL_law 16 = .ok (.iconst 1, 1) := by decide +kernel
theorem dL_law_17 : decode cL_law 17 = .ok (.newarray .long, 2) := by decide +kernel
theorem dL_law_19 : decode cL_law 19 = .ok (.astore_n 3, 1) := by decide +kernel
theorem dL_law_20 : decode cL_law 20 = .ok (.iconst 0, 1) := by decide +kernel
theorem dL_law_21 : decode cL_law 21 = .ok (.istore 4, 2) := by decide +kernel
theorem dL_law_23 : decode cL_law 23 = .ok (.iload 4, 2) := by decide +kernel
theorem dL_law_25 : decode cL_law 25 = .ok (.aload_n 0, 1) := by decide +kernel
theorem dL_law_26 : decode cL_law 26 = .ok (.arraylength, 1) := by decide +kernel
theorem dL_law_27 : decode cL_law 27 = .ok (.iconst 4, 1) := by decide +kernel
theorem dL_law_28 : decode cL_law 28 = .ok (.isub, 1) := by decide +kernel
theorem dL_law_29 : decode cL_law 29 = .ok (.if_icmp .gt 685, 3) := by decide +kernel
theorem dL_law_32 : decode cL_law 32 = .ok (.aload_n 0, 1) := by decide +kernel
theorem dL_law_33 : decode cL_law 33 = .ok (.iload 4, 2) := by decide +kernel
theorem dL_law_35 : decode cL_law 35 = .ok (.iaload, 1) := by decide +kernel
theorem dL_law_36 : decode cL_law 36 = .ok (.bipush 15, 2) := by decide +kernel
theorem dL_law_38 : decode cL_law 38 = .ok (.iand, 1) := by decide +kernel
theorem dL_law_39 : decode cL_law 39 = .ok (.tableswitch 669 0 12 #[65, 121, 157, 244, 312, 368, 379, 446, 521, 576, 632, 645, 658], 65) := by decide +kernel
theorem dL_law_104 : decode cL_law 104 = .ok (.aload_n 1, 1) := by decide +kernel
theorem dL_law_105 : decode cL_law 105 = .ok (.aload_n 0, 1) := by decide +kernel
theorem dL_law_106 : decode cL_law 106 = .ok (.iload 4, 2) := by decide +kernel
theorem dL_law_108 : decode cL_law 108 = .ok (.iconst 1, 1) := by decide +kernel
theorem dL_law_109 : decode cL_law 109 = .ok (.iadd, 1) := by decide +kernel
theorem dL_law_110 : decode cL_law 110 = .ok (.iaload, 1) := by decide +kernel
theorem dL_law_111 : decode cL_law 111 = .ok (.aload_n 3, 1) := by decide +kernel
theorem dL_law_112 : decode cL_law 112 = .ok (.invokestatic 53, 3) := by decide +kernel
theorem dL_law_115 : decode cL_law 115 = .ok (.istore 5, 2) := by decide +kernel
theorem dL_law_117 : decode cL_law 117 = .ok (.aload_n 2, 1) := by decide +kernel
theorem dL_law_118 : decode cL_law 118 = .ok (.aload_n 0, 1) := by decide +kernel
theorem dL_law_119 : decode cL_law 119 = .ok (.iload 4, 2) := by decide +kernel
theorem dL_law_121 : decode cL_law 121 = .ok (.iconst 1, 1) := by decide +kernel
theorem dL_law_122 : decode cL_law 122 = .ok (.iadd, 1) := by decide +kernel
theorem dL_law_123 : decode cL_law 123 = .ok (.iaload, 1) := by decide +kernel
theorem dL_law_124 : decode cL_law 124 = .ok (.invokevirtual 58, 3) := by decide +kernel
theorem dL_law_127 : decode cL_law 127 = .ok (.istore 6, 2) := by decide +kernel
theorem dL_law_129 : decode cL_law 129 = .ok (.aload_n 2, 1) := by decide +kernel
theorem dL_law_130 : decode cL_law 130 = .ok (.invokevirtual 59, 3) := by decide +kernel
theorem dL_law_133 : decode cL_law 133 = .ok (.iload 5, 2) := by decide +kernel
theorem dL_law_135 : decode cL_law 135 = .ok (.if_icmp .eq 5, 3) := by decide +kernel
theorem dL_law_138 : decode cL_law 138 = .ok (.iconst 0, 1) := by decide +kernel
theorem dL_law_139 : decode cL_law 139 = .ok (.ireturn, 1) := by decide +kernel
theorem dL_law_140 : decode cL_law 140 = .ok (.iload 5, 2) := by decide +kernel
theorem dL_law_142 : decode cL_law 142 = .ok (.ifCond .ne 15, 3) := by decide +kernel
theorem dL_law_145 : decode cL_law 145 = .ok (.aload_n 3, 1) := by decide +kernel
theorem dL_law_146 : decode cL_law 146 = .ok (.iconst 0, 1) := by decide +kernel
theorem dL_law_147 : decode cL_law 147 = .ok (.laload, 1) := by decide +kernel
theorem dL_law_148 : decode cL_law 148 = .ok (.iload 6, 2) := by decide +kernel
theorem dL_law_150 : decode cL_law 150 = .ok (.i2l, 1) := by decide +kernel
theorem dL_law_151 : decode cL_law 151 = .ok (.lcmp, 1) := by decide +kernel
theorem dL_law_152 : decode cL_law 152 = .ok (.ifCond .eq 5, 3) := by decide +kernel
theorem dL_law_155 : decode cL_law 155 = .ok (.iconst 0, 1) := by decide +kernel
theorem dL_law_156 : decode cL_law 156 = .ok (.ireturn, 1) := by decide +kernel
theorem dL_law_157 : decode cL_law 157 = .ok (.goto 551, 3) := by decide +kernel
theorem dL_law_160 : decode cL_law 160 = .ok (.aload_n 1, 1) := by decide +kernel
theorem dL_law_161 : decode cL_law 161 = .ok (.aload_n 0, 1) := by decide +kernel
theorem dL_law_162 : decode cL_law 162 = .ok (.iload 4, 2) := by decide +kernel
theorem dL_law_164 : decode cL_law 164 = .ok (.iconst 1, 1) := by decide +kernel
theorem dL_law_165 : decode cL_law 165 = .ok (.iadd, 1) := by decide +kernel
theorem dL_law_166 : decode cL_law 166 = .ok (.iaload, 1) := by decide +kernel
theorem dL_law_167 : decode cL_law 167 = .ok (.invokestatic 63, 3) := by decide +kernel
theorem dL_law_170 : decode cL_law 170 = .ok (.istore 5, 2) := by decide +kernel
theorem dL_law_172 : decode cL_law 172 = .ok (.aload_n 2, 1) := by decide +kernel
theorem dL_law_173 : decode cL_law 173 = .ok (.aload_n 0, 1) := by decide +kernel
theorem dL_law_174 : decode cL_law 174 = .ok (.iload 4, 2) := by decide +kernel
theorem dL_law_176 : decode cL_law 176 = .ok (.iconst 1, 1) := by decide +kernel
theorem dL_law_177 : decode cL_law 177 = .ok (.iadd, 1) := by decide +kernel
theorem dL_law_178 : decode cL_law 178 = .ok (.iaload, 1) := by decide +kernel
theorem dL_law_179 : decode cL_law 179 = .ok (.invokevirtual 66, 3) := by decide +kernel
theorem dL_law_182 : decode cL_law 182 = .ok (.aload_n 2, 1) := by decide +kernel
theorem dL_law_183 : decode cL_law 183 = .ok (.invokevirtual 59, 3) := by decide +kernel
theorem dL_law_186 : decode cL_law 186 = .ok (.iload 5, 2) := by decide +kernel
theorem dL_law_188 : decode cL_law 188 = .ok (.if_icmp .eq 5, 3) := by decide +kernel
theorem dL_law_191 : decode cL_law 191 = .ok (.iconst 0, 1) := by decide +kernel
theorem dL_law_192 : decode cL_law 192 = .ok (.ireturn, 1) := by decide +kernel
theorem dL_law_193 : decode cL_law 193 = .ok (.goto 515, 3) := by decide +kernel
theorem dL_law_196 : decode cL_law 196 = .ok (.aload_n 1, 1) := by decide +kernel
theorem dL_law_197 : decode cL_law 197 = .ok (.aload_n 0, 1) := by decide +kernel
theorem dL_law_198 : decode cL_law 198 = .ok (.iload 4, 2) := by decide +kernel
theorem dL_law_200 : decode cL_law 200 = .ok (.iconst 1, 1) := by decide +kernel
theorem dL_law_201 : decode cL_law 201 = .ok (.iadd, 1) := by decide +kernel
theorem dL_law_202 : decode cL_law 202 = .ok (.iaload, 1) := by decide +kernel
theorem dL_law_203 : decode cL_law 203 = .ok (.aload_n 0, 1) := by decide +kernel
theorem dL_law_204 : decode cL_law 204 = .ok (.iload 4, 2) := by decide +kernel
theorem dL_law_206 : decode cL_law 206 = .ok (.iconst 2, 1) := by decide +kernel
theorem dL_law_207 : decode cL_law 207 = .ok (.iadd, 1) := by decide +kernel
theorem dL_law_208 : decode cL_law 208 = .ok (.iaload, 1) := by decide +kernel
theorem dL_law_209 : decode cL_law 209 = .ok (.aload_n 0, 1) := by decide +kernel
theorem dL_law_210 : decode cL_law 210 = .ok (.iload 4, 2) := by decide +kernel
theorem dL_law_212 : decode cL_law 212 = .ok (.iconst 3, 1) := by decide +kernel
theorem dL_law_213 : decode cL_law 213 = .ok (.iadd, 1) := by decide +kernel
theorem dL_law_214 : decode cL_law 214 = .ok (.iaload, 1) := by decide +kernel
theorem dL_law_215 : decode cL_law 215 = .ok (.aload_n 3, 1) := by decide +kernel
theorem dL_law_216 : decode cL_law 216 = .ok (.invokestatic 67, 3) := by decide +kernel
theorem dL_law_219 : decode cL_law 219 = .ok (.istore 5, 2) := by decide +kernel
theorem dL_law_221 : decode cL_law 221 = .ok (.aload_n 2, 1) := by decide +kernel
theorem dL_law_222 : decode cL_law 222 = .ok (.aload_n 0, 1) := by decide +kernel
theorem dL_law_223 : decode cL_law 223 = .ok (.iload 4, 2) := by decide +kernel
theorem dL_law_225 : decode cL_law 225 = .ok (.iconst 1, 1) := by decide +kernel
theorem dL_law_226 : decode cL_law 226 = .ok (.iadd, 1) := by decide +kernel
theorem dL_law_227 : decode cL_law 227 = .ok (.iaload, 1) := by decide +kernel
theorem dL_law_228 : decode cL_law 228 = .ok (.aload_n 0, 1) := by decide +kernel
theorem dL_law_229 : decode cL_law 229 = .ok (.iload 4, 2) := by decide +kernel
theorem dL_law_231 : decode cL_law 231 = .ok (.iconst 2, 1) := by decide +kernel
theorem dL_law_232 : decode cL_law 232 = .ok (.iadd, 1) := by decide +kernel
theorem dL_law_233 : decode cL_law 233 = .ok (.iaload, 1) := by decide +kernel
theorem dL_law_234 : decode cL_law 234 = .ok (.aload_n 0, 1) := by decide +kernel
theorem dL_law_235 : decode cL_law 235 = .ok (.iload 4, 2) := by decide +kernel
theorem dL_law_237 : decode cL_law 237 = .ok (.iconst 3, 1) := by decide +kernel
theorem dL_law_238 : decode cL_law 238 = .ok (.iadd, 1) := by decide +kernel
theorem dL_law_239 : decode cL_law 239 = .ok (.iaload, 1) := by decide +kernel
theorem dL_law_240 : decode cL_law 240 = .ok (.invokevirtual 70, 3) := by decide +kernel
theorem dL_law_243 : decode cL_law 243 = .ok (.istore 6, 2) := by decide +kernel
theorem dL_law_245 : decode cL_law 245 = .ok (.aload_n 2, 1) := by decide +kernel
theorem dL_law_246 : decode cL_law 246 = .ok (.invokevirtual 59, 3) := by decide +kernel
theorem dL_law_249 : decode cL_law 249 = .ok (.iload 5, 2) := by decide +kernel
theorem dL_law_251 : decode cL_law 251 = .ok (.if_icmp .eq 5, 3) := by decide +kernel
theorem dL_law_254 : decode cL_law 254 = .ok (.iconst 0, 1) := by decide +kernel
theorem dL_law_255 : decode cL_law 255 = .ok (.ireturn, 1) := by decide +kernel
theorem dL_law_256 : decode cL_law 256 = .ok (.iload 5, 2) := by decide +kernel
theorem dL_law_258 : decode cL_law 258 = .ok (.ifCond .ne 22, 3) := by decide +kernel
theorem dL_law_261 : decode cL_law 261 = .ok (.aload_n 3, 1) := by decide +kernel
theorem dL_law_262 : decode cL_law 262 = .ok (.iconst 0, 1) := by decide +kernel
theorem dL_law_263 : decode cL_law 263 = .ok (.laload, 1) := by decide +kernel
theorem dL_law_264 : decode cL_law 264 = .ok (.iload 6, 2) := by decide +kernel
theorem dL_law_266 : decode cL_law 266 = .ok (.ifCond .eq 7, 3) := by decide +kernel
theorem dL_law_269 : decode cL_law 269 = .ok (.lconst 1, 1) := by decide +kernel
theorem dL_law_270 : decode cL_law 270 = .ok (.goto 4, 3) := by decide +kernel
theorem dL_law_273 : decode cL_law 273 = .ok (.lconst 0, 1) := by decide +kernel
theorem dL_law_274 : decode cL_law 274 = .ok (.lcmp, 1) := by decide +kernel
theorem dL_law_275 : decode cL_law 275 = .ok (.ifCond .eq 5, 3) := by decide +kernel
theorem dL_law_278 : decode cL_law 278 = .ok (.iconst 0, 1) := by decide +kernel
theorem dL_law_279 : decode cL_law 279 = .ok (.ireturn, 1) := by decide +kernel
theorem dL_law_280 : decode cL_law 280 = .ok (.goto 428, 3) := by decide +kernel
theorem dL_law_283 : decode cL_law 283 = .ok (.aload_n 1, 1) := by decide +kernel
theorem dL_law_284 : decode cL_law 284 = .ok (.aload_n 0, 1) := by decide +kernel
theorem dL_law_285 : decode cL_law 285 = .ok (.iload 4, 2) := by decide +kernel
theorem dL_law_287 : decode cL_law 287 = .ok (.iconst 1, 1) := by decide +kernel
theorem dL_law_288 : decode cL_law 288 = .ok (.iadd, 1) := by decide +kernel
theorem dL_law_289 : decode cL_law 289 = .ok (.iaload, 1) := by decide +kernel
theorem dL_law_290 : decode cL_law 290 = .ok (.aload_n 0, 1) := by decide +kernel
theorem dL_law_291 : decode cL_law 291 = .ok (.iload 4, 2) := by decide +kernel
theorem dL_law_293 : decode cL_law 293 = .ok (.iconst 2, 1) := by decide +kernel
theorem dL_law_294 : decode cL_law 294 = .ok (.iadd, 1) := by decide +kernel
theorem dL_law_295 : decode cL_law 295 = .ok (.iaload, 1) := by decide +kernel
theorem dL_law_296 : decode cL_law 296 = .ok (.aload_n 3, 1) := by decide +kernel
theorem dL_law_297 : decode cL_law 297 = .ok (.invokestatic 71, 3) := by decide +kernel
theorem dL_law_300 : decode cL_law 300 = .ok (.istore 5, 2) := by decide +kernel
theorem dL_law_302 : decode cL_law 302 = .ok (.aload_n 2, 1) := by decide +kernel
theorem dL_law_303 : decode cL_law 303 = .ok (.aload_n 0, 1) := by decide +kernel
theorem dL_law_304 : decode cL_law 304 = .ok (.iload 4, 2) := by decide +kernel
theorem dL_law_306 : decode cL_law 306 = .ok (.iconst 1, 1) := by decide +kernel
theorem dL_law_307 : decode cL_law 307 = .ok (.iadd, 1) := by decide +kernel
theorem dL_law_308 : decode cL_law 308 = .ok (.iaload, 1) := by decide +kernel
theorem dL_law_309 : decode cL_law 309 = .ok (.aload_n 0, 1) := by decide +kernel
theorem dL_law_310 : decode cL_law 310 = .ok (.iload 4, 2) := by decide +kernel
theorem dL_law_312 : decode cL_law 312 = .ok (.iconst 2, 1) := by decide +kernel
theorem dL_law_313 : decode cL_law 313 = .ok (.iadd, 1) := by decide +kernel
theorem dL_law_314 : decode cL_law 314 = .ok (.iaload, 1) := by decide +kernel
theorem dL_law_315 : decode cL_law 315 = .ok (.invokevirtual 74, 3) := by decide +kernel
theorem dL_law_318 : decode cL_law 318 = .ok (.istore 6, 2) := by decide +kernel
theorem dL_law_320 : decode cL_law 320 = .ok (.aload_n 2, 1) := by decide +kernel
theorem dL_law_321 : decode cL_law 321 = .ok (.invokevirtual 59, 3) := by decide +kernel
theorem dL_law_324 : decode cL_law 324 = .ok (.iload 5, 2) := by decide +kernel
theorem dL_law_326 : decode cL_law 326 = .ok (.if_icmp .eq 5, 3) := by decide +kernel
theorem dL_law_329 : decode cL_law 329 = .ok (.iconst 0, 1) := by decide +kernel
theorem dL_law_330 : decode cL_law 330 = .ok (.ireturn, 1) := by decide +kernel
theorem dL_law_331 : decode cL_law 331 = .ok (.iload 5, 2) := by decide +kernel
theorem dL_law_333 : decode cL_law 333 = .ok (.ifCond .ne 15, 3) := by decide +kernel
theorem dL_law_336 : decode cL_law 336 = .ok (.aload_n 3, 1) := by decide +kernel
theorem dL_law_337 : decode cL_law 337 = .ok (.iconst 0, 1) := by decide +kernel
theorem dL_law_338 : decode cL_law 338 = .ok (.laload, 1) := by decide +kernel
theorem dL_law_339 : decode cL_law 339 = .ok (.iload 6, 2) := by decide +kernel
theorem dL_law_341 : decode cL_law 341 = .ok (.i2l, 1) := by decide +kernel
theorem dL_law_342 : decode cL_law 342 = .ok (.lcmp, 1) := by decide +kernel
theorem dL_law_343 : decode cL_law 343 = .ok (.ifCond .eq 5, 3) := by decide +kernel
theorem dL_law_346 : decode cL_law 346 = .ok (.iconst 0, 1) := by decide +kernel
theorem dL_law_347 : decode cL_law 347 = .ok (.ireturn, 1) := by decide +kernel
theorem dL_law_348 : decode cL_law 348 = .ok (.goto 360, 3) := by decide +kernel
theorem dL_law_351 : decode cL_law 351 = .ok (.aload_n 1, 1) := by decide +kernel
theorem dL_law_352 : decode cL_law 352 = .ok (.aload_n 0, 1) := by decide +kernel
theorem dL_law_353 : decode cL_law 353 = .ok (.iload 4, 2) := by decide +kernel
theorem dL_law_355 : decode cL_law 355 = .ok (.iconst 1, 1) := by decide +kernel
theorem dL_law_356 : decode cL_law 356 = .ok (.iadd, 1) := by decide +kernel
theorem dL_law_357 : decode cL_law 357 = .ok (.iaload, 1) := by decide +kernel
theorem dL_law_358 : decode cL_law 358 = .ok (.aload_n 3, 1) := by decide +kernel
theorem dL_law_359 : decode cL_law 359 = .ok (.invokestatic 75, 3) := by decide +kernel
theorem dL_law_362 : decode cL_law 362 = .ok (.istore 5, 2) := by decide +kernel
theorem dL_law_364 : decode cL_law 364 = .ok (.aload_n 2, 1) := by decide +kernel
theorem dL_law_365 : decode cL_law 365 = .ok (.aload_n 0, 1) := by decide +kernel
theorem dL_law_366 : decode cL_law 366 = .ok (.iload 4, 2) := by decide +kernel
theorem dL_law_368 : decode cL_law 368 = .ok (.iconst 1, 1) := by decide +kernel
theorem dL_law_369 : decode cL_law 369 = .ok (.iadd, 1) := by decide +kernel
theorem dL_law_370 : decode cL_law 370 = .ok (.iaload, 1) := by decide +kernel
theorem dL_law_371 : decode cL_law 371 = .ok (.invokevirtual 77, 3) := by decide +kernel
theorem dL_law_374 : decode cL_law 374 = .ok (.istore 6, 2) := by decide +kernel
theorem dL_law_376 : decode cL_law 376 = .ok (.aload_n 2, 1) := by decide +kernel
theorem dL_law_377 : decode cL_law 377 = .ok (.invokevirtual 59, 3) := by decide +kernel
theorem dL_law_380 : decode cL_law 380 = .ok (.iload 5, 2) := by decide +kernel
theorem dL_law_382 : decode cL_law 382 = .ok (.if_icmp .eq 5, 3) := by decide +kernel
theorem dL_law_385 : decode cL_law 385 = .ok (.iconst 0, 1) := by decide +kernel
theorem dL_law_386 : decode cL_law 386 = .ok (.ireturn, 1) := by decide +kernel
theorem dL_law_387 : decode cL_law 387 = .ok (.iload 5, 2) := by decide +kernel
theorem dL_law_389 : decode cL_law 389 = .ok (.ifCond .ne 15, 3) := by decide +kernel
theorem dL_law_392 : decode cL_law 392 = .ok (.aload_n 3, 1) := by decide +kernel
theorem dL_law_393 : decode cL_law 393 = .ok (.iconst 0, 1) := by decide +kernel
theorem dL_law_394 : decode cL_law 394 = .ok (.laload, 1) := by decide +kernel
theorem dL_law_395 : decode cL_law 395 = .ok (.iload 6, 2) := by decide +kernel
theorem dL_law_397 : decode cL_law 397 = .ok (.i2l, 1) := by decide +kernel
theorem dL_law_398 : decode cL_law 398 = .ok (.lcmp, 1) := by decide +kernel
theorem dL_law_399 : decode cL_law 399 = .ok (.ifCond .eq 5, 3) := by decide +kernel
theorem dL_law_402 : decode cL_law 402 = .ok (.iconst 0, 1) := by decide +kernel
theorem dL_law_403 : decode cL_law 403 = .ok (.ireturn, 1) := by decide +kernel
theorem dL_law_404 : decode cL_law 404 = .ok (.goto 304, 3) := by decide +kernel
theorem dL_law_407 : decode cL_law 407 = .ok (.aload_n 1, 1) := by decide +kernel
theorem dL_law_408 : decode cL_law 408 = .ok (.invokevirtual 78, 3) := by decide +kernel
theorem dL_law_411 : decode cL_law 411 = .ok (.aload_n 2, 1) := by decide +kernel
theorem dL_law_412 : decode cL_law 412 = .ok (.invokevirtual 81, 3) := by decide +kernel
theorem dL_law_415 : decode cL_law 415 = .ok (.goto 293, 3) := by decide +kernel
theorem dL_law_418 : decode cL_law 418 = .ok (.aload_n 1, 1) := by decide +kernel
theorem dL_law_419 : decode cL_law 419 = .ok (.aload_n 0, 1) := by decide +kernel
theorem dL_law_420 : decode cL_law 420 = .ok (.iload 4, 2) := by decide +kernel
theorem dL_law_422 : decode cL_law 422 = .ok (.iconst 1, 1) := by decide +kernel
theorem dL_law_423 : decode cL_law 423 = .ok (.iadd, 1) := by decide +kernel
theorem dL_law_424 : decode cL_law 424 = .ok (.iaload, 1) := by decide +kernel
theorem dL_law_425 : decode cL_law 425 = .ok (.aload_n 0, 1) := by decide +kernel
theorem dL_law_426 : decode cL_law 426 = .ok (.iload 4, 2) := by decide +kernel
theorem dL_law_428 : decode cL_law 428 = .ok (.iconst 2, 1) := by decide +kernel
theorem dL_law_429 : decode cL_law 429 = .ok (.iadd, 1) := by decide +kernel
theorem dL_law_430 : decode cL_law 430 = .ok (.iaload, 1) := by decide +kernel
theorem dL_law_431 : decode cL_law 431 = .ok (.aload_n 3, 1) := by decide +kernel
theorem dL_law_432 : decode cL_law 432 = .ok (.invokestatic 82, 3) := by decide +kernel
theorem dL_law_435 : decode cL_law 435 = .ok (.istore 5, 2) := by decide +kernel
theorem dL_law_437 : decode cL_law 437 = .ok (.aload_n 2, 1) := by decide +kernel
theorem dL_law_438 : decode cL_law 438 = .ok (.aload_n 0, 1) := by decide +kernel
theorem dL_law_439 : decode cL_law 439 = .ok (.iload 4, 2) := by decide +kernel
theorem dL_law_441 : decode cL_law 441 = .ok (.iconst 1, 1) := by decide +kernel
theorem dL_law_442 : decode cL_law 442 = .ok (.iadd, 1) := by decide +kernel
theorem dL_law_443 : decode cL_law 443 = .ok (.iaload, 1) := by decide +kernel
theorem dL_law_444 : decode cL_law 444 = .ok (.aload_n 0, 1) := by decide +kernel
theorem dL_law_445 : decode cL_law 445 = .ok (.iload 4, 2) := by decide +kernel
theorem dL_law_447 : decode cL_law 447 = .ok (.iconst 2, 1) := by decide +kernel
theorem dL_law_448 : decode cL_law 448 = .ok (.iadd, 1) := by decide +kernel
theorem dL_law_449 : decode cL_law 449 = .ok (.iaload, 1) := by decide +kernel
theorem dL_law_450 : decode cL_law 450 = .ok (.invokevirtual 84, 3) := by decide +kernel
theorem dL_law_453 : decode cL_law 453 = .ok (.lstore 6, 2) := by decide +kernel
theorem dL_law_455 : decode cL_law 455 = .ok (.aload_n 2, 1) := by decide +kernel
theorem dL_law_456 : decode cL_law 456 = .ok (.invokevirtual 59, 3) := by decide +kernel
theorem dL_law_459 : decode cL_law 459 = .ok (.iload 5, 2) := by decide +kernel
theorem dL_law_461 : decode cL_law 461 = .ok (.if_icmp .eq 5, 3) := by decide +kernel
theorem dL_law_464 : decode cL_law 464 = .ok (.iconst 0, 1) := by decide +kernel
theorem dL_law_465 : decode cL_law 465 = .ok (.ireturn, 1) := by decide +kernel
theorem dL_law_466 : decode cL_law 466 = .ok (.iload 5, 2) := by decide +kernel
theorem dL_law_468 : decode cL_law 468 = .ok (.ifCond .ne 14, 3) := by decide +kernel
theorem dL_law_471 : decode cL_law 471 = .ok (.aload_n 3, 1) := by decide +kernel
theorem dL_law_472 : decode cL_law 472 = .ok (.iconst 0, 1) := by decide +kernel
theorem dL_law_473 : decode cL_law 473 = .ok (.laload, 1) := by decide +kernel
theorem dL_law_474 : decode cL_law 474 = .ok (.lload 6, 2) := by decide +kernel
theorem dL_law_476 : decode cL_law 476 = .ok (.lcmp, 1) := by decide +kernel
theorem dL_law_477 : decode cL_law 477 = .ok (.ifCond .eq 5, 3) := by decide +kernel
theorem dL_law_480 : decode cL_law 480 = .ok (.iconst 0, 1) := by decide +kernel
theorem dL_law_481 : decode cL_law 481 = .ok (.ireturn, 1) := by decide +kernel
theorem dL_law_482 : decode cL_law 482 = .ok (.goto 226, 3) := by decide +kernel
theorem dL_law_485 : decode cL_law 485 = .ok (.aload_n 1, 1) := by decide +kernel
theorem dL_law_486 : decode cL_law 486 = .ok (.aload_n 0, 1) := by decide +kernel
theorem dL_law_487 : decode cL_law 487 = .ok (.iload 4, 2) := by decide +kernel
theorem dL_law_489 : decode cL_law 489 = .ok (.iconst 1, 1) := by decide +kernel
theorem dL_law_490 : decode cL_law 490 = .ok (.iadd, 1) := by decide +kernel
theorem dL_law_491 : decode cL_law 491 = .ok (.iaload, 1) := by decide +kernel
theorem dL_law_492 : decode cL_law 492 = .ok (.aload_n 0, 1) := by decide +kernel
theorem dL_law_493 : decode cL_law 493 = .ok (.iload 4, 2) := by decide +kernel
theorem dL_law_495 : decode cL_law 495 = .ok (.iconst 2, 1) := by decide +kernel
theorem dL_law_496 : decode cL_law 496 = .ok (.iadd, 1) := by decide +kernel
theorem dL_law_497 : decode cL_law 497 = .ok (.iaload, 1) := by decide +kernel
theorem dL_law_498 : decode cL_law 498 = .ok (.aload_n 3, 1) := by decide +kernel
theorem dL_law_499 : decode cL_law 499 = .ok (.invokestatic 85, 3) := by decide +kernel
theorem dL_law_502 : decode cL_law 502 = .ok (.istore 5, 2) := by decide +kernel
theorem dL_law_504 : decode cL_law 504 = .ok (.aload_n 2, 1) := by decide +kernel
theorem dL_law_505 : decode cL_law 505 = .ok (.aload_n 0, 1) := by decide +kernel
theorem dL_law_506 : decode cL_law 506 = .ok (.iload 4, 2) := by decide +kernel
theorem dL_law_508 : decode cL_law 508 = .ok (.iconst 1, 1) := by decide +kernel
theorem dL_law_509 : decode cL_law 509 = .ok (.iadd, 1) := by decide +kernel
theorem dL_law_510 : decode cL_law 510 = .ok (.iaload, 1) := by decide +kernel
theorem dL_law_511 : decode cL_law 511 = .ok (.aload_n 0, 1) := by decide +kernel
theorem dL_law_512 : decode cL_law 512 = .ok (.iload 4, 2) := by decide +kernel
theorem dL_law_514 : decode cL_law 514 = .ok (.iconst 2, 1) := by decide +kernel
theorem dL_law_515 : decode cL_law 515 = .ok (.iadd, 1) := by decide +kernel
theorem dL_law_516 : decode cL_law 516 = .ok (.iaload, 1) := by decide +kernel
theorem dL_law_517 : decode cL_law 517 = .ok (.invokevirtual 87, 3) := by decide +kernel
theorem dL_law_520 : decode cL_law 520 = .ok (.istore 6, 2) := by decide +kernel
theorem dL_law_522 : decode cL_law 522 = .ok (.aload_n 2, 1) := by decide +kernel
theorem dL_law_523 : decode cL_law 523 = .ok (.invokevirtual 59, 3) := by decide +kernel
theorem dL_law_526 : decode cL_law 526 = .ok (.iload 5, 2) := by decide +kernel
theorem dL_law_528 : decode cL_law 528 = .ok (.if_icmp .eq 5, 3) := by decide +kernel
theorem dL_law_531 : decode cL_law 531 = .ok (.iconst 0, 1) := by decide +kernel
theorem dL_law_532 : decode cL_law 532 = .ok (.ireturn, 1) := by decide +kernel
theorem dL_law_533 : decode cL_law 533 = .ok (.iload 5, 2) := by decide +kernel
theorem dL_law_535 : decode cL_law 535 = .ok (.ifCond .ne 22, 3) := by decide +kernel
theorem dL_law_538 : decode cL_law 538 = .ok (.aload_n 3, 1) := by decide +kernel
theorem dL_law_539 : decode cL_law 539 = .ok (.iconst 0, 1) := by decide +kernel
theorem dL_law_540 : decode cL_law 540 = .ok (.laload, 1) := by decide +kernel
theorem dL_law_541 : decode cL_law 541 = .ok (.iload 6, 2) := by decide +kernel
theorem dL_law_543 : decode cL_law 543 = .ok (.ifCond .eq 7, 3) := by decide +kernel
theorem dL_law_546 : decode cL_law 546 = .ok (.lconst 1, 1) := by decide +kernel
theorem dL_law_547 : decode cL_law 547 = .ok (.goto 4, 3) := by decide +kernel
theorem dL_law_550 : decode cL_law 550 = .ok (.lconst 0, 1) := by decide +kernel
theorem dL_law_551 : decode cL_law 551 = .ok (.lcmp, 1) := by decide +kernel
theorem dL_law_552 : decode cL_law 552 = .ok (.ifCond .eq 5, 3) := by decide +kernel
theorem dL_law_555 : decode cL_law 555 = .ok (.iconst 0, 1) := by decide +kernel
theorem dL_law_556 : decode cL_law 556 = .ok (.ireturn, 1) := by decide +kernel
theorem dL_law_557 : decode cL_law 557 = .ok (.goto 151, 3) := by decide +kernel
theorem dL_law_560 : decode cL_law 560 = .ok (.aload_n 1, 1) := by decide +kernel
theorem dL_law_561 : decode cL_law 561 = .ok (.aload_n 0, 1) := by decide +kernel
theorem dL_law_562 : decode cL_law 562 = .ok (.iload 4, 2) := by decide +kernel
theorem dL_law_564 : decode cL_law 564 = .ok (.iconst 1, 1) := by decide +kernel
theorem dL_law_565 : decode cL_law 565 = .ok (.iadd, 1) := by decide +kernel
theorem dL_law_566 : decode cL_law 566 = .ok (.iaload, 1) := by decide +kernel
theorem dL_law_567 : decode cL_law 567 = .ok (.aload_n 3, 1) := by decide +kernel
theorem dL_law_568 : decode cL_law 568 = .ok (.invokestatic 88, 3) := by decide +kernel
theorem dL_law_571 : decode cL_law 571 = .ok (.istore 5, 2) := by decide +kernel
theorem dL_law_573 : decode cL_law 573 = .ok (.aload_n 2, 1) := by decide +kernel
theorem dL_law_574 : decode cL_law 574 = .ok (.aload_n 0, 1) := by decide +kernel
theorem dL_law_575 : decode cL_law 575 = .ok (.iload 4, 2) := by decide +kernel
theorem dL_law_577 : decode cL_law 577 = .ok (.iconst 1, 1) := by decide +kernel
theorem dL_law_578 : decode cL_law 578 = .ok (.iadd, 1) := by decide +kernel
theorem dL_law_579 : decode cL_law 579 = .ok (.iaload, 1) := by decide +kernel
theorem dL_law_580 : decode cL_law 580 = .ok (.invokevirtual 90, 3) := by decide +kernel
theorem dL_law_583 : decode cL_law 583 = .ok (.lstore 6, 2) := by decide +kernel
theorem dL_law_585 : decode cL_law 585 = .ok (.aload_n 2, 1) := by decide +kernel
theorem dL_law_586 : decode cL_law 586 = .ok (.invokevirtual 59, 3) := by decide +kernel
theorem dL_law_589 : decode cL_law 589 = .ok (.iload 5, 2) := by decide +kernel
theorem dL_law_591 : decode cL_law 591 = .ok (.if_icmp .eq 5, 3) := by decide +kernel
theorem dL_law_594 : decode cL_law 594 = .ok (.iconst 0, 1) := by decide +kernel
theorem dL_law_595 : decode cL_law 595 = .ok (.ireturn, 1) := by decide +kernel
theorem dL_law_596 : decode cL_law 596 = .ok (.iload 5, 2) := by decide +kernel
theorem dL_law_598 : decode cL_law 598 = .ok (.ifCond .ne 14, 3) := by decide +kernel
theorem dL_law_601 : decode cL_law 601 = .ok (.aload_n 3, 1) := by decide +kernel
theorem dL_law_602 : decode cL_law 602 = .ok (.iconst 0, 1) := by decide +kernel
theorem dL_law_603 : decode cL_law 603 = .ok (.laload, 1) := by decide +kernel
theorem dL_law_604 : decode cL_law 604 = .ok (.lload 6, 2) := by decide +kernel
theorem dL_law_606 : decode cL_law 606 = .ok (.lcmp, 1) := by decide +kernel
theorem dL_law_607 : decode cL_law 607 = .ok (.ifCond .eq 5, 3) := by decide +kernel
theorem dL_law_610 : decode cL_law 610 = .ok (.iconst 0, 1) := by decide +kernel
theorem dL_law_611 : decode cL_law 611 = .ok (.ireturn, 1) := by decide +kernel
theorem dL_law_612 : decode cL_law 612 = .ok (.goto 96, 3) := by decide +kernel
theorem dL_law_615 : decode cL_law 615 = .ok (.aload_n 1, 1) := by decide +kernel
theorem dL_law_616 : decode cL_law 616 = .ok (.aload_n 0, 1) := by decide +kernel
theorem dL_law_617 : decode cL_law 617 = .ok (.iload 4, 2) := by decide +kernel
theorem dL_law_619 : decode cL_law 619 = .ok (.iconst 1, 1) := by decide +kernel
theorem dL_law_620 : decode cL_law 620 = .ok (.iadd, 1) := by decide +kernel
theorem dL_law_621 : decode cL_law 621 = .ok (.iaload, 1) := by decide +kernel
theorem dL_law_622 : decode cL_law 622 = .ok (.aload_n 3, 1) := by decide +kernel
theorem dL_law_623 : decode cL_law 623 = .ok (.invokestatic 91, 3) := by decide +kernel
theorem dL_law_626 : decode cL_law 626 = .ok (.istore 5, 2) := by decide +kernel
theorem dL_law_628 : decode cL_law 628 = .ok (.aload_n 2, 1) := by decide +kernel
theorem dL_law_629 : decode cL_law 629 = .ok (.aload_n 0, 1) := by decide +kernel
theorem dL_law_630 : decode cL_law 630 = .ok (.iload 4, 2) := by decide +kernel
theorem dL_law_632 : decode cL_law 632 = .ok (.iconst 1, 1) := by decide +kernel
theorem dL_law_633 : decode cL_law 633 = .ok (.iadd, 1) := by decide +kernel
theorem dL_law_634 : decode cL_law 634 = .ok (.iaload, 1) := by decide +kernel
theorem dL_law_635 : decode cL_law 635 = .ok (.invokevirtual 93, 3) := by decide +kernel
theorem dL_law_638 : decode cL_law 638 = .ok (.istore 6, 2) := by decide +kernel
theorem dL_law_640 : decode cL_law 640 = .ok (.aload_n 2, 1) := by decide +kernel
theorem dL_law_641 : decode cL_law 641 = .ok (.invokevirtual 59, 3) := by decide +kernel
theorem dL_law_644 : decode cL_law 644 = .ok (.iload 5, 2) := by decide +kernel
theorem dL_law_646 : decode cL_law 646 = .ok (.if_icmp .eq 5, 3) := by decide +kernel
theorem dL_law_649 : decode cL_law 649 = .ok (.iconst 0, 1) := by decide +kernel
theorem dL_law_650 : decode cL_law 650 = .ok (.ireturn, 1) := by decide +kernel
theorem dL_law_651 : decode cL_law 651 = .ok (.iload 5, 2) := by decide +kernel
theorem dL_law_653 : decode cL_law 653 = .ok (.ifCond .ne 15, 3) := by decide +kernel
theorem dL_law_656 : decode cL_law 656 = .ok (.aload_n 3, 1) := by decide +kernel
theorem dL_law_657 : decode cL_law 657 = .ok (.iconst 0, 1) := by decide +kernel
theorem dL_law_658 : decode cL_law 658 = .ok (.laload, 1) := by decide +kernel
theorem dL_law_659 : decode cL_law 659 = .ok (.iload 6, 2) := by decide +kernel
theorem dL_law_661 : decode cL_law 661 = .ok (.i2l, 1) := by decide +kernel
theorem dL_law_662 : decode cL_law 662 = .ok (.lcmp, 1) := by decide +kernel
theorem dL_law_663 : decode cL_law 663 = .ok (.ifCond .eq 5, 3) := by decide +kernel
theorem dL_law_666 : decode cL_law 666 = .ok (.iconst 0, 1) := by decide +kernel
theorem dL_law_667 : decode cL_law 667 = .ok (.ireturn, 1) := by decide +kernel
theorem dL_law_668 : decode cL_law 668 = .ok (.goto 40, 3) := by decide +kernel
theorem dL_law_671 : decode cL_law 671 = .ok (.aload_n 1, 1) := by decide +kernel
theorem dL_law_672 : decode cL_law 672 = .ok (.invokevirtual 94, 3) := by decide +kernel
theorem dL_law_675 : decode cL_law 675 = .ok (.aload_n 2, 1) := by decide +kernel
theorem dL_law_676 : decode cL_law 676 = .ok (.invokevirtual 97, 3) := by decide +kernel
theorem dL_law_679 : decode cL_law 679 = .ok (.if_icmp .eq 29, 3) := by decide +kernel
theorem dL_law_682 : decode cL_law 682 = .ok (.iconst 0, 1) := by decide +kernel
theorem dL_law_683 : decode cL_law 683 = .ok (.ireturn, 1) := by decide +kernel
theorem dL_law_684 : decode cL_law 684 = .ok (.aload_n 1, 1) := by decide +kernel
theorem dL_law_685 : decode cL_law 685 = .ok (.invokevirtual 98, 3) := by decide +kernel
theorem dL_law_688 : decode cL_law 688 = .ok (.aload_n 2, 1) := by decide +kernel
theorem dL_law_689 : decode cL_law 689 = .ok (.invokevirtual 101, 3) := by decide +kernel
theorem dL_law_692 : decode cL_law 692 = .ok (.if_icmp .eq 16, 3) := by decide +kernel
theorem dL_law_695 : decode cL_law 695 = .ok (.iconst 0, 1) := by decide +kernel
theorem dL_law_696 : decode cL_law 696 = .ok (.ireturn, 1) := by decide +kernel
theorem dL_law_697 : decode cL_law 697 = .ok (.aload_n 1, 1) := by decide +kernel
theorem dL_law_698 : decode cL_law 698 = .ok (.invokevirtual 102, 3) := by decide +kernel
theorem dL_law_701 : decode cL_law 701 = .ok (.aload_n 2, 1) := by decide +kernel
theorem dL_law_702 : decode cL_law 702 = .ok (.invokevirtual 105, 3) := by decide +kernel
theorem dL_law_705 : decode cL_law 705 = .ok (.goto 3, 3) := by decide +kernel
theorem dL_law_708 : decode cL_law 708 = .ok (.iinc 4 4, 3) := by decide +kernel
theorem dL_law_711 : decode cL_law 711 = .ok (.goto (-688), 3) := by decide +kernel
theorem dL_law_714 : decode cL_law 714 = .ok (.iconst 1, 1) := by decide +kernel
theorem dL_law_715 : decode cL_law 715 = .ok (.ireturn, 1) := by decide +kernel
end
section
/-! numbers: Int32 and Int64 by their integers; Euclid's way on longs -/
theorem ma_L {a : Int} (h1 : -2^63 ≤ a) (h2 : a < 2^63) : a.bmod (2^64) = a := by
  apply Int.bmod_eq_of_le_mul_two <;> omega
theorem ma_I {a : Int} (h1 : -2^31 ≤ a) (h2 : a < 2^31) : a.bmod (2^32) = a := by
  apply Int.bmod_eq_of_le_mul_two <;> omega
/-- the integer of a sum, difference, product, quotient, remainder that fits -/
theorem ma_add {x y : Int64} (h1 : -2^63 ≤ x.toInt + y.toInt) (h2 : x.toInt + y.toInt < 2^63) : (x + y).toInt = x.toInt + y.toInt := by
  rw [Int64.toInt_add, ma_L h1 h2]
theorem ma_sub {x y : Int64} (h1 : -2^63 ≤ x.toInt - y.toInt) (h2 : x.toInt - y.toInt < 2^63) : (x - y).toInt = x.toInt - y.toInt := by
  rw [Int64.toInt_sub, ma_L h1 h2]
theorem ma_mul {x y : Int64} (h1 : -2^63 ≤ x.toInt * y.toInt) (h2 : x.toInt * y.toInt < 2^63) : (x * y).toInt = x.toInt * y.toInt := by
  rw [Int64.toInt_mul, ma_L h1 h2]
theorem ma_neg {x : Int64} (h1 : x.toInt ≠ -2^63) : (-x).toInt = -x.toInt := by
  have := x.le_toInt
  have := x.toInt_lt
  rw [Int64.toInt_neg, ma_L] <;> omega
theorem ma_div {x y : Int64} (h : y.toInt ≠ -1) : (x / y).toInt = x.toInt.tdiv y.toInt := by
  refine Int64.toInt_div_of_ne_right x y (fun e => h ?_)
  rw [e]; decide
/-- the remainder: what is left by the quotient -/
theorem ma_rem {x y : Int64} (h : y.toInt ≠ 0) : (x - x / y * y).toInt = x.toInt.tmod y.toInt := by
  have hx1 := x.le_toInt
  have hx2 := x.toInt_lt
  have hy1 := y.le_toInt
  have hy2 := y.toInt_lt
  have e : x.toInt - x.toInt.tdiv y.toInt * y.toInt = x.toInt.tmod y.toInt := by
    have := Int.tdiv_mul_add_tmod x.toInt y.toInt
    omega
  have hm : (x.toInt.tmod y.toInt).natAbs < y.toInt.natAbs := by
    rw [Int.natAbs_tmod]
    exact Nat.mod_lt _ (by omega)
  rw [Int64.toInt_sub, Int64.toInt_mul, Int64.toInt_div, Int.sub_bmod_bmod, ← e]
  rw [← e] at hm
  have : (x.toInt - (x.toInt.tdiv y.toInt).bmod (2 ^ 64) * y.toInt).bmod (2 ^ 64) = (x.toInt - x.toInt.tdiv y.toInt * y.toInt).bmod (2 ^ 64) := by
    rw [← Int.sub_bmod_bmod, Int.bmod_mul_bmod, Int.sub_bmod_bmod]
  rw [this]
  apply ma_L <;> omega
/-- Euclid's way on longs, n steps -/
def gd_it : Nat → Int64 → Int64 → Int64
  | 0, a, _ => a
  | n + 1, a, b => if b = 0 then a else gd_it n b (a - a / b * b)
theorem gd_half {b r : Nat} (h0 : 0 < r) (h : r < b) : b % r < (b + 1) / 2 := by
  by_cases c : r ≤ b / 2
  · have := Nat.mod_lt b h0
    omega
  · rw [Nat.mod_eq_sub_mod (Nat.le_of_lt h), Nat.mod_eq_of_lt (by omega)]
    omega
theorem gd_ok : ∀ (k n : Nat) (a b : Int64), b.toInt.natAbs < 2 ^ k → 2 * k + 1 ≤ n → (gd_it n a b).toInt.natAbs = Nat.gcd a.toInt.natAbs b.toInt.natAbs := by
  intro k
  induction k with
  | zero =>
    intro n a b hb hn
    have h0 : b.toInt = 0 := by omega
    have hb0 : b = 0 := Int64.toInt_inj.mp (by rw [h0]; rfl)
    obtain ⟨n, rfl⟩ : ∃ j, n = j + 1 := ⟨n - 1, by omega⟩
    rw [gd_it, if_pos hb0, h0]
    simp
  | succ k ih =>
    intro n a b hb hn
    obtain ⟨n, rfl⟩ : ∃ j, n = j + 1 := ⟨n - 1, by omega⟩
    by_cases hb0 : b = 0
    · rw [gd_it, if_pos hb0, hb0]
      simp
    · have hbi : b.toInt ≠ 0 := fun e => hb0 (Int64.toInt_inj.mp (by rw [e]; rfl))
      have e1 : (a - a / b * b).toInt = a.toInt.tmod b.toInt := ma_rem hbi
      rw [gd_it, if_neg hb0]
      generalize hr : a - a / b * b = r at e1 ⊢
      have e1' : r.toInt.natAbs = a.toInt.natAbs % b.toInt.natAbs := by rw [e1, Int.natAbs_tmod]
      have g1 : Nat.gcd a.toInt.natAbs b.toInt.natAbs = Nat.gcd b.toInt.natAbs r.toInt.natAbs := by
        rw [Nat.gcd_comm, Nat.gcd_rec, e1', Nat.gcd_comm]
      obtain ⟨n, rfl⟩ : ∃ j, n = j + 1 := ⟨n - 1, by omega⟩
      by_cases hr0 : r = 0
      · rw [g1, gd_it, if_pos hr0, hr0]
        simp
      · have hri : r.toInt ≠ 0 := fun e => hr0 (Int64.toInt_inj.mp (by rw [e]; rfl))
        rw [gd_it, if_neg hr0]
        have e2 : (b - b / r * r).toInt = b.toInt.tmod r.toInt := ma_rem hri
        generalize b - b / r * r = q at e2 ⊢
        have e2' : q.toInt.natAbs = b.toInt.natAbs % r.toInt.natAbs := by rw [e2, Int.natAbs_tmod]
        have hlt : r.toInt.natAbs < b.toInt.natAbs := by rw [e1']; exact Nat.mod_lt _ (by omega)
        have hq : q.toInt.natAbs < 2 ^ k := by
          have := gd_half (b := b.toInt.natAbs) (r := r.toInt.natAbs) (by omega) hlt
          rw [e2']
          have h2 : 2 ^ (k + 1) = 2 * 2 ^ k := by rw [Nat.pow_succ]; omega
          omega
        rw [ih n r q hq (by omega), g1, e2', Nat.gcd_comm b.toInt.natAbs r.toInt.natAbs, Nat.gcd_comm r.toInt.natAbs (b.toInt.natAbs % r.toInt.natAbs), ← Nat.gcd_rec]
end
section
/-! what is given at the start and stays; the worlds of the class and of the reference -/
def gl_prime (k : Nat) : Int32 := match k with
  | 0 => 2
  | 1 => 3
  | 2 => 5
  | 3 => 7
  | _ => 11
def gl_sign (k : Nat) : Int32 := match k with
  | 0 => 1
  | 1 => -1
  | 2 => 1
  | 3 => -1
  | 4 => -1
  | 5 => 1
  | 6 => -1
  | _ => -1
def gl_strs : List (Nat × String) := [(45, "no place for a cut"), (52, "there are 3 cuts"), (65, "no such cut"), (68, "no such piece"), (70, "no such number"), (72, "the number can't be that"), (83, "no such place or part"), (97, "a pole is there"), (105, "no such ends"), (120, "no integral is known"), (122, "no such part"), (136, "not 2, 3, 5, 7 or 11")]
def gl_ncs : List (String × String) := [("java/lang/IllegalStateException", "java/lang/IllegalArgumentException"), ("java/lang/IllegalArgumentException", "java/lang/IndexOutOfBoundsException"), ("java/lang/IllegalArgumentException", "java/lang/IllegalStateException")]
def gl_G (A : Nat → Prop) (U : State) (H : Heap) : Prop :=
  (∀ w ∈ gn, va_Nw w U) ∧
  (∃ t, va_Z RX2 "PRIMES" "[I" (.ref t) A U H ∧ va_T .int t 5 (fun k => .int (gl_prime k)) A U H) ∧
  (∃ t, va_Z RX2 "MIRROR_SIGNS" "[I" (.ref t) A U H ∧ va_T .int t 8 (fun k => .int (gl_sign k)) A U H) ∧
  (∀ q ∈ gl_strs, ∃ sa, vk_R RX2 q.1 q.2 sa U) ∧
  vx_Zq Bundle.tN "UNASSIGNED_STACK" Bundle.steD A U H ∧ vx_Zq Bundle.tN "SUPPRESSED_SENTINEL" Bundle.listD A U H ∧
  (∀ q ∈ gl_ncs, va_Nc q.1 q.2 U)
theorem gn_on {w : Cond} (h : w ∈ gn) : w.onTables = true := by
  have h2 := (List.mem_filter.mp h).2
  cases w <;> first | rfl | (simp [gn_is] at h2)
theorem gn_warm {w : Cond} {s U : State} (h : w ∈ gn) (hW : s.WarmedH U.vm) (hZ : va_Nw w s) : va_Nw w U := by
  have h2 := (List.mem_filter.mp h).2
  cases w <;> first | exact va_Nw.warmF hW hZ | exact va_Nw.warmM hW hZ | exact va_Nw.warmC hW hZ | exact va_Nw.warmD hW hZ | (simp [gn_is] at h2)
theorem gl_G.call {A : Nat → Prop} {U : State} {g : JFrame} {mk : MethodId} {a : Array Value} (h : gl_G A U U.heap) : gl_G A (U.calling g mk a) (U.calling g mk a).heap := by
  obtain ⟨h1, ⟨t1, z1, u1⟩, ⟨t2, z2, u2⟩, h4, h5, h6, h7⟩ := h
  have al : U.vm.Alike (U.calling g mk a).vm := Vm.Alike.refl U.vm
  refine ⟨fun w hw => va_Nw.same (gn_on hw) (show U.vm = (U.calling g mk a).vm from rfl) (h1 w hw), ⟨t1, z1.moved al, u1.moved al⟩, ⟨t2, z2.moved al, u2.moved al⟩, fun q hq => ?_, h5.moved al, h6.moved al, fun q hq => (h7 q hq).moved al⟩
  obtain ⟨sa, hsa⟩ := h4 q hq
  exact ⟨sa, vk_R.same rfl hsa⟩
theorem gl_G.warm {A : Nat → Prop} {s U : State} {H : Heap} {locs : List Loc} (h : gl_G A s s.heap) (hS : va_S A s.heap H locs) (hU : U.heap = H) (hW : s.WarmedH U.vm) : gl_G A U U.heap := by
  obtain ⟨h1, ⟨t1, z1, u1⟩, ⟨t2, z2, u2⟩, h4, h5, h6, h7⟩ := h
  have al := hW.alike
  rw [hU]
  refine ⟨fun w hw => gn_warm hw hW (h1 w hw), ⟨t1, (z1.moved al).kept hS.2.1, (u1.moved al).kept hS.2.1⟩, ⟨t2, (z2.moved al).kept hS.2.1, (u2.moved al).kept hS.2.1⟩, fun q hq => ?_, (h5.moved al).kept hS.2.1, (h6.moved al).kept hS.2.1, fun q hq => (h7 q hq).moved al⟩
  obtain ⟨sa, hsa⟩ := h4 q hq
  exact ⟨sa, vk_R.warm hW hsa⟩
theorem gl_G.nest {A : Nat → Prop} {s : State} {H : Heap} {args : Array Value} {w : Cond} (h : gl_G A s H) (hw : w ∈ gn) : w.before args s = true := va_Nw.use (gn_on hw) (h.1 w hw)
/-- the arrays' classes: of ints, of longs, of pieces -/
abbrev ty3 (cI cL cQ : ClassId) : List (ClassId × FieldType) := [(cI, .int), (cL, .long), (cQ, .object RX0)]
/-- what a method that only reads wants -/
def pu_B (D : va_G) (tys : List (ClassId × FieldType)) (ws : va_W) (U : State) : Prop := va_K D vwCl tys U ∧ va_P D vwCl ws U.heap
theorem pu_B.blind {D : va_G} {tys : List (ClassId × FieldType)} {ws : va_W} {av : List Value} : FrameBlind (va_Pc av (pu_B D tys ws)) := fun _ U _ _ q => ⟨q.1, va_K.moved (Vm.Alike.refl U.vm) q.2.1, q.2.2⟩
theorem pu_B.at {D : va_G} {tys : List (ClassId × FieldType)} {ws : va_W} {s U : State} {H : Heap} (hK : va_K D vwCl tys s) (hP : va_P D vwCl ws H) (hU : U.heap = H) (hW : s.WarmedH U.vm) : pu_B D tys ws U := ⟨va_K.moved hW.alike hK, by rw [hU]; exact hP⟩
theorem tt_blind {av : List Value} : FrameBlind (va_Pc av (fun _ => True)) := fun _ _ _ _ q => q
/-- what a method that reads and writes wants: the given, the world, the places where it may write -/
def wd_B (D : va_G) (tys : List (ClassId × FieldType)) (A : Nat → Prop) (ws : va_W) (U : State) : Prop := gl_G A U U.heap ∧ va_K D vwCl tys U ∧ va_P D vwCl ws U.heap ∧ va_D A ws ∧ ∀ q, U.heap.size ≤ q → A q
theorem wd_B.blind {D : va_G} {tys : List (ClassId × FieldType)} {A : Nat → Prop} {ws : va_W} {av : List Value} : FrameBlind (va_Pc av (wd_B D tys A ws)) := fun _ U _ _ q => ⟨q.1, q.2.1.call, va_K.moved (Vm.Alike.refl U.vm) q.2.2.1, q.2.2.2.1, q.2.2.2.2.1, q.2.2.2.2.2⟩
theorem wd_B.at {D : va_G} {tys : List (ClassId × FieldType)} {A : Nat → Prop} {ws : va_W} {s U : State} {H : Heap} {locs : List Loc} (hG : gl_G A s s.heap) (hK : va_K D vwCl tys s) (hP : va_P D vwCl ws H) (hD : va_D A ws) (hS : va_S A s.heap H locs) (hA : ∀ q, s.heap.size ≤ q → A q) (hU : U.heap = H) (hW : s.WarmedH U.vm) : wd_B D tys A ws U :=
  ⟨hG.warm hS hU hW, va_K.moved hW.alike hK, by rw [hU]; exact hP, hD, fun q h => hA q (Nat.le_trans hS.1 (by rw [← hU]; exact h))⟩
/-- .. and what it leaves -/
def wd_E (D : va_G) (tys : List (ClassId × FieldType)) (A : Nat → Prop) (ws : va_W) (t : State) : Prop := va_K D vwCl tys t ∧ va_P D vwCl ws t.heap ∧ va_D A ws
theorem wd_E.at {D : va_G} {tys : List (ClassId × FieldType)} {A : Nat → Prop} {ws : va_W} {s t : State} {H : Heap} (hK : va_K D vwCl tys s) (hP : va_P D vwCl ws H) (hD : va_D A ws) (ht : t.heap = H) (hW : s.WarmedH t.vm) : wd_E D tys A ws t := ⟨va_K.moved hW.alike hK, by rw [ht]; exact hP, hD⟩
theorem wd_E.back {D : va_G} {tys : List (ClassId × FieldType)} {A : Nat → Prop} {ws : va_W} {s t : State} {H : Heap} (h : wd_E D tys A ws t) (ht : t.heap = H) (hvm : s.vm.Alike t.vm) : va_K D vwCl tys s ∧ va_P D vwCl ws H ∧ va_D A ws := ⟨va_K.moved hvm.symm h.1, by rw [← ht]; exact h.2.1, h.2.2⟩
/-- a truth value as an int -/
def zi (b : Bool) : Int32 := if b then 1 else 0
theorem zi_0 {b : Bool} (h : zi b = 0) : b = false := by cases b <;> first | rfl | (simp [zi] at h)
theorem zi_n0 {b : Bool} (h : ¬ zi b = 0) : b = true := by cases b <;> first | rfl | (simp [zi] at h)
theorem zi_nar (b : Bool) : narrow .boolean (.int (zi b)) = .int (zi b) := by cases b <;> rfl
end
section
/-- isWithin, isPart, isEndless, isEnd; the reference's in -/
def x_in (v q : Int32) : Bool := !decide (v < -q) && !decide (q < v)
def x_part (v : Int32) : Bool := decide (v = 0) || decide (v = 1)
def x_less (v : Int32) : Bool := decide (v = 9) || decide (v = -9)
def x_end (v : Int32) : Bool := x_in v 6 || x_less v
def m_in (v a b : Int32) : Bool := !decide (v < a) && !decide (b < v)
set_option maxHeartbeats 4000000 in
set_option maxRecDepth 100000 in
theorem c_X2_isWithin (l : Launch) (v q : Int32) : Met l yX2_isWithin wsX2_isWithin { frames := 0, cells := 0, slots := 0, locals := 0 } (va_Pc [.int v, .int q] (fun _ => True)) (vp_Si (fun r => r = zi (x_in v q))) 0 0 (fun _ => False) := by
  refine Met.ofW (cc := cX2_isWithin) (maxL := 2) (ret := (some .boolean)) (by decide) rfl ?_
  intro p e s m args below meth c s₁ B hml hv
  obtain ⟨rfl, -⟩ := hv
  have hx := B.exec
  have hb := B.bytes
  have hr := B.returns
  have hts := atoms_spec (ws := wsX2_isWithin) B.pre
  have hg : ∀ w ∈ gw, w.before ([.int v, .int q] : List Value).toArray s = true := fun w h => hts w (List.mem_cons_of_mem _ h)
  have hown : s.vm.findClass RX2 = some m.cls := findClass_of_methodNamed B.named
  have hlocks := B.notSynchronized
  have hl := lv_entry ([.int v, .int q]) (n := 2) (Nat.le_of_ble_eq_true rfl)
  rw [lg_entry_eq]
  generalize (lg_sl ([.int v, .int q]) ++ List.replicate (2 - (lg_sl ([.int v, .int q])).length) Slot.unset).toArray = ls at hl ⊢
  have hl : lv_has ls 2 [(0, .int v), (1, .int q)] := hl
  refine lv_iload_n hx hb dX2_isWithin_0 rfl (lv_at hl 0 rfl) ?_
  refine lv_iload_n hx hb dX2_isWithin_1 rfl (lv_at hl 1 rfl) ?_
  refine lv_ineg hx hb dX2_isWithin_2 ?_
  refine lv_icmp_lt (tgt := 15) hx hb dX2_isWithin_3 (by decide) (fun c_1 => ?_) (fun c_1 => ?_)
  · refine lv_iconst (v := 0) hx hb dX2_isWithin_15 (by decide) ?_
    exact W.zret (v := 0) hx hb hr rfl (fun t ht hW => ⟨0, rfl, by simp [zi, x_in, c_1], ht⟩) (fun _ h => nomatch h) dX2_isWithin_16
  · refine lv_iload_n hx hb dX2_isWithin_6 rfl (lv_at hl 0 rfl) ?_
    refine lv_iload_n hx hb dX2_isWithin_7 rfl (lv_at hl 1 rfl) ?_
    refine lv_icmp_gt (tgt := 15) hx hb dX2_isWithin_8 (by decide) (fun c_2 => ?_) (fun c_2 => ?_)
    · refine lv_iconst (v := 0) hx hb dX2_isWithin_15 (by decide) ?_
      exact W.zret (v := 0) hx hb hr rfl (fun t ht hW => ⟨0, rfl, by simp [zi, x_in, c_1, c_2], ht⟩) (fun _ h => nomatch h) dX2_isWithin_16
    · refine lv_iconst (v := 1) hx hb dX2_isWithin_11 (by decide) ?_
      refine lv_goto (tgt := 16) hx hb dX2_isWithin_12 (by decide) ?_
      exact W.zret (v := 1) hx hb hr rfl (fun t ht hW => ⟨1, rfl, by simp [zi, x_in, c_1, c_2], ht⟩) (fun _ h => nomatch h) dX2_isWithin_16
set_option maxHeartbeats 4000000 in
set_option maxRecDepth 100000 in
theorem c_X2_isPart (l : Launch) (v : Int32) : Met l yX2_isPart wsX2_isPart { frames := 0, cells := 0, slots := 0, locals := 0 } (va_Pc [.int v] (fun _ => True)) (vp_Si (fun r => r = zi (x_part v))) 0 0 (fun _ => False) := by
  refine Met.ofW (cc := cX2_isPart) (maxL := 1) (ret := (some .boolean)) (by decide) rfl ?_
  intro p e s m args below meth c s₁ B hml hv
  obtain ⟨rfl, -⟩ := hv
  have hx := B.exec
  have hb := B.bytes
  have hr := B.returns
  have hts := atoms_spec (ws := wsX2_isPart) B.pre
  have hg : ∀ w ∈ gw, w.before ([.int v] : List Value).toArray s = true := fun w h => hts w (List.mem_cons_of_mem _ h)
  have hown : s.vm.findClass RX2 = some m.cls := findClass_of_methodNamed B.named
  have hlocks := B.notSynchronized
  have hl := lv_entry ([.int v]) (n := 1) (Nat.le_of_ble_eq_true rfl)
  rw [lg_entry_eq]
  generalize (lg_sl ([.int v]) ++ List.replicate (1 - (lg_sl ([.int v])).length) Slot.unset).toArray = ls at hl ⊢
  have hl : lv_has ls 1 [(0, .int v)] := hl
  refine lv_iload_n hx hb dX2_isPart_0 rfl (lv_at hl 0 rfl) ?_
  refine lv_if_eq (tgt := 9) hx hb dX2_isPart_1 (by decide) (fun c_1 => ?_) (fun c_1 => ?_)
  · refine lv_iconst (v := 1) hx hb dX2_isPart_9 (by decide) ?_
    refine lv_goto (tgt := 14) hx hb dX2_isPart_10 (by decide) ?_
    exact W.zret (v := 1) hx hb hr rfl (fun t ht hW => ⟨1, rfl, by simp [zi, x_part, c_1], ht⟩) (fun _ h => nomatch h) dX2_isPart_14
  · refine lv_iload_n hx hb dX2_isPart_4 rfl (lv_at hl 0 rfl) ?_
    refine lv_iconst (v := 1) hx hb dX2_isPart_5 (by decide) ?_
    refine lv_icmp_ne (tgt := 13) hx hb dX2_isPart_6 (by decide) (fun c_2 => ?_) (fun c_2 => ?_)
    · refine lv_iconst (v := 0) hx hb dX2_isPart_13 (by decide) ?_
      exact W.zret (v := 0) hx hb hr rfl (fun t ht hW => ⟨0, rfl, by simp [zi, x_part, c_1, c_2], ht⟩) (fun _ h => nomatch h) dX2_isPart_14
    · refine lv_iconst (v := 1) hx hb dX2_isPart_9 (by decide) ?_
      refine lv_goto (tgt := 14) hx hb dX2_isPart_10 (by decide) ?_
      exact W.zret (v := 1) hx hb hr rfl (fun t ht hW => ⟨1, rfl, by simp [zi, x_part, c_1, c_2], ht⟩) (fun _ h => nomatch h) dX2_isPart_14
set_option maxHeartbeats 4000000 in
set_option maxRecDepth 100000 in
theorem c_X2_isEndless (l : Launch) (v : Int32) : Met l yX2_isEndless wsX2_isEndless { frames := 0, cells := 0, slots := 0, locals := 0 } (va_Pc [.int v] (fun _ => True)) (vp_Si (fun r => r = zi (x_less v))) 0 0 (fun _ => False) := by
  refine Met.ofW (cc := cX2_isEndless) (maxL := 1) (ret := (some .boolean)) (by decide) rfl ?_
  intro p e s m args below meth c s₁ B hml hv
  obtain ⟨rfl, -⟩ := hv
  have hx := B.exec
  have hb := B.bytes
  have hr := B.returns
  have hts := atoms_spec (ws := wsX2_isEndless) B.pre
  have hg : ∀ w ∈ gw, w.before ([.int v] : List Value).toArray s = true := fun w h => hts w (List.mem_cons_of_mem _ h)
  have hown : s.vm.findClass RX2 = some m.cls := findClass_of_methodNamed B.named
  have hlocks := B.notSynchronized
  have hl := lv_entry ([.int v]) (n := 1) (Nat.le_of_ble_eq_true rfl)
  rw [lg_entry_eq]
  generalize (lg_sl ([.int v]) ++ List.replicate (1 - (lg_sl ([.int v])).length) Slot.unset).toArray = ls at hl ⊢
  have hl : lv_has ls 1 [(0, .int v)] := hl
  refine lv_iload_n hx hb dX2_isEndless_0 rfl (lv_at hl 0 rfl) ?_
  refine lv_bipush (v := 9) hx hb dX2_isEndless_1 (by decide) ?_
  refine lv_icmp_eq (tgt := 12) hx hb dX2_isEndless_3 (by decide) (fun c_1 => ?_) (fun c_1 => ?_)
  · refine lv_iconst (v := 1) hx hb dX2_isEndless_12 (by decide) ?_
    refine lv_goto (tgt := 17) hx hb dX2_isEndless_13 (by decide) ?_
    exact W.zret (v := 1) hx hb hr rfl (fun t ht hW => ⟨1, rfl, by simp [zi, x_less, c_1], ht⟩) (fun _ h => nomatch h) dX2_isEndless_17
  · refine lv_iload_n hx hb dX2_isEndless_6 rfl (lv_at hl 0 rfl) ?_
    refine lv_bipush (v := (-9)) hx hb dX2_isEndless_7 (by decide) ?_
    refine lv_icmp_ne (tgt := 16) hx hb dX2_isEndless_9 (by decide) (fun c_2 => ?_) (fun c_2 => ?_)
    · refine lv_iconst (v := 0) hx hb dX2_isEndless_16 (by decide) ?_
      exact W.zret (v := 0) hx hb hr rfl (fun t ht hW => ⟨0, rfl, by simp [zi, x_less, c_1, c_2], ht⟩) (fun _ h => nomatch h) dX2_isEndless_17
    · refine lv_iconst (v := 1) hx hb dX2_isEndless_12 (by decide) ?_
      refine lv_goto (tgt := 17) hx hb dX2_isEndless_13 (by decide) ?_
      exact W.zret (v := 1) hx hb hr rfl (fun t ht hW => ⟨1, rfl, by simp [zi, x_less, c_1, c_2], ht⟩) (fun _ h => nomatch h) dX2_isEndless_17
set_option maxHeartbeats 4000000 in
set_option maxRecDepth 100000 in
theorem c_X3_in (l : Launch) (v a b : Int32) : Met l yX3_in wsX3_in { frames := 0, cells := 0, slots := 0, locals := 0 } (va_Pc [.int v, .int a, .int b] (fun _ => True)) (vp_Si (fun r => r = zi (m_in v a b))) 0 0 (fun _ => False) := by
  refine Met.ofW (cc := cX3_in) (maxL := 3) (ret := (some .boolean)) (by decide) rfl ?_
  intro p e s m args below meth c s₁ B hml hv
  obtain ⟨rfl, -⟩ := hv
  have hx := B.exec
  have hb := B.bytes
  have hr := B.returns
  have hts := atoms_spec (ws := wsX3_in) B.pre
  have hg : ∀ w ∈ gw, w.before ([.int v, .int a, .int b] : List Value).toArray s = true := fun w h => hts w (List.mem_cons_of_mem _ h)
  have hown : s.vm.findClass RX3 = some m.cls := findClass_of_methodNamed B.named
  have hlocks := B.notSynchronized
  have hl := lv_entry ([.int v, .int a, .int b]) (n := 3) (Nat.le_of_ble_eq_true rfl)
  rw [lg_entry_eq]
  generalize (lg_sl ([.int v, .int a, .int b]) ++ List.replicate (3 - (lg_sl ([.int v, .int a, .int b])).length) Slot.unset).toArray = ls at hl ⊢
  have hl : lv_has ls 3 [(0, .int v), (1, .int a), (2, .int b)] := hl
  refine lv_iload_n hx hb dX3_in_0 rfl (lv_at hl 0 rfl) ?_
  refine lv_iload_n hx hb dX3_in_1 rfl (lv_at hl 1 rfl) ?_
  refine lv_icmp_lt (tgt := 14) hx hb dX3_in_2 (by decide) (fun c_1 => ?_) (fun c_1 => ?_)
  · refine lv_iconst (v := 0) hx hb dX3_in_14 (by decide) ?_
    exact W.zret (v := 0) hx hb hr rfl (fun t ht hW => ⟨0, rfl, by simp [zi, m_in, c_1], ht⟩) (fun _ h => nomatch h) dX3_in_15
  · refine lv_iload_n hx hb dX3_in_5 rfl (lv_at hl 0 rfl) ?_
    refine lv_iload_n hx hb dX3_in_6 rfl (lv_at hl 2 rfl) ?_
    refine lv_icmp_gt (tgt := 14) hx hb dX3_in_7 (by decide) (fun c_2 => ?_) (fun c_2 => ?_)
    · refine lv_iconst (v := 0) hx hb dX3_in_14 (by decide) ?_
      exact W.zret (v := 0) hx hb hr rfl (fun t ht hW => ⟨0, rfl, by simp [zi, m_in, c_1, c_2], ht⟩) (fun _ h => nomatch h) dX3_in_15
    · refine lv_iconst (v := 1) hx hb dX3_in_10 (by decide) ?_
      refine lv_goto (tgt := 15) hx hb dX3_in_11 (by decide) ?_
      exact W.zret (v := 1) hx hb hr rfl (fun t ht hW => ⟨1, rfl, by simp [zi, m_in, c_1, c_2], ht⟩) (fun _ h => nomatch h) dX3_in_15
set_option maxHeartbeats 4000000 in
set_option maxRecDepth 100000 in
theorem c_X2_isEnd (l : Launch) (v : Int32) : Met l yX2_isEnd wsX2_isEnd { frames := 1, cells := 0, slots := 0, locals := 21 } (va_Pc [.int v] (fun _ => True)) (vp_Si (fun r => r = zi (x_end v))) 0 0 (fun _ => False) := by
  refine Met.ofW (cc := cX2_isEnd) (maxL := 1) (ret := (some .boolean)) (by decide) rfl ?_
  intro p e s m args below meth c s₁ B hml hv
  obtain ⟨rfl, -⟩ := hv
  have hx := B.exec
  have hb := B.bytes
  have hr := B.returns
  have hts := atoms_spec (ws := wsX2_isEnd) B.pre
  have hg : ∀ w ∈ gw, w.before ([.int v] : List Value).toArray s = true := fun w h => hts w (List.mem_cons_of_mem _ h)
  have hown : s.vm.findClass RX2 = some m.cls := findClass_of_methodNamed B.named
  have hlocks := B.notSynchronized
  have hl := lv_entry ([.int v]) (n := 1) (Nat.le_of_ble_eq_true rfl)
  rw [lg_entry_eq]
  generalize (lg_sl ([.int v]) ++ List.replicate (1 - (lg_sl ([.int v])).length) Slot.unset).toArray = ls at hl ⊢
  have hl : lv_has ls 1 [(0, .int v)] := hl
  refine lv_iload_n hx hb dX2_isEnd_0 rfl (lv_at hl 0 rfl) ?_
  refine lv_bipush (v := 6) hx hb dX2_isEnd_1 (by decide) ?_
  refine vp_callSi (W.runS (As := [.int v, .int 6]) (rest := []) ⟨hx, hb, hml, hown, hg⟩ (c_X2_isWithin l v 6) (va_cwS 2 hg (gw_S ml_X2_35 sm_X2_isWithin ini_X2 co_X2_isWithin) rfl rfl rfl (by decide +kernel) ⟨Nat.le_of_ble_eq_true rfl, Nat.le_of_ble_eq_true rfl⟩) ⟨tt_blind, (fun U hU hW => ⟨rfl, trivial⟩)⟩ rfl rfl hl.1 rfl (lv_room (Nat.le_of_ble_eq_true rfl)) dX2_isEnd_3 ⟨Nat.le_of_ble_eq_true rfl, Nat.le_of_ble_eq_true rfl⟩) (fun r_1 hr_1 => ?_)
  subst hr_1
  refine lv_if_ne (tgt := 16) hx hb dX2_isEnd_6 (by decide) (fun c_2 => ?_) (fun c_2 => ?_)
  · replace c_2 := zi_n0 c_2
    refine lv_iconst (v := 1) hx hb dX2_isEnd_16 (by decide) ?_
    refine lv_goto (tgt := 21) hx hb dX2_isEnd_17 (by decide) ?_
    exact W.zret (v := 1) hx hb hr rfl (fun t ht hW => ⟨1, rfl, by simp [zi, x_end, c_2], ht⟩) (fun _ h => nomatch h) dX2_isEnd_21
  · replace c_2 := zi_0 c_2
    refine lv_iload_n hx hb dX2_isEnd_9 rfl (lv_at hl 0 rfl) ?_
    refine vp_callSi (W.runS (As := [.int v]) (rest := []) ⟨hx, hb, hml, hown, hg⟩ (c_X2_isEndless l v) (va_cwS 1 hg (gw_S ml_X2_144 sm_X2_isEndless ini_X2 co_X2_isEndless) rfl rfl rfl (by decide +kernel) ⟨Nat.le_of_ble_eq_true rfl, Nat.le_of_ble_eq_true rfl⟩) ⟨tt_blind, (fun U hU hW => ⟨rfl, trivial⟩)⟩ rfl rfl hl.1 rfl (lv_room (Nat.le_of_ble_eq_true rfl)) dX2_isEnd_10 ⟨Nat.le_of_ble_eq_true rfl, Nat.le_of_ble_eq_true rfl⟩) (fun r_3 hr_3 => ?_)
    subst hr_3
    refine lv_if_eq (tgt := 20) hx hb dX2_isEnd_13 (by decide) (fun c_4 => ?_) (fun c_4 => ?_)
    · replace c_4 := zi_0 c_4
      refine lv_iconst (v := 0) hx hb dX2_isEnd_20 (by decide) ?_
      exact W.zret (v := 0) hx hb hr rfl (fun t ht hW => ⟨0, rfl, by simp [zi, x_end, c_2, c_4], ht⟩) (fun _ h => nomatch h) dX2_isEnd_21
    · replace c_4 := zi_n0 c_4
      refine lv_iconst (v := 1) hx hb dX2_isEnd_16 (by decide) ?_
      refine lv_goto (tgt := 21) hx hb dX2_isEnd_17 (by decide) ?_
      exact W.zret (v := 1) hx hb hr rfl (fun t ht hW => ⟨1, rfl, by simp [zi, x_end, c_2, c_4], ht⟩) (fun _ h => nomatch h) dX2_isEnd_21
set_option maxHeartbeats 4000000 in
set_option maxRecDepth 100000 in
theorem c_X3_primeOf (l : Launch) (v : Int32) : Met l yX3_primeOf wsX3_primeOf { frames := 0, cells := 0, slots := 0, locals := 0 } (va_Pc [.int v] (fun _ => True)) (vp_Si (fun r => r = (if v = 0 then 2 else if v = 1 then 3 else if v = 2 then 5 else if v = 3 then 7 else 11))) 0 0 (fun _ => False) := by
  refine Met.ofW (cc := cX3_primeOf) (maxL := 1) (ret := (some .int)) (by decide) rfl ?_
  intro p e s m args below meth c s₁ B hml hv
  obtain ⟨rfl, -⟩ := hv
  have hx := B.exec
  have hb := B.bytes
  have hr := B.returns
  have hts := atoms_spec (ws := wsX3_primeOf) B.pre
  have hg : ∀ w ∈ gw, w.before ([.int v] : List Value).toArray s = true := fun w h => hts w (List.mem_cons_of_mem _ h)
  have hown : s.vm.findClass RX3 = some m.cls := findClass_of_methodNamed B.named
  have hlocks := B.notSynchronized
  have hl := lv_entry ([.int v]) (n := 1) (Nat.le_of_ble_eq_true rfl)
  rw [lg_entry_eq]
  generalize (lg_sl ([.int v]) ++ List.replicate (1 - (lg_sl ([.int v])).length) Slot.unset).toArray = ls at hl ⊢
  have hl : lv_has ls 1 [(0, .int v)] := hl
  refine lv_iload_n hx hb dX3_primeOf_0 rfl (lv_at hl 0 rfl) ?_
  refine lv_if_ne (tgt := 8) hx hb dX3_primeOf_1 (by decide) (fun c_1 => ?_) (fun c_1 => ?_)
  · refine lv_iload_n hx hb dX3_primeOf_8 rfl (lv_at hl 0 rfl) ?_
    refine lv_iconst (v := 1) hx hb dX3_primeOf_9 (by decide) ?_
    refine lv_icmp_ne (tgt := 17) hx hb dX3_primeOf_10 (by decide) (fun c_2 => ?_) (fun c_2 => ?_)
    · refine lv_iload_n hx hb dX3_primeOf_17 rfl (lv_at hl 0 rfl) ?_
      refine lv_iconst (v := 2) hx hb dX3_primeOf_18 (by decide) ?_
      refine lv_icmp_ne (tgt := 26) hx hb dX3_primeOf_19 (by decide) (fun c_3 => ?_) (fun c_3 => ?_)
      · refine lv_iload_n hx hb dX3_primeOf_26 rfl (lv_at hl 0 rfl) ?_
        refine lv_iconst (v := 3) hx hb dX3_primeOf_27 (by decide) ?_
        refine lv_icmp_ne (tgt := 36) hx hb dX3_primeOf_28 (by decide) (fun c_4 => ?_) (fun c_4 => ?_)
        · refine lv_bipush (v := 11) hx hb dX3_primeOf_36 (by decide) ?_
          exact W.iret (v := 11) hx hb hr (fun t ht hW => ⟨11, rfl, by simp [zi, c_1, c_2, c_3, c_4], ht⟩) (fun _ h => nomatch h) dX3_primeOf_38
        · refine lv_bipush (v := 7) hx hb dX3_primeOf_31 (by decide) ?_
          refine lv_goto (tgt := 38) hx hb dX3_primeOf_33 (by decide) ?_
          exact W.iret (v := 7) hx hb hr (fun t ht hW => ⟨7, rfl, by simp [zi, c_1, c_2, c_3, c_4], ht⟩) (fun _ h => nomatch h) dX3_primeOf_38
      · refine lv_iconst (v := 5) hx hb dX3_primeOf_22 (by decide) ?_
        refine lv_goto (tgt := 38) hx hb dX3_primeOf_23 (by decide) ?_
        exact W.iret (v := 5) hx hb hr (fun t ht hW => ⟨5, rfl, by simp [zi, c_1, c_2, c_3], ht⟩) (fun _ h => nomatch h) dX3_primeOf_38
    · refine lv_iconst (v := 3) hx hb dX3_primeOf_13 (by decide) ?_
      refine lv_goto (tgt := 38) hx hb dX3_primeOf_14 (by decide) ?_
      exact W.iret (v := 3) hx hb hr (fun t ht hW => ⟨3, rfl, by simp [zi, c_1, c_2], ht⟩) (fun _ h => nomatch h) dX3_primeOf_38
  · refine lv_iconst (v := 2) hx hb dX3_primeOf_4 (by decide) ?_
    refine lv_goto (tgt := 38) hx hb dX3_primeOf_5 (by decide) ?_
    exact W.iret (v := 2) hx hb hr (fun t ht hW => ⟨2, rfl, by simp [zi, c_1], ht⟩) (fun _ h => nomatch h) dX3_primeOf_38
/-- a piece's numbers f: whether it has a pole, an endless tail, diverges from a to b; its powers at x; whether it mirrors another -/
def p_pole (f : Nat → Int32) : Bool := !decide (f 4 = 0) || !decide (f 5 = 0) || !decide (f 6 = 0)
def p_tail (f : Nat → Int32) : Bool := !decide (f 0 = 0) || !decide (f 1 = 0) || !decide (f 2 = 0) || !decide (f 3 = 0) || !decide (f 4 = 0)
def p_div (f : Nat → Int32) (a b : Int32) : Bool := (p_pole f && !decide (f 7 < a) && !decide (b < f 7)) || ((x_less a || x_less b) && p_tail f)
def p_mir (f g : Nat → Int32) (s : Int32) : Bool := (decide (f 0 = s * gl_sign 0 * g 0) && decide (f 1 = s * gl_sign 1 * g 1) && decide (f 2 = s * gl_sign 2 * g 2) && decide (f 3 = s * gl_sign 3 * g 3) && decide (f 4 = s * gl_sign 4 * g 4) && decide (f 5 = s * gl_sign 5 * g 5) && decide (f 6 = s * gl_sign 6 * g 6)) && (!p_pole f || decide (f 7 = -g 7))
def p_powers (f : Nat → Int32) (x : Int64) : Int64 := (f 0).toInt64 + x * ((f 1).toInt64 + x * ((f 2).toInt64 + x * (f 3).toInt64))
set_option maxHeartbeats 4000000 in
set_option maxRecDepth 100000 in
theorem c_X0_hasPole (l : Launch) (D : va_G) (cI cL cQ : ClassId) (h n : Nat) (f : Nat → Int32) : Met l yX0_hasPole wsX0_hasPole { frames := 0, cells := 0, slots := 0, locals := 0 } (va_Pc [.ref h] (pu_B D (ty3 cI cL cQ) [(h, .inr (0, [.ref n])), (n, .inl (cI, 8, .inl f))])) (vp_Si (fun r => r = zi (p_pole f))) 0 0 (fun _ => False) := by
  refine Met.ofW (cc := cX0_hasPole) (maxL := 1) (ret := (some .boolean)) (by decide) rfl ?_
  intro p e s m args below meth c s₁ B hml hv
  obtain ⟨rfl, hK, hP⟩ := hv
  have hx := B.exec
  have hb := B.bytes
  have hr := B.returns
  have hts := atoms_spec (ws := wsX0_hasPole) B.pre
  have hg : ∀ w ∈ gw, w.before ([.ref h] : List Value).toArray s = true := fun w h => hts w (List.mem_cons_of_mem _ h)
  have hown : s.vm.findClass RX0 = some m.cls := findClass_of_methodNamed B.named
  have hlocks := B.notSynchronized
  have hl := lv_entry ([.ref h]) (n := 1) (Nat.le_of_ble_eq_true rfl)
  rw [lg_entry_eq]
  generalize (lg_sl ([.ref h]) ++ List.replicate (1 - (lg_sl ([.ref h])).length) Slot.unset).toArray = ls at hl ⊢
  have hl : lv_has ls 1 [(0, .ref h)] := hl
  refine lv_aload_n hx hb dX0_hasPole_0 rfl (lv_at hl 0 rfl) ?_
  refine va_get (D := D) (ci := 0) (v := .ref n) (C := RX0) (T := TX0) (N := 1) hx hb hg inX0 hown hK hP 0 rfl rfl 0 (by decide) (hg _ fl_X0_9) (fun _ h9 => h9) rfl dX0_hasPole_1 ?_
  refine lv_iconst (v := 4) hx hb dX0_hasPole_4 (by decide) ?_
  refine va_iald (D := D) (n := 8) (f := f) hx hb hK hP 1 0 rfl rfl (vp_in_nI (show 4 < 8 by decide) (by decide)) dX0_hasPole_5 ?_
  rw [show (4 : Int32).toNatClampNeg = 4 from by decide]
  refine lv_if_ne (tgt := 28) hx hb dX0_hasPole_6 (by decide) (fun c_1 => ?_) (fun c_1 => ?_)
  · refine lv_iconst (v := 1) hx hb dX0_hasPole_28 (by decide) ?_
    refine lv_goto (tgt := 33) hx hb dX0_hasPole_29 (by decide) ?_
    exact W.zret (v := 1) hx hb hr rfl (fun t ht hW => ⟨1, rfl, by simp [zi, p_pole, c_1], ht⟩) (fun _ h => nomatch h) dX0_hasPole_33
  · refine lv_aload_n hx hb dX0_hasPole_9 rfl (lv_at hl 0 rfl) ?_
    refine va_get (D := D) (ci := 0) (v := .ref n) (C := RX0) (T := TX0) (N := 1) hx hb hg inX0 hown hK hP 0 rfl rfl 0 (by decide) (hg _ fl_X0_9) (fun _ h9 => h9) rfl dX0_hasPole_10 ?_
    refine lv_iconst (v := 5) hx hb dX0_hasPole_13 (by decide) ?_
    refine va_iald (D := D) (n := 8) (f := f) hx hb hK hP 1 0 rfl rfl (vp_in_nI (show 5 < 8 by decide) (by decide)) dX0_hasPole_14 ?_
    rw [show (5 : Int32).toNatClampNeg = 5 from by decide]
    refine lv_if_ne (tgt := 28) hx hb dX0_hasPole_15 (by decide) (fun c_2 => ?_) (fun c_2 => ?_)
    · refine lv_iconst (v := 1) hx hb dX0_hasPole_28 (by decide) ?_
      refine lv_goto (tgt := 33) hx hb dX0_hasPole_29 (by decide) ?_
      exact W.zret (v := 1) hx hb hr rfl (fun t ht hW => ⟨1, rfl, by simp [zi, p_pole, c_1, c_2], ht⟩) (fun _ h => nomatch h) dX0_hasPole_33
    · refine lv_aload_n hx hb dX0_hasPole_18 rfl (lv_at hl 0 rfl) ?_
      refine va_get (D := D) (ci := 0) (v := .ref n) (C := RX0) (T := TX0) (N := 1) hx hb hg inX0 hown hK hP 0 rfl rfl 0 (by decide) (hg _ fl_X0_9) (fun _ h9 => h9) rfl dX0_hasPole_19 ?_
      refine lv_bipush (v := 6) hx hb dX0_hasPole_22 (by decide) ?_
      refine va_iald (D := D) (n := 8) (f := f) hx hb hK hP 1 0 rfl rfl (vp_in_nI (show 6 < 8 by decide) (by decide)) dX0_hasPole_24 ?_
      rw [show (6 : Int32).toNatClampNeg = 6 from by decide]
      refine lv_if_eq (tgt := 32) hx hb dX0_hasPole_25 (by decide) (fun c_3 => ?_) (fun c_3 => ?_)
      · refine lv_iconst (v := 0) hx hb dX0_hasPole_32 (by decide) ?_
        exact W.zret (v := 0) hx hb hr rfl (fun t ht hW => ⟨0, rfl, by simp [zi, p_pole, c_1, c_2, c_3], ht⟩) (fun _ h => nomatch h) dX0_hasPole_33
      · refine lv_iconst (v := 1) hx hb dX0_hasPole_28 (by decide) ?_
        refine lv_goto (tgt := 33) hx hb dX0_hasPole_29 (by decide) ?_
        exact W.zret (v := 1) hx hb hr rfl (fun t ht hW => ⟨1, rfl, by simp [zi, p_pole, c_1, c_2, c_3], ht⟩) (fun _ h => nomatch h) dX0_hasPole_33
set_option maxHeartbeats 4000000 in
set_option maxRecDepth 100000 in
theorem c_X0_hasEndlessTail (l : Launch) (D : va_G) (cI cL cQ : ClassId) (h n : Nat) (f : Nat → Int32) : Met l yX0_hasEndlessTail wsX0_hasEndlessTail { frames := 0, cells := 0, slots := 0, locals := 0 } (va_Pc [.ref h] (pu_B D (ty3 cI cL cQ) [(h, .inr (0, [.ref n])), (n, .inl (cI, 8, .inl f))])) (vp_Si (fun r => r = zi (p_tail f))) 0 0 (fun _ => False) := by
  refine Met.ofW (cc := cX0_hasEndlessTail) (maxL := 2) (ret := (some .boolean)) (by decide) rfl ?_
  intro p e s m args below meth c s₁ B hml hv
  obtain ⟨rfl, hK, hP⟩ := hv
  have hx := B.exec
  have hb := B.bytes
  have hr := B.returns
  have hts := atoms_spec (ws := wsX0_hasEndlessTail) B.pre
  have hg : ∀ w ∈ gw, w.before ([.ref h] : List Value).toArray s = true := fun w h => hts w (List.mem_cons_of_mem _ h)
  have hown : s.vm.findClass RX0 = some m.cls := findClass_of_methodNamed B.named
  have hlocks := B.notSynchronized
  have hl := lv_entry ([.ref h]) (n := 2) (Nat.le_of_ble_eq_true rfl)
  rw [lg_entry_eq]
  generalize (lg_sl ([.ref h]) ++ List.replicate (2 - (lg_sl ([.ref h])).length) Slot.unset).toArray = ls at hl ⊢
  have hl : lv_has ls 2 [(0, .ref h)] := hl
  refine lv_iconst (v := 0) hx hb dX0_hasEndlessTail_0 (by decide) ?_
  refine lv_istore_n (lv' := [(1, .int 0), (0, .ref h)]) hx hb dX0_hasEndlessTail_1 rfl hl (by decide) rfl (fun ls hl => ?_)
  refine lv_iload_n hx hb dX0_hasEndlessTail_2 rfl (lv_at hl 0 rfl) ?_
  refine lv_iconst (v := 4) hx hb dX0_hasEndlessTail_3 (by decide) ?_
  refine lv_icmp_gt (tgt := 24) hx hb dX0_hasEndlessTail_4 (by decide) (fun c_1 => absurd c_1 (by decide)) (fun _ => ?_)
  refine lv_aload_n hx hb dX0_hasEndlessTail_7 rfl (lv_at hl 1 rfl) ?_
  refine va_get (D := D) (ci := 0) (v := .ref n) (C := RX0) (T := TX0) (N := 1) hx hb hg inX0 hown hK hP 0 rfl rfl 0 (by decide) (hg _ fl_X0_9) (fun _ h9 => h9) rfl dX0_hasEndlessTail_8 ?_
  refine lv_iload_n hx hb dX0_hasEndlessTail_11 rfl (lv_at hl 0 rfl) ?_
  refine va_iald (D := D) (n := 8) (f := f) hx hb hK hP 1 0 rfl rfl (vp_in_nI (show 0 < 8 by decide) (by decide)) dX0_hasEndlessTail_12 ?_
  rw [show (0 : Int32).toNatClampNeg = 0 from by decide]
  refine lv_if_eq (tgt := 18) hx hb dX0_hasEndlessTail_13 (by decide) (fun c_2 => ?_) (fun c_2 => ?_)
  · refine lv_iinc (v := 1) (lv' := [(1, .int 1), (0, .ref h)]) hx hb dX0_hasEndlessTail_18 hl (k := 0) rfl (by decide) (by decide) rfl (fun ls hl => ?_)
    refine lv_goto (tgt := 2) hx hb dX0_hasEndlessTail_21 (by decide) ?_
    refine lv_iload_n hx hb dX0_hasEndlessTail_2 rfl (lv_at hl 0 rfl) ?_
    refine lv_iconst (v := 4) hx hb dX0_hasEndlessTail_3 (by decide) ?_
    refine lv_icmp_gt (tgt := 24) hx hb dX0_hasEndlessTail_4 (by decide) (fun c_3 => absurd c_3 (by decide)) (fun _ => ?_)
    refine lv_aload_n hx hb dX0_hasEndlessTail_7 rfl (lv_at hl 1 rfl) ?_
    refine va_get (D := D) (ci := 0) (v := .ref n) (C := RX0) (T := TX0) (N := 1) hx hb hg inX0 hown hK hP 0 rfl rfl 0 (by decide) (hg _ fl_X0_9) (fun _ h9 => h9) rfl dX0_hasEndlessTail_8 ?_
    refine lv_iload_n hx hb dX0_hasEndlessTail_11 rfl (lv_at hl 0 rfl) ?_
    refine va_iald (D := D) (n := 8) (f := f) hx hb hK hP 1 0 rfl rfl (vp_in_nI (show 1 < 8 by decide) (by decide)) dX0_hasEndlessTail_12 ?_
    rw [show (1 : Int32).toNatClampNeg = 1 from by decide]
    refine lv_if_eq (tgt := 18) hx hb dX0_hasEndlessTail_13 (by decide) (fun c_4 => ?_) (fun c_4 => ?_)
    · refine lv_iinc (v := 2) (lv' := [(1, .int 2), (0, .ref h)]) hx hb dX0_hasEndlessTail_18 hl (k := 0) rfl (by decide) (by decide) rfl (fun ls hl => ?_)
      refine lv_goto (tgt := 2) hx hb dX0_hasEndlessTail_21 (by decide) ?_
      refine lv_iload_n hx hb dX0_hasEndlessTail_2 rfl (lv_at hl 0 rfl) ?_
      refine lv_iconst (v := 4) hx hb dX0_hasEndlessTail_3 (by decide) ?_
      refine lv_icmp_gt (tgt := 24) hx hb dX0_hasEndlessTail_4 (by decide) (fun c_5 => absurd c_5 (by decide)) (fun _ => ?_)
      refine lv_aload_n hx hb dX0_hasEndlessTail_7 rfl (lv_at hl 1 rfl) ?_
      refine va_get (D := D) (ci := 0) (v := .ref n) (C := RX0) (T := TX0) (N := 1) hx hb hg inX0 hown hK hP 0 rfl rfl 0 (by decide) (hg _ fl_X0_9) (fun _ h9 => h9) rfl dX0_hasEndlessTail_8 ?_
      refine lv_iload_n hx hb dX0_hasEndlessTail_11 rfl (lv_at hl 0 rfl) ?_
      refine va_iald (D := D) (n := 8) (f := f) hx hb hK hP 1 0 rfl rfl (vp_in_nI (show 2 < 8 by decide) (by decide)) dX0_hasEndlessTail_12 ?_
      rw [show (2 : Int32).toNatClampNeg = 2 from by decide]
      refine lv_if_eq (tgt := 18) hx hb dX0_hasEndlessTail_13 (by decide) (fun c_6 => ?_) (fun c_6 => ?_)
      · refine lv_iinc (v := 3) (lv' := [(1, .int 3), (0, .ref h)]) hx hb dX0_hasEndlessTail_18 hl (k := 0) rfl (by decide) (by decide) rfl (fun ls hl => ?_)
        refine lv_goto (tgt := 2) hx hb dX0_hasEndlessTail_21 (by decide) ?_
        refine lv_iload_n hx hb dX0_hasEndlessTail_2 rfl (lv_at hl 0 rfl) ?_
        refine lv_iconst (v := 4) hx hb dX0_hasEndlessTail_3 (by decide) ?_
        refine lv_icmp_gt (tgt := 24) hx hb dX0_hasEndlessTail_4 (by decide) (fun c_7 => absurd c_7 (by decide)) (fun _ => ?_)
        refine lv_aload_n hx hb dX0_hasEndlessTail_7 rfl (lv_at hl 1 rfl) ?_
        refine va_get (D := D) (ci := 0) (v := .ref n) (C := RX0) (T := TX0) (N := 1) hx hb hg inX0 hown hK hP 0 rfl rfl 0 (by decide) (hg _ fl_X0_9) (fun _ h9 => h9) rfl dX0_hasEndlessTail_8 ?_
        refine lv_iload_n hx hb dX0_hasEndlessTail_11 rfl (lv_at hl 0 rfl) ?_
        refine va_iald (D := D) (n := 8) (f := f) hx hb hK hP 1 0 rfl rfl (vp_in_nI (show 3 < 8 by decide) (by decide)) dX0_hasEndlessTail_12 ?_
        rw [show (3 : Int32).toNatClampNeg = 3 from by decide]
        refine lv_if_eq (tgt := 18) hx hb dX0_hasEndlessTail_13 (by decide) (fun c_8 => ?_) (fun c_8 => ?_)
        · refine lv_iinc (v := 4) (lv' := [(1, .int 4), (0, .ref h)]) hx hb dX0_hasEndlessTail_18 hl (k := 0) rfl (by decide) (by decide) rfl (fun ls hl => ?_)
          refine lv_goto (tgt := 2) hx hb dX0_hasEndlessTail_21 (by decide) ?_
          refine lv_iload_n hx hb dX0_hasEndlessTail_2 rfl (lv_at hl 0 rfl) ?_
          refine lv_iconst (v := 4) hx hb dX0_hasEndlessTail_3 (by decide) ?_
          refine lv_icmp_gt (tgt := 24) hx hb dX0_hasEndlessTail_4 (by decide) (fun c_9 => absurd c_9 (by decide)) (fun _ => ?_)
          refine lv_aload_n hx hb dX0_hasEndlessTail_7 rfl (lv_at hl 1 rfl) ?_
          refine va_get (D := D) (ci := 0) (v := .ref n) (C := RX0) (T := TX0) (N := 1) hx hb hg inX0 hown hK hP 0 rfl rfl 0 (by decide) (hg _ fl_X0_9) (fun _ h9 => h9) rfl dX0_hasEndlessTail_8 ?_
          refine lv_iload_n hx hb dX0_hasEndlessTail_11 rfl (lv_at hl 0 rfl) ?_
          refine va_iald (D := D) (n := 8) (f := f) hx hb hK hP 1 0 rfl rfl (vp_in_nI (show 4 < 8 by decide) (by decide)) dX0_hasEndlessTail_12 ?_
          rw [show (4 : Int32).toNatClampNeg = 4 from by decide]
          refine lv_if_eq (tgt := 18) hx hb dX0_hasEndlessTail_13 (by decide) (fun c_10 => ?_) (fun c_10 => ?_)
          · refine lv_iinc (v := 5) (lv' := [(1, .int 5), (0, .ref h)]) hx hb dX0_hasEndlessTail_18 hl (k := 0) rfl (by decide) (by decide) rfl (fun ls hl => ?_)
            refine lv_goto (tgt := 2) hx hb dX0_hasEndlessTail_21 (by decide) ?_
            refine lv_iload_n hx hb dX0_hasEndlessTail_2 rfl (lv_at hl 0 rfl) ?_
            refine lv_iconst (v := 4) hx hb dX0_hasEndlessTail_3 (by decide) ?_
            refine lv_icmp_gt (tgt := 24) hx hb dX0_hasEndlessTail_4 (by decide) (fun _ => ?_) (fun c_11 => absurd c_11 (by decide))
            refine lv_iconst (v := 0) hx hb dX0_hasEndlessTail_24 (by decide) ?_
            exact W.zret (v := 0) hx hb hr rfl (fun t ht hW => ⟨0, rfl, by simp [zi, p_tail, c_2, c_4, c_6, c_8, c_10], ht⟩) (fun _ h => nomatch h) dX0_hasEndlessTail_25
          · refine lv_iconst (v := 1) hx hb dX0_hasEndlessTail_16 (by decide) ?_
            exact W.zret (v := 1) hx hb hr rfl (fun t ht hW => ⟨1, rfl, by simp [zi, p_tail, c_2, c_4, c_6, c_8, c_10], ht⟩) (fun _ h => nomatch h) dX0_hasEndlessTail_17
        · refine lv_iconst (v := 1) hx hb dX0_hasEndlessTail_16 (by decide) ?_
          exact W.zret (v := 1) hx hb hr rfl (fun t ht hW => ⟨1, rfl, by simp [zi, p_tail, c_2, c_4, c_6, c_8], ht⟩) (fun _ h => nomatch h) dX0_hasEndlessTail_17
      · refine lv_iconst (v := 1) hx hb dX0_hasEndlessTail_16 (by decide) ?_
        exact W.zret (v := 1) hx hb hr rfl (fun t ht hW => ⟨1, rfl, by simp [zi, p_tail, c_2, c_4, c_6], ht⟩) (fun _ h => nomatch h) dX0_hasEndlessTail_17
    · refine lv_iconst (v := 1) hx hb dX0_hasEndlessTail_16 (by decide) ?_
      exact W.zret (v := 1) hx hb hr rfl (fun t ht hW => ⟨1, rfl, by simp [zi, p_tail, c_2, c_4], ht⟩) (fun _ h => nomatch h) dX0_hasEndlessTail_17
  · refine lv_iconst (v := 1) hx hb dX0_hasEndlessTail_16 (by decide) ?_
    exact W.zret (v := 1) hx hb hr rfl (fun t ht hW => ⟨1, rfl, by simp [zi, p_tail, c_2], ht⟩) (fun _ h => nomatch h) dX0_hasEndlessTail_17
set_option maxHeartbeats 4000000 in
set_option maxRecDepth 100000 in
theorem c_X0_powersAt (l : Launch) (D : va_G) (cI cL cQ : ClassId) (h n : Nat) (f : Nat → Int32) (x : Int64) : Met l yX0_powersAt wsX0_powersAt { frames := 0, cells := 0, slots := 0, locals := 0 } (va_Pc [.ref h, .long x] (pu_B D (ty3 cI cL cQ) [(h, .inr (0, [.ref n])), (n, .inl (cI, 8, .inl f))])) (vp_Sl (fun r => r = p_powers f x)) 0 0 (fun _ => False) := by
  refine Met.ofW (cc := cX0_powersAt) (maxL := 3) (ret := (some .long)) (by decide) rfl ?_
  intro p e s m args below meth c s₁ B hml hv
  obtain ⟨rfl, hK, hP⟩ := hv
  have hx := B.exec
  have hb := B.bytes
  have hr := B.returns
  have hts := atoms_spec (ws := wsX0_powersAt) B.pre
  have hg : ∀ w ∈ gw, w.before ([.ref h, .long x] : List Value).toArray s = true := fun w h => hts w (List.mem_cons_of_mem _ h)
  have hown : s.vm.findClass RX0 = some m.cls := findClass_of_methodNamed B.named
  have hlocks := B.notSynchronized
  have hl := lv_entry ([.ref h, .long x]) (n := 3) (Nat.le_of_ble_eq_true rfl)
  rw [lg_entry_eq]
  generalize (lg_sl ([.ref h, .long x]) ++ List.replicate (3 - (lg_sl ([.ref h, .long x])).length) Slot.unset).toArray = ls at hl ⊢
  have hl : lv_has ls 3 [(0, .ref h), (1, .long x)] := hl
  refine lv_aload_n hx hb dX0_powersAt_0 rfl (lv_at hl 0 rfl) ?_
  refine va_get (D := D) (ci := 0) (v := .ref n) (C := RX0) (T := TX0) (N := 1) hx hb hg inX0 hown hK hP 0 rfl rfl 0 (by decide) (hg _ fl_X0_9) (fun _ h9 => h9) rfl dX0_powersAt_1 ?_
  refine lv_iconst (v := 0) hx hb dX0_powersAt_4 (by decide) ?_
  refine va_iald (D := D) (n := 8) (f := f) hx hb hK hP 1 0 rfl rfl (vp_in_nI (show 0 < 8 by decide) (by decide)) dX0_powersAt_5 ?_
  rw [show (0 : Int32).toNatClampNeg = 0 from by decide]
  refine lv_i2l hx hb dX0_powersAt_6 rfl ?_
  refine lv_lload_n hx hb dX0_powersAt_7 rfl (lv_at hl 1 rfl) ?_
  refine lv_aload_n hx hb dX0_powersAt_8 rfl (lv_at hl 0 rfl) ?_
  refine va_get (D := D) (ci := 0) (v := .ref n) (C := RX0) (T := TX0) (N := 1) hx hb hg inX0 hown hK hP 0 rfl rfl 0 (by decide) (hg _ fl_X0_9) (fun _ h9 => h9) rfl dX0_powersAt_9 ?_
  refine lv_iconst (v := 1) hx hb dX0_powersAt_12 (by decide) ?_
  refine va_iald (D := D) (n := 8) (f := f) hx hb hK hP 1 0 rfl rfl (vp_in_nI (show 1 < 8 by decide) (by decide)) dX0_powersAt_13 ?_
  rw [show (1 : Int32).toNatClampNeg = 1 from by decide]
  refine lv_i2l hx hb dX0_powersAt_14 rfl ?_
  refine lv_lload_n hx hb dX0_powersAt_15 rfl (lv_at hl 1 rfl) ?_
  refine lv_aload_n hx hb dX0_powersAt_16 rfl (lv_at hl 0 rfl) ?_
  refine va_get (D := D) (ci := 0) (v := .ref n) (C := RX0) (T := TX0) (N := 1) hx hb hg inX0 hown hK hP 0 rfl rfl 0 (by decide) (hg _ fl_X0_9) (fun _ h9 => h9) rfl dX0_powersAt_17 ?_
  refine lv_iconst (v := 2) hx hb dX0_powersAt_20 (by decide) ?_
  refine va_iald (D := D) (n := 8) (f := f) hx hb hK hP 1 0 rfl rfl (vp_in_nI (show 2 < 8 by decide) (by decide)) dX0_powersAt_21 ?_
  rw [show (2 : Int32).toNatClampNeg = 2 from by decide]
  refine lv_i2l hx hb dX0_powersAt_22 rfl ?_
  refine lv_lload_n hx hb dX0_powersAt_23 rfl (lv_at hl 1 rfl) ?_
  refine lv_aload_n hx hb dX0_powersAt_24 rfl (lv_at hl 0 rfl) ?_
  refine va_get (D := D) (ci := 0) (v := .ref n) (C := RX0) (T := TX0) (N := 1) hx hb hg inX0 hown hK hP 0 rfl rfl 0 (by decide) (hg _ fl_X0_9) (fun _ h9 => h9) rfl dX0_powersAt_25 ?_
  refine lv_iconst (v := 3) hx hb dX0_powersAt_28 (by decide) ?_
  refine va_iald (D := D) (n := 8) (f := f) hx hb hK hP 1 0 rfl rfl (vp_in_nI (show 3 < 8 by decide) (by decide)) dX0_powersAt_29 ?_
  rw [show (3 : Int32).toNatClampNeg = 3 from by decide]
  refine lv_i2l hx hb dX0_powersAt_30 rfl ?_
  refine lv_lmul hx hb dX0_powersAt_31 ?_
  refine lv_ladd hx hb dX0_powersAt_32 ?_
  refine lv_lmul hx hb dX0_powersAt_33 ?_
  refine lv_ladd hx hb dX0_powersAt_34 ?_
  refine lv_lmul hx hb dX0_powersAt_35 ?_
  refine lv_ladd hx hb dX0_powersAt_36 ?_
  exact W.lret (v := ((f 0).toInt64 + (x * ((f 1).toInt64 + (x * ((f 2).toInt64 + (x * (f 3).toInt64))))))) hx hb hr (fun t ht hW => ⟨((f 0).toInt64 + (x * ((f 1).toInt64 + (x * ((f 2).toInt64 + (x * (f 3).toInt64)))))), rfl, rfl, ht⟩) (fun _ h => nomatch h) dX0_powersAt_37
set_option maxHeartbeats 4000000 in
set_option maxRecDepth 100000 in
theorem c_X0_diverges (l : Launch) (A : Nat → Prop) (D : va_G) (cI cL cQ : ClassId) (h n : Nat) (f : Nat → Int32) (a b : Int32) : Met l yX0_diverges wsX0_diverges { frames := 1, cells := 0, slots := 0, locals := 21 } (va_Pc [.ref h, .int a, .int b] (fun U => gl_G A U U.heap ∧ pu_B D (ty3 cI cL cQ) [(h, .inr (0, [.ref n])), (n, .inl (cI, 8, .inl f))] U)) (vp_Si (fun r => r = zi (p_div f a b))) 0 0 (fun _ => False) := by
  refine Met.ofW (cc := cX0_diverges) (maxL := 5) (ret := (some .boolean)) (by decide) rfl ?_
  intro p e s m args below meth c s₁ B hml hv
  obtain ⟨rfl, hG, hK, hP⟩ := hv
  have hx := B.exec
  have hb := B.bytes
  have hr := B.returns
  have hts := atoms_spec (ws := wsX0_diverges) B.pre
  have hg : ∀ w ∈ gw, w.before ([.ref h, .int a, .int b] : List Value).toArray s = true := fun w h => hts w (List.mem_cons_of_mem _ h)
  have hown : s.vm.findClass RX0 = some m.cls := findClass_of_methodNamed B.named
  have hlocks := B.notSynchronized
  have hl := lv_entry ([.ref h, .int a, .int b]) (n := 5) (Nat.le_of_ble_eq_true rfl)
  rw [lg_entry_eq]
  generalize (lg_sl ([.ref h, .int a, .int b]) ++ List.replicate (5 - (lg_sl ([.ref h, .int a, .int b])).length) Slot.unset).toArray = ls at hl ⊢
  have hl : lv_has ls 5 [(0, .ref h), (1, .int a), (2, .int b)] := hl
  have K34 : W p l e (headSpec wsX0_diverges { frames := 1, cells := 0, slots := 0, locals := 21 }).room s m ([.ref h, .int a, .int b] : List Value).toArray below meth c s.heap [] 0 0 (MQ below (vp_Si (fun r => r = zi (p_div f a b))) ([.ref h, .int a, .int b] : List Value).toArray s 0 0 (fun _ => False)) (F0 m 34 ls [.int (zi (p_pole f && !decide (f 7 < a) && !decide (b < f 7)))]) := by
    refine lv_istore_n (lv' := [(3, .int (zi (p_pole f && !decide (f 7 < a) && !decide (b < f 7)))), (0, .ref h), (1, .int a), (2, .int b)]) hx hb dX0_diverges_34 rfl hl (by decide) rfl (fun ls hl => ?_)
    refine lv_iload_n hx hb dX0_diverges_35 rfl (lv_at hl 2 rfl) ?_
    refine vp_callSi (va_Run.run (va_runSN (As := [.int a]) (rest := []) ⟨hx, hb, hml, hown, hg⟩ (c_X2_isEndless l a) ⟨va_cnB 1 hg (gw_C co_X2_isEndless) rfl rfl rfl (hG.1 _ mn_X0_34) (hg _ ini_X2) (by decide +kernel) ⟨Nat.le_of_ble_eq_true rfl, Nat.le_of_ble_eq_true rfl⟩, hg _ sm_X2_isEndless, trivial⟩ ⟨tt_blind, (fun U hU hW => ⟨rfl, trivial⟩)⟩ rfl rfl hl.1 rfl (lv_room (Nat.le_of_ble_eq_true rfl)) dX0_diverges_36 ⟨Nat.le_of_ble_eq_true rfl, Nat.le_of_ble_eq_true rfl⟩)) (fun r_1 hr_1 => ?_)
    subst hr_1
    refine lv_if_ne (tgt := 49) hx hb dX0_diverges_39 (by decide) (fun c_2 => ?_) (fun c_2 => ?_)
    · replace c_2 := zi_n0 c_2
      refine lv_iconst (v := 1) hx hb dX0_diverges_49 (by decide) ?_
      refine lv_goto (tgt := 54) hx hb dX0_diverges_50 (by decide) ?_
      refine lv_istore (lv' := [(4, .int 1), (3, .int (zi (p_pole f && !decide (f 7 < a) && !decide (b < f 7)))), (0, .ref h), (1, .int a), (2, .int b)]) hx hb dX0_diverges_54 hl (by decide) rfl (fun ls hl => ?_)
      refine lv_iload_n hx hb dX0_diverges_56 rfl (lv_at hl 1 rfl) ?_
      refine lv_if_ne (tgt := 72) hx hb dX0_diverges_57 (by decide) (fun c_3 => ?_) (fun c_3 => ?_)
      · replace c_3 := zi_n0 c_3
        refine lv_iconst (v := 1) hx hb dX0_diverges_72 (by decide) ?_
        refine lv_goto (tgt := 77) hx hb dX0_diverges_73 (by decide) ?_
        exact W.zret (v := 1) hx hb hr rfl (fun t ht hW => ⟨1, rfl, by simp [zi, p_div, c_2, c_3], ht⟩) (fun _ h => nomatch h) dX0_diverges_77
      · replace c_3 := zi_0 c_3
        refine lv_iload hx hb dX0_diverges_60 (lv_at hl 0 rfl) ?_
        refine lv_if_eq (tgt := 76) hx hb dX0_diverges_62 (by decide) (fun c_4 => absurd c_4 (by decide)) (fun _ => ?_)
        refine lv_aload_n hx hb dX0_diverges_65 rfl (lv_at hl 2 rfl) ?_
        refine vp_callSi (W.runV (As := []) (rest := []) ⟨hx, hb, hml, hown, hg⟩ (c_X0_hasEndlessTail l D cI cL cQ h n f) (cwV 0 hg (gw_V ml_X0_38 im_X0_hasEndlessTail se_X0_hasEndlessTail ini_X0 co_X0_hasEndlessTail) rfl rfl rfl (by decide +kernel) ⟨Nat.le_of_ble_eq_true rfl, Nat.le_of_ble_eq_true rfl⟩) ⟨pu_B.blind, va_recv hK hP (ci := 0) (q0 := 0) rfl rfl, (fun U hU hW => ⟨rfl, pu_B.at hK hP hU hW⟩)⟩ rfl rfl hl.1 rfl (lv_room (Nat.le_of_ble_eq_true rfl)) dX0_diverges_66 ⟨Nat.le_of_ble_eq_true rfl, Nat.le_of_ble_eq_true rfl⟩) (fun r_5 hr_5 => ?_)
        subst hr_5
        refine lv_if_eq (tgt := 76) hx hb dX0_diverges_69 (by decide) (fun c_6 => ?_) (fun c_6 => ?_)
        · replace c_6 := zi_0 c_6
          refine lv_iconst (v := 0) hx hb dX0_diverges_76 (by decide) ?_
          exact W.zret (v := 0) hx hb hr rfl (fun t ht hW => ⟨0, rfl, by simp [zi, p_div, c_2, c_3, c_6], ht⟩) (fun _ h => nomatch h) dX0_diverges_77
        · replace c_6 := zi_n0 c_6
          refine lv_iconst (v := 1) hx hb dX0_diverges_72 (by decide) ?_
          refine lv_goto (tgt := 77) hx hb dX0_diverges_73 (by decide) ?_
          exact W.zret (v := 1) hx hb hr rfl (fun t ht hW => ⟨1, rfl, by simp [zi, p_div, c_2, c_3, c_6], ht⟩) (fun _ h => nomatch h) dX0_diverges_77
    · replace c_2 := zi_0 c_2
      refine lv_iload_n hx hb dX0_diverges_42 rfl (lv_at hl 3 rfl) ?_
      refine vp_callSi (va_Run.run (va_runSN (As := [.int b]) (rest := []) ⟨hx, hb, hml, hown, hg⟩ (c_X2_isEndless l b) ⟨va_cnB 1 hg (gw_C co_X2_isEndless) rfl rfl rfl (hG.1 _ mn_X0_34) (hg _ ini_X2) (by decide +kernel) ⟨Nat.le_of_ble_eq_true rfl, Nat.le_of_ble_eq_true rfl⟩, hg _ sm_X2_isEndless, trivial⟩ ⟨tt_blind, (fun U hU hW => ⟨rfl, trivial⟩)⟩ rfl rfl hl.1 rfl (lv_room (Nat.le_of_ble_eq_true rfl)) dX0_diverges_43 ⟨Nat.le_of_ble_eq_true rfl, Nat.le_of_ble_eq_true rfl⟩)) (fun r_7 hr_7 => ?_)
      subst hr_7
      refine lv_if_eq (tgt := 53) hx hb dX0_diverges_46 (by decide) (fun c_8 => ?_) (fun c_8 => ?_)
      · replace c_8 := zi_0 c_8
        refine lv_iconst (v := 0) hx hb dX0_diverges_53 (by decide) ?_
        refine lv_istore (lv' := [(4, .int 0), (3, .int (zi (p_pole f && !decide (f 7 < a) && !decide (b < f 7)))), (0, .ref h), (1, .int a), (2, .int b)]) hx hb dX0_diverges_54 hl (by decide) rfl (fun ls hl => ?_)
        refine lv_iload_n hx hb dX0_diverges_56 rfl (lv_at hl 1 rfl) ?_
        refine lv_if_ne (tgt := 72) hx hb dX0_diverges_57 (by decide) (fun c_9 => ?_) (fun c_9 => ?_)
        · replace c_9 := zi_n0 c_9
          refine lv_iconst (v := 1) hx hb dX0_diverges_72 (by decide) ?_
          refine lv_goto (tgt := 77) hx hb dX0_diverges_73 (by decide) ?_
          exact W.zret (v := 1) hx hb hr rfl (fun t ht hW => ⟨1, rfl, by simp [zi, p_div, c_2, c_8, c_9], ht⟩) (fun _ h => nomatch h) dX0_diverges_77
        · replace c_9 := zi_0 c_9
          refine lv_iload hx hb dX0_diverges_60 (lv_at hl 0 rfl) ?_
          refine lv_if_eq (tgt := 76) hx hb dX0_diverges_62 (by decide) (fun _ => ?_) (fun c_10 => absurd c_10 (by decide))
          refine lv_iconst (v := 0) hx hb dX0_diverges_76 (by decide) ?_
          exact W.zret (v := 0) hx hb hr rfl (fun t ht hW => ⟨0, rfl, by simp [zi, p_div, c_2, c_8, c_9], ht⟩) (fun _ h => nomatch h) dX0_diverges_77
      · replace c_8 := zi_n0 c_8
        refine lv_iconst (v := 1) hx hb dX0_diverges_49 (by decide) ?_
        refine lv_goto (tgt := 54) hx hb dX0_diverges_50 (by decide) ?_
        refine lv_istore (lv' := [(4, .int 1), (3, .int (zi (p_pole f && !decide (f 7 < a) && !decide (b < f 7)))), (0, .ref h), (1, .int a), (2, .int b)]) hx hb dX0_diverges_54 hl (by decide) rfl (fun ls hl => ?_)
        refine lv_iload_n hx hb dX0_diverges_56 rfl (lv_at hl 1 rfl) ?_
        refine lv_if_ne (tgt := 72) hx hb dX0_diverges_57 (by decide) (fun c_11 => ?_) (fun c_11 => ?_)
        · replace c_11 := zi_n0 c_11
          refine lv_iconst (v := 1) hx hb dX0_diverges_72 (by decide) ?_
          refine lv_goto (tgt := 77) hx hb dX0_diverges_73 (by decide) ?_
          exact W.zret (v := 1) hx hb hr rfl (fun t ht hW => ⟨1, rfl, by simp [zi, p_div, c_2, c_8, c_11], ht⟩) (fun _ h => nomatch h) dX0_diverges_77
        · replace c_11 := zi_0 c_11
          refine lv_iload hx hb dX0_diverges_60 (lv_at hl 0 rfl) ?_
          refine lv_if_eq (tgt := 76) hx hb dX0_diverges_62 (by decide) (fun c_12 => absurd c_12 (by decide)) (fun _ => ?_)
          refine lv_aload_n hx hb dX0_diverges_65 rfl (lv_at hl 2 rfl) ?_
          refine vp_callSi (W.runV (As := []) (rest := []) ⟨hx, hb, hml, hown, hg⟩ (c_X0_hasEndlessTail l D cI cL cQ h n f) (cwV 0 hg (gw_V ml_X0_38 im_X0_hasEndlessTail se_X0_hasEndlessTail ini_X0 co_X0_hasEndlessTail) rfl rfl rfl (by decide +kernel) ⟨Nat.le_of_ble_eq_true rfl, Nat.le_of_ble_eq_true rfl⟩) ⟨pu_B.blind, va_recv hK hP (ci := 0) (q0 := 0) rfl rfl, (fun U hU hW => ⟨rfl, pu_B.at hK hP hU hW⟩)⟩ rfl rfl hl.1 rfl (lv_room (Nat.le_of_ble_eq_true rfl)) dX0_diverges_66 ⟨Nat.le_of_ble_eq_true rfl, Nat.le_of_ble_eq_true rfl⟩) (fun r_13 hr_13 => ?_)
          subst hr_13
          refine lv_if_eq (tgt := 76) hx hb dX0_diverges_69 (by decide) (fun c_14 => ?_) (fun c_14 => ?_)
          · replace c_14 := zi_0 c_14
            refine lv_iconst (v := 0) hx hb dX0_diverges_76 (by decide) ?_
            exact W.zret (v := 0) hx hb hr rfl (fun t ht hW => ⟨0, rfl, by simp [zi, p_div, c_2, c_8, c_11, c_14], ht⟩) (fun _ h => nomatch h) dX0_diverges_77
          · replace c_14 := zi_n0 c_14
            refine lv_iconst (v := 1) hx hb dX0_diverges_72 (by decide) ?_
            refine lv_goto (tgt := 77) hx hb dX0_diverges_73 (by decide) ?_
            exact W.zret (v := 1) hx hb hr rfl (fun t ht hW => ⟨1, rfl, by simp [zi, p_div, c_2, c_8, c_11, c_14], ht⟩) (fun _ h => nomatch h) dX0_diverges_77
  refine lv_aload_n hx hb dX0_diverges_0 rfl (lv_at hl 0 rfl) ?_
  refine vp_callSi (W.runV (As := []) (rest := []) ⟨hx, hb, hml, hown, hg⟩ (c_X0_hasPole l D cI cL cQ h n f) (cwV 0 hg (gw_V ml_X0_30 im_X0_hasPole se_X0_hasPole ini_X0 co_X0_hasPole) rfl rfl rfl (by decide +kernel) ⟨Nat.le_of_ble_eq_true rfl, Nat.le_of_ble_eq_true rfl⟩) ⟨pu_B.blind, va_recv hK hP (ci := 0) (q0 := 0) rfl rfl, (fun U hU hW => ⟨rfl, pu_B.at hK hP hU hW⟩)⟩ rfl rfl hl.1 rfl (lv_room (Nat.le_of_ble_eq_true rfl)) dX0_diverges_1 ⟨Nat.le_of_ble_eq_true rfl, Nat.le_of_ble_eq_true rfl⟩) (fun r_15 hr_15 => ?_)
  subst hr_15
  refine lv_if_eq (tgt := 33) hx hb dX0_diverges_4 (by decide) (fun c_16 => ?_) (fun c_16 => ?_)
  · replace c_16 := zi_0 c_16
    refine lv_iconst (v := 0) hx hb dX0_diverges_33 (by decide) ?_
    have e9 : zi (p_pole f && !decide (f 7 < a) && !decide (b < f 7)) = 0 := by simp [zi, c_16]
    rw [e9] at K34
    exact K34
  · replace c_16 := zi_n0 c_16
    refine lv_aload_n hx hb dX0_diverges_7 rfl (lv_at hl 0 rfl) ?_
    refine va_get (D := D) (ci := 0) (v := .ref n) (C := RX0) (T := TX0) (N := 1) hx hb hg inX0 hown hK hP 0 rfl rfl 0 (by decide) (hg _ fl_X0_9) (fun _ h9 => h9) rfl dX0_diverges_8 ?_
    refine lv_bipush (v := 7) hx hb dX0_diverges_11 (by decide) ?_
    refine va_iald (D := D) (n := 8) (f := f) hx hb hK hP 1 0 rfl rfl (vp_in_nI (show 7 < 8 by decide) (by decide)) dX0_diverges_13 ?_
    rw [show (7 : Int32).toNatClampNeg = 7 from by decide]
    refine lv_iload_n hx hb dX0_diverges_14 rfl (lv_at hl 1 rfl) ?_
    refine lv_icmp_lt (tgt := 33) hx hb dX0_diverges_15 (by decide) (fun c_17 => ?_) (fun c_17 => ?_)
    · refine lv_iconst (v := 0) hx hb dX0_diverges_33 (by decide) ?_
      have e9 : zi (p_pole f && !decide (f 7 < a) && !decide (b < f 7)) = 0 := by simp [zi, c_16, c_17]
      rw [e9] at K34
      exact K34
    · refine lv_aload_n hx hb dX0_diverges_18 rfl (lv_at hl 0 rfl) ?_
      refine va_get (D := D) (ci := 0) (v := .ref n) (C := RX0) (T := TX0) (N := 1) hx hb hg inX0 hown hK hP 0 rfl rfl 0 (by decide) (hg _ fl_X0_9) (fun _ h9 => h9) rfl dX0_diverges_19 ?_
      refine lv_bipush (v := 7) hx hb dX0_diverges_22 (by decide) ?_
      refine va_iald (D := D) (n := 8) (f := f) hx hb hK hP 1 0 rfl rfl (vp_in_nI (show 7 < 8 by decide) (by decide)) dX0_diverges_24 ?_
      rw [show (7 : Int32).toNatClampNeg = 7 from by decide]
      refine lv_iload_n hx hb dX0_diverges_25 rfl (lv_at hl 2 rfl) ?_
      refine lv_icmp_gt (tgt := 33) hx hb dX0_diverges_26 (by decide) (fun c_18 => ?_) (fun c_18 => ?_)
      · refine lv_iconst (v := 0) hx hb dX0_diverges_33 (by decide) ?_
        have e9 : zi (p_pole f && !decide (f 7 < a) && !decide (b < f 7)) = 0 := by simp [zi, c_16, c_17, c_18]
        rw [e9] at K34
        exact K34
      · refine lv_iconst (v := 1) hx hb dX0_diverges_29 (by decide) ?_
        refine lv_goto (tgt := 34) hx hb dX0_diverges_30 (by decide) ?_
        have e9 : zi (p_pole f && !decide (f 7 < a) && !decide (b < f 7)) = 1 := by simp [zi, c_16, c_17, c_18]
        rw [e9] at K34
        exact K34
end
section
theorem lc_eq {x y : Int64} : lg_cmp x y = 0 ↔ x = y := by
  unfold lg_cmp
  by_cases h : x > y
  · have : x ≠ y := fun e => by rw [e] at h; exact absurd h (by simp [Int64.lt_iff_toInt_lt])
    simp [h, this]
  · by_cases e : x = y <;> simp [h, e]
theorem lc_ge {x y : Int64} : 0 ≤ lg_cmp x y ↔ y ≤ x := lg_cmp_ge x y
theorem lc_lt {x y : Int64} : lg_cmp x y < 0 ↔ x < y := by
  have h := @lc_ge x y
  rw [Int32.le_iff_toInt_le, Int64.le_iff_toInt_le] at h
  rw [Int32.lt_iff_toInt_lt, Int64.lt_iff_toInt_lt]
  omega
def x_cnt (pl : Nat → Int32) (x : Int32) : Nat → Nat
  | 0 => 0
  | n + 1 => if x < pl n then x_cnt pl x n else x_cnt pl x n + 1
theorem x_cnt_le (pl : Nat → Int32) (x : Int32) : ∀ n, x_cnt pl x n ≤ n
  | 0 => Nat.le_refl 0
  | n + 1 => by
    have := x_cnt_le pl x n
    unfold x_cnt
    split <;> omega
def x_cut (pl : Nat → Int32) (x : Int32) : Nat → Bool
  | 0 => false
  | n + 1 => x_cut pl x n || decide (pl n = x)
theorem x_cut_iff {pl : Nat → Int32} {x : Int32} : ∀ {n : Nat}, x_cut pl x n = true ↔ ∃ j, j < n ∧ pl j = x
  | 0 => by simp [x_cut]
  | n + 1 => by
    rw [x_cut, Bool.or_eq_true, decide_eq_true_eq, x_cut_iff]
    constructor
    · rintro (⟨j, h1, h2⟩ | h)
      · exact ⟨j, by omega, h2⟩
      · exact ⟨n, by omega, h⟩
    · rintro ⟨j, h1, h2⟩
      rcases Nat.lt_or_ge j n with h | h
      · exact Or.inl ⟨j, h, h2⟩
      · exact Or.inr (by rw [← h2, show j = n by omega])
def x_left (pl : Nat → Int32) (k : Nat) : Int32 := if k = 0 then -9 else pl (k - 1)
def x_right (pl : Nat → Int32) (cnt k : Nat) : Int32 := if k < cnt then pl k else 9
set_option maxHeartbeats 4000000 in
set_option maxRecDepth 100000 in
theorem c_X2_pieceAt (l : Launch) (D : va_G) (cI cL cQ : ClassId) (h q1 : Nat) (fs : List Value) (hf0 : fs[0]? = some (.ref q1)) (cnt : Nat) (hf3 : fs[3]? = some (.int (nI cnt))) (hc : cnt ≤ 3) (pl : Nat → Int32) (x : Int32) : Met l yX2_pieceAt wsX2_pieceAt { frames := 0, cells := 0, slots := 0, locals := 0 } (va_Pc [.ref h, .int x] (pu_B D (ty3 cI cL cQ) [(h, .inr (2, fs)), (q1, .inl (cI, 3, .inl pl))])) (vp_Si (fun r => r = nI (x_cnt pl x cnt))) 0 0 (fun _ => False) := by
  refine Met.ofW (cc := cX2_pieceAt) (maxL := 4) (ret := (some .int)) (by decide) rfl ?_
  intro p e s m args below meth c s₁ B hml hv
  obtain ⟨rfl, hK, hP⟩ := hv
  have hx := B.exec
  have hb := B.bytes
  have hr := B.returns
  have hts := atoms_spec (ws := wsX2_pieceAt) B.pre
  have hg : ∀ w ∈ gw, w.before ([.ref h, .int x] : List Value).toArray s = true := fun w h => hts w (List.mem_cons_of_mem _ h)
  have hown : s.vm.findClass RX2 = some m.cls := findClass_of_methodNamed B.named
  have hlocks := B.notSynchronized
  have hl := lv_entry ([.ref h, .int x]) (n := 4) (Nat.le_of_ble_eq_true rfl)
  rw [lg_entry_eq]
  generalize (lg_sl ([.ref h, .int x]) ++ List.replicate (4 - (lg_sl ([.ref h, .int x])).length) Slot.unset).toArray = ls at hl ⊢
  have hl : lv_has ls 4 [(0, .ref h), (1, .int x)] := hl
  refine lv_iconst (v := 0) hx hb dX2_pieceAt_0 (by decide) ?_
  refine lv_istore_n (lv' := [(2, .int 0), (0, .ref h), (1, .int x)]) hx hb dX2_pieceAt_1 rfl hl (by decide) rfl (fun ls hl => ?_)
  refine lv_iconst (v := 0) hx hb dX2_pieceAt_2 (by decide) ?_
  refine lv_istore_n (lv' := [(3, .int 0), (2, .int 0), (0, .ref h), (1, .int x)]) hx hb dX2_pieceAt_3 rfl hl (by decide) rfl (fun ls hl => ?_)
  have L4 : ∀ (n9 : Nat) (i : Nat) (k : Nat), (i ≤ cnt) → (k = x_cnt pl x i) → (cnt - i < n9) → ∀ (ls : Array Slot), lv_has ls 4 [(3, .int (nI i)), (2, .int (nI k)), (0, .ref h), (1, .int x)] → W p l e (headSpec wsX2_pieceAt { frames := 0, cells := 0, slots := 0, locals := 0 }).room s m ([.ref h, .int x] : List Value).toArray below meth c s.heap [] 0 0 (MQ below (vp_Si (fun r => r = nI (x_cnt pl x cnt))) ([.ref h, .int x] : List Value).toArray s 0 0 (fun _ => False)) (F0 m 4 ls []) := by
    intro n9
    induction n9 with
    | zero => intro i k hi hk h9; exact absurd h9 (by omega)
    | succ n9 ih =>
      intro i k hi hk h9 ls hl
      refine lv_iload_n hx hb dX2_pieceAt_4 rfl (lv_at hl 0 rfl) ?_
      refine lv_aload_n hx hb dX2_pieceAt_5 rfl (lv_at hl 2 rfl) ?_
      refine va_get (D := D) (ci := 2) (v := .int (nI cnt)) (C := RX2) (T := TX2) (N := 5) hx hb hg inX2 hown hK hP 0 rfl rfl 3 (by decide) (hg _ fl_X2_26) (fun _ h9 => h9) hf3 dX2_pieceAt_6 ?_
      refine lv_icmp_ge (tgt := 31) hx hb dX2_pieceAt_9 (by decide) (fun c_1 => ?_) (fun c_1 => ?_)
      · replace c_1 : cnt ≤ i := (nI_leI (a := cnt) (b := i) (by omega) (by omega)).mp c_1
        refine lv_iload_n hx hb dX2_pieceAt_31 rfl (lv_at hl 1 rfl) ?_
        exact W.iret (v := nI k) hx hb hr (fun t ht hW => ⟨(nI k), rfl, by rw [hk, show i = cnt by omega], ht⟩) (fun _ h => nomatch h) dX2_pieceAt_32
      · replace c_1 : ¬ cnt ≤ i := fun h => c_1 ((nI_leI (a := cnt) (b := i) (by omega) (by omega)).mpr h)
        refine lv_aload_n hx hb dX2_pieceAt_12 rfl (lv_at hl 2 rfl) ?_
        refine va_get (D := D) (ci := 2) (v := .ref q1) (C := RX2) (T := TX2) (N := 5) hx hb hg inX2 hown hK hP 0 rfl rfl 0 (by decide) (hg _ fl_X2_9) (fun _ h9 => h9) hf0 dX2_pieceAt_13 ?_
        refine lv_iload_n hx hb dX2_pieceAt_16 rfl (lv_at hl 0 rfl) ?_
        refine va_iald (D := D) (n := 3) (f := pl) hx hb hK hP 1 0 rfl rfl (vp_in_nI (show i < 3 by omega) (by decide)) dX2_pieceAt_17 ?_
        rw [nI_clamp (show i < 2 ^ 31 by omega)]
        refine lv_iload_n hx hb dX2_pieceAt_18 rfl (lv_at hl 3 rfl) ?_
        refine lv_icmp_gt (tgt := 25) hx hb dX2_pieceAt_19 (by decide) (fun c_2 => ?_) (fun c_2 => ?_)
        · refine lv_iinc (v := nI (i + 1)) (lv' := [(3, .int (nI (i + 1))), (2, .int (nI k)), (0, .ref h), (1, .int x)]) hx hb dX2_pieceAt_25 hl (k := 0) rfl (nI_1 i) (by decide) rfl (fun ls hl => ?_)
          refine lv_goto (tgt := 4) hx hb dX2_pieceAt_28 (by decide) ?_
          exact ih (i + 1) k (by omega) (by simp [x_cnt, hk, c_2])  (by omega) ls (lv_sub hl [0, 1, 2, 3] rfl)
        · refine lv_iinc (v := nI (k + 1)) (lv' := [(2, .int (nI (k + 1))), (3, .int (nI i)), (0, .ref h), (1, .int x)]) hx hb dX2_pieceAt_22 hl (k := 1) rfl (nI_1 k) (by decide) rfl (fun ls hl => ?_)
          refine lv_iinc (v := nI (i + 1)) (lv' := [(3, .int (nI (i + 1))), (2, .int (nI (k + 1))), (0, .ref h), (1, .int x)]) hx hb dX2_pieceAt_25 hl (k := 1) rfl (nI_1 i) (by decide) rfl (fun ls hl => ?_)
          refine lv_goto (tgt := 4) hx hb dX2_pieceAt_28 (by decide) ?_
          exact ih (i + 1) (k + 1) (by omega) (by simp [x_cnt, hk, c_2])  (by omega) ls (lv_sub hl [0, 1, 2, 3] rfl)
  exact L4 ((cnt - 0) + 1) 0 0 (Nat.zero_le _) (rfl)  (Nat.lt_succ_self _) ls (lv_sub hl [0, 1, 2, 3] rfl)
set_option maxHeartbeats 4000000 in
set_option maxRecDepth 100000 in
theorem c_X2_isCut (l : Launch) (D : va_G) (cI cL cQ : ClassId) (h q1 : Nat) (fs : List Value) (hf0 : fs[0]? = some (.ref q1)) (cnt : Nat) (hf3 : fs[3]? = some (.int (nI cnt))) (hc : cnt ≤ 3) (pl : Nat → Int32) (x : Int32) : Met l yX2_isCut wsX2_isCut { frames := 0, cells := 0, slots := 0, locals := 0 } (va_Pc [.ref h, .int x] (pu_B D (ty3 cI cL cQ) [(h, .inr (2, fs)), (q1, .inl (cI, 3, .inl pl))])) (vp_Si (fun r => r = zi (x_cut pl x cnt))) 0 0 (fun _ => False) := by
  refine Met.ofW (cc := cX2_isCut) (maxL := 3) (ret := (some .boolean)) (by decide) rfl ?_
  intro p e s m args below meth c s₁ B hml hv
  obtain ⟨rfl, hK, hP⟩ := hv
  have hx := B.exec
  have hb := B.bytes
  have hr := B.returns
  have hts := atoms_spec (ws := wsX2_isCut) B.pre
  have hg : ∀ w ∈ gw, w.before ([.ref h, .int x] : List Value).toArray s = true := fun w h => hts w (List.mem_cons_of_mem _ h)
  have hown : s.vm.findClass RX2 = some m.cls := findClass_of_methodNamed B.named
  have hlocks := B.notSynchronized
  have hl := lv_entry ([.ref h, .int x]) (n := 3) (Nat.le_of_ble_eq_true rfl)
  rw [lg_entry_eq]
  generalize (lg_sl ([.ref h, .int x]) ++ List.replicate (3 - (lg_sl ([.ref h, .int x])).length) Slot.unset).toArray = ls at hl ⊢
  have hl : lv_has ls 3 [(0, .ref h), (1, .int x)] := hl
  refine lv_iconst (v := 0) hx hb dX2_isCut_0 (by decide) ?_
  refine lv_istore_n (lv' := [(2, .int 0), (0, .ref h), (1, .int x)]) hx hb dX2_isCut_1 rfl hl (by decide) rfl (fun ls hl => ?_)
  have L2 : ∀ (n9 : Nat) (i : Nat), (i ≤ cnt) → (x_cut pl x i = false) → (cnt - i < n9) → ∀ (ls : Array Slot), lv_has ls 3 [(2, .int (nI i)), (0, .ref h), (1, .int x)] → W p l e (headSpec wsX2_isCut { frames := 0, cells := 0, slots := 0, locals := 0 }).room s m ([.ref h, .int x] : List Value).toArray below meth c s.heap [] 0 0 (MQ below (vp_Si (fun r => r = zi (x_cut pl x cnt))) ([.ref h, .int x] : List Value).toArray s 0 0 (fun _ => False)) (F0 m 2 ls []) := by
    intro n9
    induction n9 with
    | zero => intro i hi hn h9; exact absurd h9 (by omega)
    | succ n9 ih =>
      intro i hi hn h9 ls hl
      refine lv_iload_n hx hb dX2_isCut_2 rfl (lv_at hl 0 rfl) ?_
      refine lv_aload_n hx hb dX2_isCut_3 rfl (lv_at hl 1 rfl) ?_
      refine va_get (D := D) (ci := 2) (v := .int (nI cnt)) (C := RX2) (T := TX2) (N := 5) hx hb hg inX2 hown hK hP 0 rfl rfl 3 (by decide) (hg _ fl_X2_26) (fun _ h9 => h9) hf3 dX2_isCut_4 ?_
      refine lv_icmp_ge (tgt := 28) hx hb dX2_isCut_7 (by decide) (fun c_1 => ?_) (fun c_1 => ?_)
      · replace c_1 : cnt ≤ i := (nI_leI (a := cnt) (b := i) (by omega) (by omega)).mp c_1
        refine lv_iconst (v := 0) hx hb dX2_isCut_28 (by decide) ?_
        exact W.zret (v := 0) hx hb hr rfl (fun t ht hW => ⟨0, rfl, by rw [show cnt = i by omega, hn]; rfl, ht⟩) (fun _ h => nomatch h) dX2_isCut_29
      · replace c_1 : ¬ cnt ≤ i := fun h => c_1 ((nI_leI (a := cnt) (b := i) (by omega) (by omega)).mpr h)
        refine lv_aload_n hx hb dX2_isCut_10 rfl (lv_at hl 1 rfl) ?_
        refine va_get (D := D) (ci := 2) (v := .ref q1) (C := RX2) (T := TX2) (N := 5) hx hb hg inX2 hown hK hP 0 rfl rfl 0 (by decide) (hg _ fl_X2_9) (fun _ h9 => h9) hf0 dX2_isCut_11 ?_
        refine lv_iload_n hx hb dX2_isCut_14 rfl (lv_at hl 0 rfl) ?_
        refine va_iald (D := D) (n := 3) (f := pl) hx hb hK hP 1 0 rfl rfl (vp_in_nI (show i < 3 by omega) (by decide)) dX2_isCut_15 ?_
        rw [nI_clamp (show i < 2 ^ 31 by omega)]
        refine lv_iload_n hx hb dX2_isCut_16 rfl (lv_at hl 2 rfl) ?_
        refine lv_icmp_ne (tgt := 22) hx hb dX2_isCut_17 (by decide) (fun c_2 => ?_) (fun c_2 => ?_)
        · refine lv_iinc (v := nI (i + 1)) (lv' := [(2, .int (nI (i + 1))), (0, .ref h), (1, .int x)]) hx hb dX2_isCut_22 hl (k := 0) rfl (nI_1 i) (by decide) rfl (fun ls hl => ?_)
          refine lv_goto (tgt := 2) hx hb dX2_isCut_25 (by decide) ?_
          exact ih (i + 1) (by omega) (by simp [x_cut, hn, c_2])  (by omega) ls (lv_sub hl [0, 1, 2] rfl)
        · refine lv_iconst (v := 1) hx hb dX2_isCut_20 (by decide) ?_
          exact W.zret (v := 1) hx hb hr rfl (fun t ht hW => ⟨1, rfl, by rw [x_cut_iff.mpr ⟨i, by omega, c_2⟩]; rfl, ht⟩) (fun _ h => nomatch h) dX2_isCut_21
  exact L2 ((cnt - 0) + 1) 0 (Nat.zero_le _) (rfl)  (Nat.lt_succ_self _) ls (lv_sub hl [0, 1, 2] rfl)
set_option maxHeartbeats 4000000 in
set_option maxRecDepth 100000 in
theorem c_X2_leftBorder (l : Launch) (D : va_G) (cI cL cQ : ClassId) (h q1 : Nat) (fs : List Value) (hf0 : fs[0]? = some (.ref q1)) (cnt : Nat) (hf3 : fs[3]? = some (.int (nI cnt))) (hc : cnt ≤ 3) (pl : Nat → Int32) (k : Nat) (hk : k ≤ cnt) : Met l yX2_leftBorder wsX2_leftBorder { frames := 0, cells := 0, slots := 0, locals := 0 } (va_Pc [.ref h, .int (nI k)] (pu_B D (ty3 cI cL cQ) [(h, .inr (2, fs)), (q1, .inl (cI, 3, .inl pl))])) (vp_Si (fun r => r = x_left pl k)) 0 0 (fun _ => False) := by
  refine Met.ofW (cc := cX2_leftBorder) (maxL := 2) (ret := (some .int)) (by decide) rfl ?_
  intro p e s m args below meth c s₁ B hml hv
  obtain ⟨rfl, hK, hP⟩ := hv
  have hx := B.exec
  have hb := B.bytes
  have hr := B.returns
  have hts := atoms_spec (ws := wsX2_leftBorder) B.pre
  have hg : ∀ w ∈ gw, w.before ([.ref h, .int (nI k)] : List Value).toArray s = true := fun w h => hts w (List.mem_cons_of_mem _ h)
  have hown : s.vm.findClass RX2 = some m.cls := findClass_of_methodNamed B.named
  have hlocks := B.notSynchronized
  have hl := lv_entry ([.ref h, .int (nI k)]) (n := 2) (Nat.le_of_ble_eq_true rfl)
  rw [lg_entry_eq]
  generalize (lg_sl ([.ref h, .int (nI k)]) ++ List.replicate (2 - (lg_sl ([.ref h, .int (nI k)])).length) Slot.unset).toArray = ls at hl ⊢
  have hl : lv_has ls 2 [(0, .ref h), (1, .int (nI k))] := hl
  refine lv_iload_n hx hb dX2_leftBorder_0 rfl (lv_at hl 1 rfl) ?_
  refine lv_if_le (tgt := 23) hx hb dX2_leftBorder_1 (by decide) (fun c_1 => ?_) (fun c_1 => ?_)
  · replace c_1 : k ≤ 0 := (nI_leI (a := k) (b := 0) (by omega) (by omega)).mp c_1
    refine lv_bipush (v := (-9)) hx hb dX2_leftBorder_23 (by decide) ?_
    exact W.iret (v := (-9)) hx hb hr (fun t ht hW => ⟨(-9), rfl, by simp [x_left]; omega, ht⟩) (fun _ h => nomatch h) dX2_leftBorder_25
  · replace c_1 : ¬ k ≤ 0 := fun h => c_1 ((nI_leI (a := k) (b := 0) (by omega) (by omega)).mpr h)
    refine lv_iload_n hx hb dX2_leftBorder_4 rfl (lv_at hl 1 rfl) ?_
    refine lv_aload_n hx hb dX2_leftBorder_5 rfl (lv_at hl 0 rfl) ?_
    refine va_get (D := D) (ci := 2) (v := .int (nI cnt)) (C := RX2) (T := TX2) (N := 5) hx hb hg inX2 hown hK hP 0 rfl rfl 3 (by decide) (hg _ fl_X2_26) (fun _ h9 => h9) hf3 dX2_leftBorder_6 ?_
    refine lv_icmp_gt (tgt := 23) hx hb dX2_leftBorder_9 (by decide) (fun c_2 => ?_) (fun c_2 => ?_)
    · replace c_2 : cnt < k := (nI_ltI (a := cnt) (b := k) (by omega) (by omega)).mp c_2
      refine lv_bipush (v := (-9)) hx hb dX2_leftBorder_23 (by decide) ?_
      exact W.iret (v := (-9)) hx hb hr (fun t ht hW => ⟨(-9), rfl, by simp [x_left]; omega, ht⟩) (fun _ h => nomatch h) dX2_leftBorder_25
    · replace c_2 : ¬ cnt < k := fun h => c_2 ((nI_ltI (a := cnt) (b := k) (by omega) (by omega)).mpr h)
      refine lv_aload_n hx hb dX2_leftBorder_12 rfl (lv_at hl 0 rfl) ?_
      refine va_get (D := D) (ci := 2) (v := .ref q1) (C := RX2) (T := TX2) (N := 5) hx hb hg inX2 hown hK hP 0 rfl rfl 0 (by decide) (hg _ fl_X2_9) (fun _ h9 => h9) hf0 dX2_leftBorder_13 ?_
      refine lv_iload_n hx hb dX2_leftBorder_16 rfl (lv_at hl 1 rfl) ?_
      refine lv_iconst (v := 1) hx hb dX2_leftBorder_17 (by decide) ?_
      refine lv_isub hx hb dX2_leftBorder_18 ?_
      rw [show (nI k) - (1 : Int32) = nI (k - 1) from pk_sub (a := k) (b := 1) (by omega)]
      refine va_iald (D := D) (n := 3) (f := pl) hx hb hK hP 1 0 rfl rfl (vp_in_nI (show (k - 1) < 3 by omega) (by decide)) dX2_leftBorder_19 ?_
      rw [nI_clamp (show (k - 1) < 2 ^ 31 by omega)]
      refine lv_goto (tgt := 25) hx hb dX2_leftBorder_20 (by decide) ?_
      exact W.iret (v := (pl (k - 1))) hx hb hr (fun t ht hW => ⟨(pl (k - 1)), rfl, by rw [x_left, if_neg (by omega)], ht⟩) (fun _ h => nomatch h) dX2_leftBorder_25
set_option maxHeartbeats 4000000 in
set_option maxRecDepth 100000 in
theorem c_X2_rightBorder (l : Launch) (D : va_G) (cI cL cQ : ClassId) (h q1 : Nat) (fs : List Value) (hf0 : fs[0]? = some (.ref q1)) (cnt : Nat) (hf3 : fs[3]? = some (.int (nI cnt))) (hc : cnt ≤ 3) (pl : Nat → Int32) (k : Nat) (hk : k ≤ cnt) : Met l yX2_rightBorder wsX2_rightBorder { frames := 0, cells := 0, slots := 0, locals := 0 } (va_Pc [.ref h, .int (nI k)] (pu_B D (ty3 cI cL cQ) [(h, .inr (2, fs)), (q1, .inl (cI, 3, .inl pl))])) (vp_Si (fun r => r = x_right pl cnt k)) 0 0 (fun _ => False) := by
  refine Met.ofW (cc := cX2_rightBorder) (maxL := 2) (ret := (some .int)) (by decide) rfl ?_
  intro p e s m args below meth c s₁ B hml hv
  obtain ⟨rfl, hK, hP⟩ := hv
  have hx := B.exec
  have hb := B.bytes
  have hr := B.returns
  have hts := atoms_spec (ws := wsX2_rightBorder) B.pre
  have hg : ∀ w ∈ gw, w.before ([.ref h, .int (nI k)] : List Value).toArray s = true := fun w h => hts w (List.mem_cons_of_mem _ h)
  have hown : s.vm.findClass RX2 = some m.cls := findClass_of_methodNamed B.named
  have hlocks := B.notSynchronized
  have hl := lv_entry ([.ref h, .int (nI k)]) (n := 2) (Nat.le_of_ble_eq_true rfl)
  rw [lg_entry_eq]
  generalize (lg_sl ([.ref h, .int (nI k)]) ++ List.replicate (2 - (lg_sl ([.ref h, .int (nI k)])).length) Slot.unset).toArray = ls at hl ⊢
  have hl : lv_has ls 2 [(0, .ref h), (1, .int (nI k))] := hl
  refine lv_iload_n hx hb dX2_rightBorder_0 rfl (lv_at hl 1 rfl) ?_
  refine lv_if_lt (tgt := 21) hx hb dX2_rightBorder_1 (by decide) (fun c_1 => ?_) (fun c_1 => ?_)
  · replace c_1 : k < 0 := (nI_ltI (a := k) (b := 0) (by omega) (by omega)).mp c_1
    refine lv_bipush (v := 9) hx hb dX2_rightBorder_21 (by decide) ?_
    exact W.iret (v := 9) hx hb hr (fun t ht hW => ⟨9, rfl, by simp [x_right]; omega, ht⟩) (fun _ h => nomatch h) dX2_rightBorder_23
  · replace c_1 : ¬ k < 0 := fun h => c_1 ((nI_ltI (a := k) (b := 0) (by omega) (by omega)).mpr h)
    refine lv_iload_n hx hb dX2_rightBorder_4 rfl (lv_at hl 1 rfl) ?_
    refine lv_aload_n hx hb dX2_rightBorder_5 rfl (lv_at hl 0 rfl) ?_
    refine va_get (D := D) (ci := 2) (v := .int (nI cnt)) (C := RX2) (T := TX2) (N := 5) hx hb hg inX2 hown hK hP 0 rfl rfl 3 (by decide) (hg _ fl_X2_26) (fun _ h9 => h9) hf3 dX2_rightBorder_6 ?_
    refine lv_icmp_ge (tgt := 21) hx hb dX2_rightBorder_9 (by decide) (fun c_2 => ?_) (fun c_2 => ?_)
    · replace c_2 : cnt ≤ k := (nI_leI (a := cnt) (b := k) (by omega) (by omega)).mp c_2
      refine lv_bipush (v := 9) hx hb dX2_rightBorder_21 (by decide) ?_
      exact W.iret (v := 9) hx hb hr (fun t ht hW => ⟨9, rfl, by simp [x_right]; omega, ht⟩) (fun _ h => nomatch h) dX2_rightBorder_23
    · replace c_2 : ¬ cnt ≤ k := fun h => c_2 ((nI_leI (a := cnt) (b := k) (by omega) (by omega)).mpr h)
      refine lv_aload_n hx hb dX2_rightBorder_12 rfl (lv_at hl 0 rfl) ?_
      refine va_get (D := D) (ci := 2) (v := .ref q1) (C := RX2) (T := TX2) (N := 5) hx hb hg inX2 hown hK hP 0 rfl rfl 0 (by decide) (hg _ fl_X2_9) (fun _ h9 => h9) hf0 dX2_rightBorder_13 ?_
      refine lv_iload_n hx hb dX2_rightBorder_16 rfl (lv_at hl 1 rfl) ?_
      refine va_iald (D := D) (n := 3) (f := pl) hx hb hK hP 1 0 rfl rfl (vp_in_nI (show k < 3 by omega) (by decide)) dX2_rightBorder_17 ?_
      rw [nI_clamp (show k < 2 ^ 31 by omega)]
      refine lv_goto (tgt := 23) hx hb dX2_rightBorder_18 (by decide) ?_
      exact W.iret (v := (pl k)) hx hb hr (fun t ht hW => ⟨(pl k), rfl, by rw [x_right, if_pos (by omega)], ht⟩) (fun _ h => nomatch h) dX2_rightBorder_23
def x_gcd (a b : Int64) : Int64 := if 0 < gd_it 100 a b then gd_it 100 a b else -gd_it 100 a b
def x_low (a b : Int64) (part : Int32) : Int64 := if x_gcd a b = 0 then 0 else (if part = 0 then a else b) / (if b < 0 then -x_gcd a b else x_gcd a b)
set_option maxHeartbeats 4000000 in
set_option maxRecDepth 100000 in
theorem c_X2_greatestDivisor (l : Launch) (a b : Int64) : Met l yX2_greatestDivisor wsX2_greatestDivisor { frames := 1, cells := 0, slots := 0, locals := 21 } (va_Pc [.long a, .long b] (fun _ => True)) (vp_Sl (fun r => r = x_gcd a b)) 0 0 (fun _ => False) := by
  refine Met.ofW (cc := cX2_greatestDivisor) (maxL := 11) (ret := (some .long)) (by decide) rfl ?_
  intro p e s m args below meth c s₁ B hml hv
  obtain ⟨rfl, -⟩ := hv
  have hx := B.exec
  have hb := B.bytes
  have hr := B.returns
  have hts := atoms_spec (ws := wsX2_greatestDivisor) B.pre
  have hg : ∀ w ∈ gw, w.before ([.long a, .long b] : List Value).toArray s = true := fun w h => hts w (List.mem_cons_of_mem _ h)
  have hown : s.vm.findClass RX2 = some m.cls := findClass_of_methodNamed B.named
  have hlocks := B.notSynchronized
  have hl := lv_entry ([.long a, .long b]) (n := 11) (Nat.le_of_ble_eq_true rfl)
  rw [lg_entry_eq]
  generalize (lg_sl ([.long a, .long b]) ++ List.replicate (11 - (lg_sl ([.long a, .long b])).length) Slot.unset).toArray = ls at hl ⊢
  have hl : lv_has ls 11 [(0, .long a), (2, .long b)] := hl
  refine lv_lload_n hx hb dX2_greatestDivisor_0 rfl (lv_at hl 0 rfl) ?_
  refine lv_lstore (lv' := [(4, .long a), (0, .long a), (2, .long b)]) hx hb dX2_greatestDivisor_1 hl (by decide) rfl (fun ls hl => ?_)
  refine lv_lload_n hx hb dX2_greatestDivisor_3 rfl (lv_at hl 2 rfl) ?_
  refine lv_lstore (lv' := [(6, .long b), (4, .long a), (0, .long a), (2, .long b)]) hx hb dX2_greatestDivisor_4 hl (by decide) rfl (fun ls hl => ?_)
  refine lv_iconst (v := 0) hx hb dX2_greatestDivisor_6 (by decide) ?_
  refine lv_istore (lv' := [(8, .int 0), (6, .long b), (4, .long a), (0, .long a), (2, .long b)]) hx hb dX2_greatestDivisor_7 hl (by decide) rfl (fun ls hl => ?_)
  have L9 : ∀ (n9 : Nat) (i : Nat) (x : Int64) (y : Int64), (i ≤ 100) → (gd_it (100 - i) x y = gd_it 100 a b) → (100 - i < n9) → ∀ (ls : Array Slot), lv_has ls 11 [(8, .int (nI i)), (6, .long y), (4, .long x), (0, .long a), (2, .long b)] → W p l e (headSpec wsX2_greatestDivisor { frames := 1, cells := 0, slots := 0, locals := 21 }).room s m ([.long a, .long b] : List Value).toArray below meth c s.heap [] 0 0 (MQ below (vp_Sl (fun r => r = x_gcd a b)) ([.long a, .long b] : List Value).toArray s 0 0 (fun _ => False)) (F0 m 9 ls []) := by
    intro n9
    induction n9 with
    | zero => intro i x y hi hk h9; exact absurd h9 (by omega)
    | succ n9 ih =>
      intro i x y hi hk h9 ls hl
      refine lv_iload hx hb dX2_greatestDivisor_9 (lv_at hl 0 rfl) ?_
      refine lv_bipush (v := 100) hx hb dX2_greatestDivisor_11 (by decide) ?_
      refine lv_icmp_ge (tgt := 44) hx hb dX2_greatestDivisor_13 (by decide) (fun c_1 => ?_) (fun c_1 => ?_)
      · replace c_1 : 100 ≤ i := (nI_leI (a := 100) (b := i) (by omega) (by omega)).mp c_1
        refine lv_lload hx hb dX2_greatestDivisor_44 (lv_at hl 2 rfl) ?_
        refine va_mabs_long hx hb (by rw [hml]; exact hl.1.symm) hown (hg _ ml_X2_169) (hg _ sm_Mabs_long) (hg _ ini_J9) (hg _ co_Mabs_long) (Nat.le_of_ble_eq_true rfl) (Nat.le_of_ble_eq_true rfl) (Nat.le_of_ble_eq_true rfl) (Nat.le_of_ble_eq_true rfl) dX2_greatestDivisor_46 ?_
        exact W.lret (v := (if 0 < x then x else -x)) hx hb hr (fun t ht hW => ⟨(if 0 < x then x else -x), rfl, by rw [x_gcd, ← hk]; rw [show 100 - i = 0 by omega]; rfl, ht⟩) (fun _ h => nomatch h) dX2_greatestDivisor_49
      · replace c_1 : ¬ 100 ≤ i := fun h => c_1 ((nI_leI (a := 100) (b := i) (by omega) (by omega)).mpr h)
        refine lv_lload hx hb dX2_greatestDivisor_16 (lv_at hl 1 rfl) ?_
        refine lv_lconst (v := 0) hx hb dX2_greatestDivisor_18 (by decide) ?_
        refine W.lcmp hx hb dX2_greatestDivisor_19 ?_
        refine lv_if_eq (tgt := 44) hx hb dX2_greatestDivisor_20 (by decide) (fun c_2 => ?_) (fun c_2 => ?_)
        · replace c_2 := lc_eq.mp c_2
          refine lv_lload hx hb dX2_greatestDivisor_44 (lv_at hl 2 rfl) ?_
          refine va_mabs_long hx hb (by rw [hml]; exact hl.1.symm) hown (hg _ ml_X2_169) (hg _ sm_Mabs_long) (hg _ ini_J9) (hg _ co_Mabs_long) (Nat.le_of_ble_eq_true rfl) (Nat.le_of_ble_eq_true rfl) (Nat.le_of_ble_eq_true rfl) (Nat.le_of_ble_eq_true rfl) dX2_greatestDivisor_46 ?_
          exact W.lret (v := (if 0 < x then x else -x)) hx hb hr (fun t ht hW => ⟨(if 0 < x then x else -x), rfl, by rw [x_gcd, ← hk]; obtain ⟨j, hj⟩ : ∃ j, 100 - i = j + 1 := ⟨99 - i, by omega⟩; rw [hj, gd_it, if_pos c_2], ht⟩) (fun _ h => nomatch h) dX2_greatestDivisor_49
        · replace c_2 := fun h => c_2 (lc_eq.mpr h)
          refine lv_lload hx hb dX2_greatestDivisor_23 (lv_at hl 2 rfl) ?_
          refine lv_lload hx hb dX2_greatestDivisor_25 (lv_at hl 1 rfl) ?_
          refine lv_lrem hx hb dX2_greatestDivisor_27 (by assumption) ?_
          refine lv_topl (fun v_3 ev_3 => ?_)
          refine lv_lstore (lv' := [(9, .long v_3), (8, .int (nI i)), (6, .long y), (4, .long x), (0, .long a), (2, .long b)]) hx hb dX2_greatestDivisor_28 hl (by decide) rfl (fun ls hl => ?_)
          refine lv_lload hx hb dX2_greatestDivisor_30 (lv_at hl 2 rfl) ?_
          refine lv_lstore (lv' := [(4, .long y), (9, .long v_3), (8, .int (nI i)), (6, .long y), (0, .long a), (2, .long b)]) hx hb dX2_greatestDivisor_32 hl (by decide) rfl (fun ls hl => ?_)
          refine lv_lload hx hb dX2_greatestDivisor_34 (lv_at hl 1 rfl) ?_
          refine lv_lstore (lv' := [(6, .long v_3), (4, .long y), (9, .long v_3), (8, .int (nI i)), (0, .long a), (2, .long b)]) hx hb dX2_greatestDivisor_36 hl (by decide) rfl (fun ls hl => ?_)
          refine lv_iinc (v := nI (i + 1)) (lv' := [(8, .int (nI (i + 1))), (6, .long v_3), (4, .long y), (9, .long v_3), (0, .long a), (2, .long b)]) hx hb dX2_greatestDivisor_38 hl (k := 3) rfl (nI_1 i) (by decide) rfl (fun ls hl => ?_)
          refine lv_goto (tgt := 9) hx hb dX2_greatestDivisor_41 (by decide) ?_
          exact ih (i + 1) y v_3 (by omega) (by rw [← hk]; obtain ⟨j, hj⟩ : ∃ j, 100 - i = j + 1 := ⟨99 - i, by omega⟩; rw [hj, show 100 - (i + 1) = j by omega, gd_it, if_neg c_2, ev_3])  (by omega) ls (lv_sub hl [0, 1, 2, 4, 5] rfl)
  exact L9 (100 + 1) 0 a b (Nat.zero_le _) (rfl)  (Nat.lt_succ_self _) ls (lv_sub hl [0, 1, 2, 3, 4] rfl)
theorem ma_neg0 {x : Int64} (h : ¬ x = 0) : ¬ -x = 0 := by
  intro e
  apply h
  have : x = -(-x) := by simp
  rw [this, e]; rfl
set_option maxHeartbeats 4000000 in
set_option maxRecDepth 100000 in
theorem c_X2_lowestTerms (l : Launch) (a b : Int64) (k : Int32) : Met l yX2_lowestTerms wsX2_lowestTerms { frames := 2, cells := 0, slots := 0, locals := 52 } (va_Pc [.long a, .long b, .int k] (fun _ => True)) (vp_Sl (fun r => r = x_low a b k)) 0 0 (fun _ => False) := by
  refine Met.ofW (cc := cX2_lowestTerms) (maxL := 7) (ret := (some .long)) (by decide) rfl ?_
  intro p e s m args below meth c s₁ B hml hv
  obtain ⟨rfl, -⟩ := hv
  have hx := B.exec
  have hb := B.bytes
  have hr := B.returns
  have hts := atoms_spec (ws := wsX2_lowestTerms) B.pre
  have hg : ∀ w ∈ gw, w.before ([.long a, .long b, .int k] : List Value).toArray s = true := fun w h => hts w (List.mem_cons_of_mem _ h)
  have hown : s.vm.findClass RX2 = some m.cls := findClass_of_methodNamed B.named
  have hlocks := B.notSynchronized
  have hl := lv_entry ([.long a, .long b, .int k]) (n := 7) (Nat.le_of_ble_eq_true rfl)
  rw [lg_entry_eq]
  generalize (lg_sl ([.long a, .long b, .int k]) ++ List.replicate (7 - (lg_sl ([.long a, .long b, .int k])).length) Slot.unset).toArray = ls at hl ⊢
  have hl : lv_has ls 7 [(0, .long a), (2, .long b), (4, .int k)] := hl
  refine lv_lload_n hx hb dX2_lowestTerms_0 rfl (lv_at hl 0 rfl) ?_
  refine lv_lload_n hx hb dX2_lowestTerms_1 rfl (lv_at hl 1 rfl) ?_
  refine vp_callSl (W.runS (As := [.long a, .long b]) (rest := []) ⟨hx, hb, hml, hown, hg⟩ (c_X2_greatestDivisor l a b) (va_cwS 2 hg (gw_S ml_X2_165 sm_X2_greatestDivisor ini_X2 co_X2_greatestDivisor) rfl rfl rfl (by decide +kernel) ⟨Nat.le_of_ble_eq_true rfl, Nat.le_of_ble_eq_true rfl⟩) ⟨tt_blind, (fun U hU hW => ⟨rfl, trivial⟩)⟩ rfl rfl hl.1 rfl (lv_room (Nat.le_of_ble_eq_true rfl)) dX2_lowestTerms_2 ⟨Nat.le_of_ble_eq_true rfl, Nat.le_of_ble_eq_true rfl⟩) (fun r_1 hr_1 => ?_)
  subst hr_1
  refine lv_topl (fun v_2 ev_2 => ?_)
  refine lv_lstore (lv' := [(5, .long v_2), (0, .long a), (2, .long b), (4, .int k)]) hx hb dX2_lowestTerms_5 hl (by decide) rfl (fun ls hl => ?_)
  refine lv_lload hx hb dX2_lowestTerms_7 (lv_at hl 0 rfl) ?_
  refine lv_lconst (v := 0) hx hb dX2_lowestTerms_9 (by decide) ?_
  refine W.lcmp hx hb dX2_lowestTerms_10 ?_
  refine lv_if_ne (tgt := 16) hx hb dX2_lowestTerms_11 (by decide) (fun c_3 => ?_) (fun c_3 => ?_)
  · replace c_3 := fun h => c_3 (lc_eq.mpr h)
    refine lv_iload hx hb dX2_lowestTerms_16 (lv_at hl 3 rfl) ?_
    refine lv_if_ne (tgt := 25) hx hb dX2_lowestTerms_18 (by decide) (fun c_4 => ?_) (fun c_4 => ?_)
    · refine lv_lload_n hx hb dX2_lowestTerms_25 rfl (lv_at hl 2 rfl) ?_
      refine lv_lload_n hx hb dX2_lowestTerms_26 rfl (lv_at hl 2 rfl) ?_
      refine lv_lconst (v := 0) hx hb dX2_lowestTerms_27 (by decide) ?_
      refine W.lcmp hx hb dX2_lowestTerms_28 ?_
      refine lv_if_ge (tgt := 38) hx hb dX2_lowestTerms_29 (by decide) (fun c_5 => ?_) (fun c_5 => ?_)
      · replace c_5 := lc_ge.mp c_5
        refine lv_lload hx hb dX2_lowestTerms_38 (lv_at hl 0 rfl) ?_
        refine lv_ldiv hx hb dX2_lowestTerms_40 (by first | assumption | exact ma_neg0 (by assumption)) ?_
        exact W.lret (v := (b / v_2)) hx hb hr (fun t ht hW => ⟨(b / v_2), rfl, by rw [x_low, ← ev_2, if_neg c_3, if_neg c_4, if_neg (Int64.not_lt.mpr c_5)], ht⟩) (fun _ h => nomatch h) dX2_lowestTerms_41
      · replace c_5 := fun h => c_5 (lc_ge.mpr h)
        refine lv_lload hx hb dX2_lowestTerms_32 (lv_at hl 0 rfl) ?_
        refine lv_lneg hx hb dX2_lowestTerms_34 ?_
        refine lv_goto (tgt := 40) hx hb dX2_lowestTerms_35 (by decide) ?_
        refine lv_ldiv hx hb dX2_lowestTerms_40 (by first | assumption | exact ma_neg0 (by assumption)) ?_
        exact W.lret (v := (b / (-v_2))) hx hb hr (fun t ht hW => ⟨(b / (-v_2)), rfl, by rw [x_low, ← ev_2, if_neg c_3, if_neg c_4, if_pos (Int64.not_le.mp c_5)], ht⟩) (fun _ h => nomatch h) dX2_lowestTerms_41
    · refine lv_lload_n hx hb dX2_lowestTerms_21 rfl (lv_at hl 1 rfl) ?_
      refine lv_goto (tgt := 26) hx hb dX2_lowestTerms_22 (by decide) ?_
      refine lv_lload_n hx hb dX2_lowestTerms_26 rfl (lv_at hl 2 rfl) ?_
      refine lv_lconst (v := 0) hx hb dX2_lowestTerms_27 (by decide) ?_
      refine W.lcmp hx hb dX2_lowestTerms_28 ?_
      refine lv_if_ge (tgt := 38) hx hb dX2_lowestTerms_29 (by decide) (fun c_6 => ?_) (fun c_6 => ?_)
      · replace c_6 := lc_ge.mp c_6
        refine lv_lload hx hb dX2_lowestTerms_38 (lv_at hl 0 rfl) ?_
        refine lv_ldiv hx hb dX2_lowestTerms_40 (by first | assumption | exact ma_neg0 (by assumption)) ?_
        exact W.lret (v := (a / v_2)) hx hb hr (fun t ht hW => ⟨(a / v_2), rfl, by rw [x_low, ← ev_2, if_neg c_3, if_pos c_4, if_neg (Int64.not_lt.mpr c_6)], ht⟩) (fun _ h => nomatch h) dX2_lowestTerms_41
      · replace c_6 := fun h => c_6 (lc_ge.mpr h)
        refine lv_lload hx hb dX2_lowestTerms_32 (lv_at hl 0 rfl) ?_
        refine lv_lneg hx hb dX2_lowestTerms_34 ?_
        refine lv_goto (tgt := 40) hx hb dX2_lowestTerms_35 (by decide) ?_
        refine lv_ldiv hx hb dX2_lowestTerms_40 (by first | assumption | exact ma_neg0 (by assumption)) ?_
        exact W.lret (v := (a / (-v_2))) hx hb hr (fun t ht hW => ⟨(a / (-v_2)), rfl, by rw [x_low, ← ev_2, if_neg c_3, if_pos c_4, if_pos (Int64.not_le.mp c_6)], ht⟩) (fun _ h => nomatch h) dX2_lowestTerms_41
  · replace c_3 := lc_eq.mp c_3
    refine lv_lconst (v := 0) hx hb dX2_lowestTerms_14 (by decide) ?_
    exact W.lret (v := 0) hx hb hr (fun t ht hW => ⟨0, rfl, by rw [x_low, ← ev_2, if_pos c_3], ht⟩) (fun _ h => nomatch h) dX2_lowestTerms_15
end
section
def p_above (f : Nat → Int32) (d : Int64) : Int64 := (f 6).toInt64 + d * ((f 5).toInt64 + d * (f 4).toInt64)
def p_12 (f : Nat → Int32) (x : Int64) : Int64 := x * ((12 * f 0).toInt64 + x * ((6 * f 1).toInt64 + x * ((4 * f 2).toInt64 + x * 3 * (f 3).toInt64)))
set_option maxHeartbeats 4000000 in
set_option maxRecDepth 100000 in
theorem c_X0_abovePoleAt (l : Launch) (D : va_G) (cI cL cQ : ClassId) (h n : Nat) (f : Nat → Int32) (x : Int64) : Met l yX0_abovePoleAt wsX0_abovePoleAt { frames := 0, cells := 0, slots := 0, locals := 0 } (va_Pc [.ref h, .long x] (pu_B D (ty3 cI cL cQ) [(h, .inr (0, [.ref n])), (n, .inl (cI, 8, .inl f))])) (vp_Sl (fun r => r = p_above f x)) 0 0 (fun _ => False) := by
  refine Met.ofW (cc := cX0_abovePoleAt) (maxL := 3) (ret := (some .long)) (by decide) rfl ?_
  intro p e s m args below meth c s₁ B hml hv
  obtain ⟨rfl, hK, hP⟩ := hv
  have hx := B.exec
  have hb := B.bytes
  have hr := B.returns
  have hts := atoms_spec (ws := wsX0_abovePoleAt) B.pre
  have hg : ∀ w ∈ gw, w.before ([.ref h, .long x] : List Value).toArray s = true := fun w h => hts w (List.mem_cons_of_mem _ h)
  have hown : s.vm.findClass RX0 = some m.cls := findClass_of_methodNamed B.named
  have hlocks := B.notSynchronized
  have hl := lv_entry ([.ref h, .long x]) (n := 3) (Nat.le_of_ble_eq_true rfl)
  rw [lg_entry_eq]
  generalize (lg_sl ([.ref h, .long x]) ++ List.replicate (3 - (lg_sl ([.ref h, .long x])).length) Slot.unset).toArray = ls at hl ⊢
  have hl : lv_has ls 3 [(0, .ref h), (1, .long x)] := hl
  refine lv_aload_n hx hb dX0_abovePoleAt_0 rfl (lv_at hl 0 rfl) ?_
  refine va_get (D := D) (ci := 0) (v := .ref n) (C := RX0) (T := TX0) (N := 1) hx hb hg inX0 hown hK hP 0 rfl rfl 0 (by decide) (hg _ fl_X0_9) (fun _ h9 => h9) rfl dX0_abovePoleAt_1 ?_
  refine lv_bipush (v := 6) hx hb dX0_abovePoleAt_4 (by decide) ?_
  refine va_iald (D := D) (n := 8) (f := f) hx hb hK hP 1 0 rfl rfl (vp_in_nI (show 6 < 8 by decide) (by decide)) dX0_abovePoleAt_6 ?_
  rw [show (6 : Int32).toNatClampNeg = 6 from by decide]
  refine lv_i2l hx hb dX0_abovePoleAt_7 rfl ?_
  refine lv_lload_n hx hb dX0_abovePoleAt_8 rfl (lv_at hl 1 rfl) ?_
  refine lv_aload_n hx hb dX0_abovePoleAt_9 rfl (lv_at hl 0 rfl) ?_
  refine va_get (D := D) (ci := 0) (v := .ref n) (C := RX0) (T := TX0) (N := 1) hx hb hg inX0 hown hK hP 0 rfl rfl 0 (by decide) (hg _ fl_X0_9) (fun _ h9 => h9) rfl dX0_abovePoleAt_10 ?_
  refine lv_iconst (v := 5) hx hb dX0_abovePoleAt_13 (by decide) ?_
  refine va_iald (D := D) (n := 8) (f := f) hx hb hK hP 1 0 rfl rfl (vp_in_nI (show 5 < 8 by decide) (by decide)) dX0_abovePoleAt_14 ?_
  rw [show (5 : Int32).toNatClampNeg = 5 from by decide]
  refine lv_i2l hx hb dX0_abovePoleAt_15 rfl ?_
  refine lv_lload_n hx hb dX0_abovePoleAt_16 rfl (lv_at hl 1 rfl) ?_
  refine lv_aload_n hx hb dX0_abovePoleAt_17 rfl (lv_at hl 0 rfl) ?_
  refine va_get (D := D) (ci := 0) (v := .ref n) (C := RX0) (T := TX0) (N := 1) hx hb hg inX0 hown hK hP 0 rfl rfl 0 (by decide) (hg _ fl_X0_9) (fun _ h9 => h9) rfl dX0_abovePoleAt_18 ?_
  refine lv_iconst (v := 4) hx hb dX0_abovePoleAt_21 (by decide) ?_
  refine va_iald (D := D) (n := 8) (f := f) hx hb hK hP 1 0 rfl rfl (vp_in_nI (show 4 < 8 by decide) (by decide)) dX0_abovePoleAt_22 ?_
  rw [show (4 : Int32).toNatClampNeg = 4 from by decide]
  refine lv_i2l hx hb dX0_abovePoleAt_23 rfl ?_
  refine lv_lmul hx hb dX0_abovePoleAt_24 ?_
  refine lv_ladd hx hb dX0_abovePoleAt_25 ?_
  refine lv_lmul hx hb dX0_abovePoleAt_26 ?_
  refine lv_ladd hx hb dX0_abovePoleAt_27 ?_
  exact W.lret (v := ((f 6).toInt64 + (x * ((f 5).toInt64 + (x * (f 4).toInt64))))) hx hb hr (fun t ht hW => ⟨((f 6).toInt64 + (x * ((f 5).toInt64 + (x * (f 4).toInt64)))), rfl, rfl, ht⟩) (fun _ h => nomatch h) dX0_abovePoleAt_28
set_option maxHeartbeats 4000000 in
set_option maxRecDepth 100000 in
theorem c_X0_twelfthsOfPowersPrimitive (l : Launch) (D : va_G) (cI cL cQ : ClassId) (h n : Nat) (f : Nat → Int32) (x : Int64) : Met l yX0_twelfthsOfPowersPrimitive wsX0_twelfthsOfPowersPrimitive { frames := 0, cells := 0, slots := 0, locals := 0 } (va_Pc [.ref h, .long x] (pu_B D (ty3 cI cL cQ) [(h, .inr (0, [.ref n])), (n, .inl (cI, 8, .inl f))])) (vp_Sl (fun r => r = p_12 f x)) 0 0 (fun _ => False) := by
  refine Met.ofW (cc := cX0_twelfthsOfPowersPrimitive) (maxL := 3) (ret := (some .long)) (by decide) rfl ?_
  intro p e s m args below meth c s₁ B hml hv
  obtain ⟨rfl, hK, hP⟩ := hv
  have hx := B.exec
  have hb := B.bytes
  have hr := B.returns
  have hts := atoms_spec (ws := wsX0_twelfthsOfPowersPrimitive) B.pre
  have hg : ∀ w ∈ gw, w.before ([.ref h, .long x] : List Value).toArray s = true := fun w h => hts w (List.mem_cons_of_mem _ h)
  have hown : s.vm.findClass RX0 = some m.cls := findClass_of_methodNamed B.named
  have hlocks := B.notSynchronized
  have hl := lv_entry ([.ref h, .long x]) (n := 3) (Nat.le_of_ble_eq_true rfl)
  rw [lg_entry_eq]
  generalize (lg_sl ([.ref h, .long x]) ++ List.replicate (3 - (lg_sl ([.ref h, .long x])).length) Slot.unset).toArray = ls at hl ⊢
  have hl : lv_has ls 3 [(0, .ref h), (1, .long x)] := hl
  refine lv_lload_n hx hb dX0_twelfthsOfPowersPrimitive_0 rfl (lv_at hl 1 rfl) ?_
  refine lv_bipush (v := 12) hx hb dX0_twelfthsOfPowersPrimitive_1 (by decide) ?_
  refine lv_aload_n hx hb dX0_twelfthsOfPowersPrimitive_3 rfl (lv_at hl 0 rfl) ?_
  refine va_get (D := D) (ci := 0) (v := .ref n) (C := RX0) (T := TX0) (N := 1) hx hb hg inX0 hown hK hP 0 rfl rfl 0 (by decide) (hg _ fl_X0_9) (fun _ h9 => h9) rfl dX0_twelfthsOfPowersPrimitive_4 ?_
  refine lv_iconst (v := 0) hx hb dX0_twelfthsOfPowersPrimitive_7 (by decide) ?_
  refine va_iald (D := D) (n := 8) (f := f) hx hb hK hP 1 0 rfl rfl (vp_in_nI (show 0 < 8 by decide) (by decide)) dX0_twelfthsOfPowersPrimitive_8 ?_
  rw [show (0 : Int32).toNatClampNeg = 0 from by decide]
  refine lv_imul hx hb dX0_twelfthsOfPowersPrimitive_9 ?_
  refine lv_i2l hx hb dX0_twelfthsOfPowersPrimitive_10 rfl ?_
  refine lv_lload_n hx hb dX0_twelfthsOfPowersPrimitive_11 rfl (lv_at hl 1 rfl) ?_
  refine lv_bipush (v := 6) hx hb dX0_twelfthsOfPowersPrimitive_12 (by decide) ?_
  refine lv_aload_n hx hb dX0_twelfthsOfPowersPrimitive_14 rfl (lv_at hl 0 rfl) ?_
  refine va_get (D := D) (ci := 0) (v := .ref n) (C := RX0) (T := TX0) (N := 1) hx hb hg inX0 hown hK hP 0 rfl rfl 0 (by decide) (hg _ fl_X0_9) (fun _ h9 => h9) rfl dX0_twelfthsOfPowersPrimitive_15 ?_
  refine lv_iconst (v := 1) hx hb dX0_twelfthsOfPowersPrimitive_18 (by decide) ?_
  refine va_iald (D := D) (n := 8) (f := f) hx hb hK hP 1 0 rfl rfl (vp_in_nI (show 1 < 8 by decide) (by decide)) dX0_twelfthsOfPowersPrimitive_19 ?_
  rw [show (1 : Int32).toNatClampNeg = 1 from by decide]
  refine lv_imul hx hb dX0_twelfthsOfPowersPrimitive_20 ?_
  refine lv_i2l hx hb dX0_twelfthsOfPowersPrimitive_21 rfl ?_
  refine lv_lload_n hx hb dX0_twelfthsOfPowersPrimitive_22 rfl (lv_at hl 1 rfl) ?_
  refine lv_iconst (v := 4) hx hb dX0_twelfthsOfPowersPrimitive_23 (by decide) ?_
  refine lv_aload_n hx hb dX0_twelfthsOfPowersPrimitive_24 rfl (lv_at hl 0 rfl) ?_
  refine va_get (D := D) (ci := 0) (v := .ref n) (C := RX0) (T := TX0) (N := 1) hx hb hg inX0 hown hK hP 0 rfl rfl 0 (by decide) (hg _ fl_X0_9) (fun _ h9 => h9) rfl dX0_twelfthsOfPowersPrimitive_25 ?_
  refine lv_iconst (v := 2) hx hb dX0_twelfthsOfPowersPrimitive_28 (by decide) ?_
  refine va_iald (D := D) (n := 8) (f := f) hx hb hK hP 1 0 rfl rfl (vp_in_nI (show 2 < 8 by decide) (by decide)) dX0_twelfthsOfPowersPrimitive_29 ?_
  rw [show (2 : Int32).toNatClampNeg = 2 from by decide]
  refine lv_imul hx hb dX0_twelfthsOfPowersPrimitive_30 ?_
  refine lv_i2l hx hb dX0_twelfthsOfPowersPrimitive_31 rfl ?_
  refine lv_lload_n hx hb dX0_twelfthsOfPowersPrimitive_32 rfl (lv_at hl 1 rfl) ?_
  refine lv_ldc2 (v := 3) hx hb hown (hg _ kl_X0_41) dX0_twelfthsOfPowersPrimitive_33 ?_
  refine lv_lmul hx hb dX0_twelfthsOfPowersPrimitive_36 ?_
  refine lv_aload_n hx hb dX0_twelfthsOfPowersPrimitive_37 rfl (lv_at hl 0 rfl) ?_
  refine va_get (D := D) (ci := 0) (v := .ref n) (C := RX0) (T := TX0) (N := 1) hx hb hg inX0 hown hK hP 0 rfl rfl 0 (by decide) (hg _ fl_X0_9) (fun _ h9 => h9) rfl dX0_twelfthsOfPowersPrimitive_38 ?_
  refine lv_iconst (v := 3) hx hb dX0_twelfthsOfPowersPrimitive_41 (by decide) ?_
  refine va_iald (D := D) (n := 8) (f := f) hx hb hK hP 1 0 rfl rfl (vp_in_nI (show 3 < 8 by decide) (by decide)) dX0_twelfthsOfPowersPrimitive_42 ?_
  rw [show (3 : Int32).toNatClampNeg = 3 from by decide]
  refine lv_i2l hx hb dX0_twelfthsOfPowersPrimitive_43 rfl ?_
  refine lv_lmul hx hb dX0_twelfthsOfPowersPrimitive_44 ?_
  refine lv_ladd hx hb dX0_twelfthsOfPowersPrimitive_45 ?_
  refine lv_lmul hx hb dX0_twelfthsOfPowersPrimitive_46 ?_
  refine lv_ladd hx hb dX0_twelfthsOfPowersPrimitive_47 ?_
  refine lv_lmul hx hb dX0_twelfthsOfPowersPrimitive_48 ?_
  refine lv_ladd hx hb dX0_twelfthsOfPowersPrimitive_49 ?_
  refine lv_lmul hx hb dX0_twelfthsOfPowersPrimitive_50 ?_
  exact W.lret (v := (x * ((12 * (f 0)).toInt64 + (x * ((6 * (f 1)).toInt64 + (x * ((4 * (f 2)).toInt64 + ((x * 3) * (f 3).toInt64)))))))) hx hb hr (fun t ht hW => ⟨(x * ((12 * (f 0)).toInt64 + (x * ((6 * (f 1)).toInt64 + (x * ((4 * (f 2)).toInt64 + ((x * 3) * (f 3).toInt64))))))), rfl, rfl, ht⟩) (fun _ h => nomatch h) dX0_twelfthsOfPowersPrimitive_51
set_option maxHeartbeats 4000000 in
set_option maxRecDepth 100000 in
theorem c_X0_mirrors (l : Launch) (A : Nat → Prop) (D : va_G) (cI cL cQ : ClassId) (h n h2 n2 : Nat) (f g : Nat → Int32) (z : Int32) : Met l yX0_mirrors wsX0_mirrors { frames := 1, cells := 0, slots := 0, locals := 20 } (va_Pc [.ref h, .ref h2, .int z] (fun U => gl_G A U U.heap ∧ pu_B D (ty3 cI cL cQ) [(h, .inr (0, [.ref n])), (n, .inl (cI, 8, .inl f)), (h2, .inr (0, [.ref n2])), (n2, .inl (cI, 8, .inl g))] U)) (vp_Si (fun r => r = zi (p_mir f g z))) 0 0 (fun _ => False) := by
  refine Met.ofW (cc := cX0_mirrors) (maxL := 4) (ret := (some .boolean)) (by decide) rfl ?_
  intro p e s m args below meth c s₁ B hml hv
  obtain ⟨rfl, hG, hK, hP⟩ := hv
  have hx := B.exec
  have hb := B.bytes
  have hr := B.returns
  have hts := atoms_spec (ws := wsX0_mirrors) B.pre
  have hg : ∀ w ∈ gw, w.before ([.ref h, .ref h2, .int z] : List Value).toArray s = true := fun w h => hts w (List.mem_cons_of_mem _ h)
  have hown : s.vm.findClass RX0 = some m.cls := findClass_of_methodNamed B.named
  have hlocks := B.notSynchronized
  have hl := lv_entry ([.ref h, .ref h2, .int z]) (n := 4) (Nat.le_of_ble_eq_true rfl)
  rw [lg_entry_eq]
  generalize (lg_sl ([.ref h, .ref h2, .int z]) ++ List.replicate (4 - (lg_sl ([.ref h, .ref h2, .int z])).length) Slot.unset).toArray = ls at hl ⊢
  have hl : lv_has ls 4 [(0, .ref h), (1, .ref h2), (2, .int z)] := hl
  obtain ⟨tM, hzM, htM⟩ := hG.2.2.1
  have hS : va_S A s.heap s.heap [] := va_S.rf
  refine lv_iconst (v := 0) hx hb dX0_mirrors_0 (by decide) ?_
  refine lv_istore_n (lv' := [(3, .int 0), (0, .ref h), (1, .ref h2), (2, .int z)]) hx hb dX0_mirrors_1 rfl hl (by decide) rfl (fun ls hl => ?_)
  refine lv_iload_n hx hb dX0_mirrors_2 rfl (lv_at hl 0 rfl) ?_
  refine lv_bipush (v := 7) hx hb dX0_mirrors_3 (by decide) ?_
  refine lv_icmp_ge (tgt := 39) hx hb dX0_mirrors_5 (by decide) (fun c_1 => absurd c_1 (by decide)) (fun _ => ?_)
  refine lv_aload_n hx hb dX0_mirrors_8 rfl (lv_at hl 1 rfl) ?_
  refine va_get (D := D) (ci := 0) (v := .ref n) (C := RX0) (T := TX0) (N := 1) hx hb hg inX0 hown hK hP 0 rfl rfl 0 (by decide) (hg _ fl_X0_9) (fun _ h9 => h9) rfl dX0_mirrors_9 ?_
  refine lv_iload_n hx hb dX0_mirrors_12 rfl (lv_at hl 0 rfl) ?_
  refine va_iald (D := D) (n := 8) (f := f) hx hb hK hP 1 0 rfl rfl (vp_in_nI (show 0 < 8 by decide) (by decide)) dX0_mirrors_13 ?_
  rw [show (0 : Int32).toNatClampNeg = 0 from by decide]
  refine lv_iload_n hx hb dX0_mirrors_14 rfl (lv_at hl 3 rfl) ?_
  refine va_getsN (C := RX2) (n := "MIRROR_SIGNS") (d := "[I") (v := .ref tM) hx hb hzM hS hown (hG.nest fn_X0_27) (fun _ h9 => h9) dX0_mirrors_15 ?_
  refine lv_iload_n hx hb dX0_mirrors_18 rfl (lv_at hl 0 rfl) ?_
  refine va_ti (N := 8) (v := .int (gl_sign 0)) hx hb htM hS (vp_in_nI (show 0 < 8 by decide) (by decide)) rfl dX0_mirrors_19 ?_
  refine lv_imul hx hb dX0_mirrors_20 ?_
  refine lv_aload_n hx hb dX0_mirrors_21 rfl (lv_at hl 2 rfl) ?_
  refine va_get (D := D) (ci := 0) (v := .ref n2) (C := RX0) (T := TX0) (N := 1) hx hb hg inX0 hown hK hP 2 rfl rfl 0 (by decide) (hg _ fl_X0_9) (fun _ h9 => h9) rfl dX0_mirrors_22 ?_
  refine lv_iload_n hx hb dX0_mirrors_25 rfl (lv_at hl 0 rfl) ?_
  refine va_iald (D := D) (n := 8) (f := g) hx hb hK hP 3 0 rfl rfl (vp_in_nI (show 0 < 8 by decide) (by decide)) dX0_mirrors_26 ?_
  rw [show (0 : Int32).toNatClampNeg = 0 from by decide]
  refine lv_imul hx hb dX0_mirrors_27 ?_
  refine lv_icmp_eq (tgt := 33) hx hb dX0_mirrors_28 (by decide) (fun c_2 => ?_) (fun c_2 => ?_)
  · refine lv_iinc (v := 1) (lv' := [(3, .int 1), (0, .ref h), (1, .ref h2), (2, .int z)]) hx hb dX0_mirrors_33 hl (k := 0) rfl (by decide) (by decide) rfl (fun ls hl => ?_)
    refine lv_goto (tgt := 2) hx hb dX0_mirrors_36 (by decide) ?_
    refine lv_iload_n hx hb dX0_mirrors_2 rfl (lv_at hl 0 rfl) ?_
    refine lv_bipush (v := 7) hx hb dX0_mirrors_3 (by decide) ?_
    refine lv_icmp_ge (tgt := 39) hx hb dX0_mirrors_5 (by decide) (fun c_3 => absurd c_3 (by decide)) (fun _ => ?_)
    refine lv_aload_n hx hb dX0_mirrors_8 rfl (lv_at hl 1 rfl) ?_
    refine va_get (D := D) (ci := 0) (v := .ref n) (C := RX0) (T := TX0) (N := 1) hx hb hg inX0 hown hK hP 0 rfl rfl 0 (by decide) (hg _ fl_X0_9) (fun _ h9 => h9) rfl dX0_mirrors_9 ?_
    refine lv_iload_n hx hb dX0_mirrors_12 rfl (lv_at hl 0 rfl) ?_
    refine va_iald (D := D) (n := 8) (f := f) hx hb hK hP 1 0 rfl rfl (vp_in_nI (show 1 < 8 by decide) (by decide)) dX0_mirrors_13 ?_
    rw [show (1 : Int32).toNatClampNeg = 1 from by decide]
    refine lv_iload_n hx hb dX0_mirrors_14 rfl (lv_at hl 3 rfl) ?_
    refine va_getsN (C := RX2) (n := "MIRROR_SIGNS") (d := "[I") (v := .ref tM) hx hb hzM hS hown (hG.nest fn_X0_27) (fun _ h9 => h9) dX0_mirrors_15 ?_
    refine lv_iload_n hx hb dX0_mirrors_18 rfl (lv_at hl 0 rfl) ?_
    refine va_ti (N := 8) (v := .int (gl_sign 1)) hx hb htM hS (vp_in_nI (show 1 < 8 by decide) (by decide)) rfl dX0_mirrors_19 ?_
    refine lv_imul hx hb dX0_mirrors_20 ?_
    refine lv_aload_n hx hb dX0_mirrors_21 rfl (lv_at hl 2 rfl) ?_
    refine va_get (D := D) (ci := 0) (v := .ref n2) (C := RX0) (T := TX0) (N := 1) hx hb hg inX0 hown hK hP 2 rfl rfl 0 (by decide) (hg _ fl_X0_9) (fun _ h9 => h9) rfl dX0_mirrors_22 ?_
    refine lv_iload_n hx hb dX0_mirrors_25 rfl (lv_at hl 0 rfl) ?_
    refine va_iald (D := D) (n := 8) (f := g) hx hb hK hP 3 0 rfl rfl (vp_in_nI (show 1 < 8 by decide) (by decide)) dX0_mirrors_26 ?_
    rw [show (1 : Int32).toNatClampNeg = 1 from by decide]
    refine lv_imul hx hb dX0_mirrors_27 ?_
    refine lv_icmp_eq (tgt := 33) hx hb dX0_mirrors_28 (by decide) (fun c_4 => ?_) (fun c_4 => ?_)
    · refine lv_iinc (v := 2) (lv' := [(3, .int 2), (0, .ref h), (1, .ref h2), (2, .int z)]) hx hb dX0_mirrors_33 hl (k := 0) rfl (by decide) (by decide) rfl (fun ls hl => ?_)
      refine lv_goto (tgt := 2) hx hb dX0_mirrors_36 (by decide) ?_
      refine lv_iload_n hx hb dX0_mirrors_2 rfl (lv_at hl 0 rfl) ?_
      refine lv_bipush (v := 7) hx hb dX0_mirrors_3 (by decide) ?_
      refine lv_icmp_ge (tgt := 39) hx hb dX0_mirrors_5 (by decide) (fun c_5 => absurd c_5 (by decide)) (fun _ => ?_)
      refine lv_aload_n hx hb dX0_mirrors_8 rfl (lv_at hl 1 rfl) ?_
      refine va_get (D := D) (ci := 0) (v := .ref n) (C := RX0) (T := TX0) (N := 1) hx hb hg inX0 hown hK hP 0 rfl rfl 0 (by decide) (hg _ fl_X0_9) (fun _ h9 => h9) rfl dX0_mirrors_9 ?_
      refine lv_iload_n hx hb dX0_mirrors_12 rfl (lv_at hl 0 rfl) ?_
      refine va_iald (D := D) (n := 8) (f := f) hx hb hK hP 1 0 rfl rfl (vp_in_nI (show 2 < 8 by decide) (by decide)) dX0_mirrors_13 ?_
      rw [show (2 : Int32).toNatClampNeg = 2 from by decide]
      refine lv_iload_n hx hb dX0_mirrors_14 rfl (lv_at hl 3 rfl) ?_
      refine va_getsN (C := RX2) (n := "MIRROR_SIGNS") (d := "[I") (v := .ref tM) hx hb hzM hS hown (hG.nest fn_X0_27) (fun _ h9 => h9) dX0_mirrors_15 ?_
      refine lv_iload_n hx hb dX0_mirrors_18 rfl (lv_at hl 0 rfl) ?_
      refine va_ti (N := 8) (v := .int (gl_sign 2)) hx hb htM hS (vp_in_nI (show 2 < 8 by decide) (by decide)) rfl dX0_mirrors_19 ?_
      refine lv_imul hx hb dX0_mirrors_20 ?_
      refine lv_aload_n hx hb dX0_mirrors_21 rfl (lv_at hl 2 rfl) ?_
      refine va_get (D := D) (ci := 0) (v := .ref n2) (C := RX0) (T := TX0) (N := 1) hx hb hg inX0 hown hK hP 2 rfl rfl 0 (by decide) (hg _ fl_X0_9) (fun _ h9 => h9) rfl dX0_mirrors_22 ?_
      refine lv_iload_n hx hb dX0_mirrors_25 rfl (lv_at hl 0 rfl) ?_
      refine va_iald (D := D) (n := 8) (f := g) hx hb hK hP 3 0 rfl rfl (vp_in_nI (show 2 < 8 by decide) (by decide)) dX0_mirrors_26 ?_
      rw [show (2 : Int32).toNatClampNeg = 2 from by decide]
      refine lv_imul hx hb dX0_mirrors_27 ?_
      refine lv_icmp_eq (tgt := 33) hx hb dX0_mirrors_28 (by decide) (fun c_6 => ?_) (fun c_6 => ?_)
      · refine lv_iinc (v := 3) (lv' := [(3, .int 3), (0, .ref h), (1, .ref h2), (2, .int z)]) hx hb dX0_mirrors_33 hl (k := 0) rfl (by decide) (by decide) rfl (fun ls hl => ?_)
        refine lv_goto (tgt := 2) hx hb dX0_mirrors_36 (by decide) ?_
        refine lv_iload_n hx hb dX0_mirrors_2 rfl (lv_at hl 0 rfl) ?_
        refine lv_bipush (v := 7) hx hb dX0_mirrors_3 (by decide) ?_
        refine lv_icmp_ge (tgt := 39) hx hb dX0_mirrors_5 (by decide) (fun c_7 => absurd c_7 (by decide)) (fun _ => ?_)
        refine lv_aload_n hx hb dX0_mirrors_8 rfl (lv_at hl 1 rfl) ?_
        refine va_get (D := D) (ci := 0) (v := .ref n) (C := RX0) (T := TX0) (N := 1) hx hb hg inX0 hown hK hP 0 rfl rfl 0 (by decide) (hg _ fl_X0_9) (fun _ h9 => h9) rfl dX0_mirrors_9 ?_
        refine lv_iload_n hx hb dX0_mirrors_12 rfl (lv_at hl 0 rfl) ?_
        refine va_iald (D := D) (n := 8) (f := f) hx hb hK hP 1 0 rfl rfl (vp_in_nI (show 3 < 8 by decide) (by decide)) dX0_mirrors_13 ?_
        rw [show (3 : Int32).toNatClampNeg = 3 from by decide]
        refine lv_iload_n hx hb dX0_mirrors_14 rfl (lv_at hl 3 rfl) ?_
        refine va_getsN (C := RX2) (n := "MIRROR_SIGNS") (d := "[I") (v := .ref tM) hx hb hzM hS hown (hG.nest fn_X0_27) (fun _ h9 => h9) dX0_mirrors_15 ?_
        refine lv_iload_n hx hb dX0_mirrors_18 rfl (lv_at hl 0 rfl) ?_
        refine va_ti (N := 8) (v := .int (gl_sign 3)) hx hb htM hS (vp_in_nI (show 3 < 8 by decide) (by decide)) rfl dX0_mirrors_19 ?_
        refine lv_imul hx hb dX0_mirrors_20 ?_
        refine lv_aload_n hx hb dX0_mirrors_21 rfl (lv_at hl 2 rfl) ?_
        refine va_get (D := D) (ci := 0) (v := .ref n2) (C := RX0) (T := TX0) (N := 1) hx hb hg inX0 hown hK hP 2 rfl rfl 0 (by decide) (hg _ fl_X0_9) (fun _ h9 => h9) rfl dX0_mirrors_22 ?_
        refine lv_iload_n hx hb dX0_mirrors_25 rfl (lv_at hl 0 rfl) ?_
        refine va_iald (D := D) (n := 8) (f := g) hx hb hK hP 3 0 rfl rfl (vp_in_nI (show 3 < 8 by decide) (by decide)) dX0_mirrors_26 ?_
        rw [show (3 : Int32).toNatClampNeg = 3 from by decide]
        refine lv_imul hx hb dX0_mirrors_27 ?_
        refine lv_icmp_eq (tgt := 33) hx hb dX0_mirrors_28 (by decide) (fun c_8 => ?_) (fun c_8 => ?_)
        · refine lv_iinc (v := 4) (lv' := [(3, .int 4), (0, .ref h), (1, .ref h2), (2, .int z)]) hx hb dX0_mirrors_33 hl (k := 0) rfl (by decide) (by decide) rfl (fun ls hl => ?_)
          refine lv_goto (tgt := 2) hx hb dX0_mirrors_36 (by decide) ?_
          refine lv_iload_n hx hb dX0_mirrors_2 rfl (lv_at hl 0 rfl) ?_
          refine lv_bipush (v := 7) hx hb dX0_mirrors_3 (by decide) ?_
          refine lv_icmp_ge (tgt := 39) hx hb dX0_mirrors_5 (by decide) (fun c_9 => absurd c_9 (by decide)) (fun _ => ?_)
          refine lv_aload_n hx hb dX0_mirrors_8 rfl (lv_at hl 1 rfl) ?_
          refine va_get (D := D) (ci := 0) (v := .ref n) (C := RX0) (T := TX0) (N := 1) hx hb hg inX0 hown hK hP 0 rfl rfl 0 (by decide) (hg _ fl_X0_9) (fun _ h9 => h9) rfl dX0_mirrors_9 ?_
          refine lv_iload_n hx hb dX0_mirrors_12 rfl (lv_at hl 0 rfl) ?_
          refine va_iald (D := D) (n := 8) (f := f) hx hb hK hP 1 0 rfl rfl (vp_in_nI (show 4 < 8 by decide) (by decide)) dX0_mirrors_13 ?_
          rw [show (4 : Int32).toNatClampNeg = 4 from by decide]
          refine lv_iload_n hx hb dX0_mirrors_14 rfl (lv_at hl 3 rfl) ?_
          refine va_getsN (C := RX2) (n := "MIRROR_SIGNS") (d := "[I") (v := .ref tM) hx hb hzM hS hown (hG.nest fn_X0_27) (fun _ h9 => h9) dX0_mirrors_15 ?_
          refine lv_iload_n hx hb dX0_mirrors_18 rfl (lv_at hl 0 rfl) ?_
          refine va_ti (N := 8) (v := .int (gl_sign 4)) hx hb htM hS (vp_in_nI (show 4 < 8 by decide) (by decide)) rfl dX0_mirrors_19 ?_
          refine lv_imul hx hb dX0_mirrors_20 ?_
          refine lv_aload_n hx hb dX0_mirrors_21 rfl (lv_at hl 2 rfl) ?_
          refine va_get (D := D) (ci := 0) (v := .ref n2) (C := RX0) (T := TX0) (N := 1) hx hb hg inX0 hown hK hP 2 rfl rfl 0 (by decide) (hg _ fl_X0_9) (fun _ h9 => h9) rfl dX0_mirrors_22 ?_
          refine lv_iload_n hx hb dX0_mirrors_25 rfl (lv_at hl 0 rfl) ?_
          refine va_iald (D := D) (n := 8) (f := g) hx hb hK hP 3 0 rfl rfl (vp_in_nI (show 4 < 8 by decide) (by decide)) dX0_mirrors_26 ?_
          rw [show (4 : Int32).toNatClampNeg = 4 from by decide]
          refine lv_imul hx hb dX0_mirrors_27 ?_
          refine lv_icmp_eq (tgt := 33) hx hb dX0_mirrors_28 (by decide) (fun c_10 => ?_) (fun c_10 => ?_)
          · refine lv_iinc (v := 5) (lv' := [(3, .int 5), (0, .ref h), (1, .ref h2), (2, .int z)]) hx hb dX0_mirrors_33 hl (k := 0) rfl (by decide) (by decide) rfl (fun ls hl => ?_)
            refine lv_goto (tgt := 2) hx hb dX0_mirrors_36 (by decide) ?_
            refine lv_iload_n hx hb dX0_mirrors_2 rfl (lv_at hl 0 rfl) ?_
            refine lv_bipush (v := 7) hx hb dX0_mirrors_3 (by decide) ?_
            refine lv_icmp_ge (tgt := 39) hx hb dX0_mirrors_5 (by decide) (fun c_11 => absurd c_11 (by decide)) (fun _ => ?_)
            refine lv_aload_n hx hb dX0_mirrors_8 rfl (lv_at hl 1 rfl) ?_
            refine va_get (D := D) (ci := 0) (v := .ref n) (C := RX0) (T := TX0) (N := 1) hx hb hg inX0 hown hK hP 0 rfl rfl 0 (by decide) (hg _ fl_X0_9) (fun _ h9 => h9) rfl dX0_mirrors_9 ?_
            refine lv_iload_n hx hb dX0_mirrors_12 rfl (lv_at hl 0 rfl) ?_
            refine va_iald (D := D) (n := 8) (f := f) hx hb hK hP 1 0 rfl rfl (vp_in_nI (show 5 < 8 by decide) (by decide)) dX0_mirrors_13 ?_
            rw [show (5 : Int32).toNatClampNeg = 5 from by decide]
            refine lv_iload_n hx hb dX0_mirrors_14 rfl (lv_at hl 3 rfl) ?_
            refine va_getsN (C := RX2) (n := "MIRROR_SIGNS") (d := "[I") (v := .ref tM) hx hb hzM hS hown (hG.nest fn_X0_27) (fun _ h9 => h9) dX0_mirrors_15 ?_
            refine lv_iload_n hx hb dX0_mirrors_18 rfl (lv_at hl 0 rfl) ?_
            refine va_ti (N := 8) (v := .int (gl_sign 5)) hx hb htM hS (vp_in_nI (show 5 < 8 by decide) (by decide)) rfl dX0_mirrors_19 ?_
            refine lv_imul hx hb dX0_mirrors_20 ?_
            refine lv_aload_n hx hb dX0_mirrors_21 rfl (lv_at hl 2 rfl) ?_
            refine va_get (D := D) (ci := 0) (v := .ref n2) (C := RX0) (T := TX0) (N := 1) hx hb hg inX0 hown hK hP 2 rfl rfl 0 (by decide) (hg _ fl_X0_9) (fun _ h9 => h9) rfl dX0_mirrors_22 ?_
            refine lv_iload_n hx hb dX0_mirrors_25 rfl (lv_at hl 0 rfl) ?_
            refine va_iald (D := D) (n := 8) (f := g) hx hb hK hP 3 0 rfl rfl (vp_in_nI (show 5 < 8 by decide) (by decide)) dX0_mirrors_26 ?_
            rw [show (5 : Int32).toNatClampNeg = 5 from by decide]
            refine lv_imul hx hb dX0_mirrors_27 ?_
            refine lv_icmp_eq (tgt := 33) hx hb dX0_mirrors_28 (by decide) (fun c_12 => ?_) (fun c_12 => ?_)
            · refine lv_iinc (v := 6) (lv' := [(3, .int 6), (0, .ref h), (1, .ref h2), (2, .int z)]) hx hb dX0_mirrors_33 hl (k := 0) rfl (by decide) (by decide) rfl (fun ls hl => ?_)
              refine lv_goto (tgt := 2) hx hb dX0_mirrors_36 (by decide) ?_
              refine lv_iload_n hx hb dX0_mirrors_2 rfl (lv_at hl 0 rfl) ?_
              refine lv_bipush (v := 7) hx hb dX0_mirrors_3 (by decide) ?_
              refine lv_icmp_ge (tgt := 39) hx hb dX0_mirrors_5 (by decide) (fun c_13 => absurd c_13 (by decide)) (fun _ => ?_)
              refine lv_aload_n hx hb dX0_mirrors_8 rfl (lv_at hl 1 rfl) ?_
              refine va_get (D := D) (ci := 0) (v := .ref n) (C := RX0) (T := TX0) (N := 1) hx hb hg inX0 hown hK hP 0 rfl rfl 0 (by decide) (hg _ fl_X0_9) (fun _ h9 => h9) rfl dX0_mirrors_9 ?_
              refine lv_iload_n hx hb dX0_mirrors_12 rfl (lv_at hl 0 rfl) ?_
              refine va_iald (D := D) (n := 8) (f := f) hx hb hK hP 1 0 rfl rfl (vp_in_nI (show 6 < 8 by decide) (by decide)) dX0_mirrors_13 ?_
              rw [show (6 : Int32).toNatClampNeg = 6 from by decide]
              refine lv_iload_n hx hb dX0_mirrors_14 rfl (lv_at hl 3 rfl) ?_
              refine va_getsN (C := RX2) (n := "MIRROR_SIGNS") (d := "[I") (v := .ref tM) hx hb hzM hS hown (hG.nest fn_X0_27) (fun _ h9 => h9) dX0_mirrors_15 ?_
              refine lv_iload_n hx hb dX0_mirrors_18 rfl (lv_at hl 0 rfl) ?_
              refine va_ti (N := 8) (v := .int (gl_sign 6)) hx hb htM hS (vp_in_nI (show 6 < 8 by decide) (by decide)) rfl dX0_mirrors_19 ?_
              refine lv_imul hx hb dX0_mirrors_20 ?_
              refine lv_aload_n hx hb dX0_mirrors_21 rfl (lv_at hl 2 rfl) ?_
              refine va_get (D := D) (ci := 0) (v := .ref n2) (C := RX0) (T := TX0) (N := 1) hx hb hg inX0 hown hK hP 2 rfl rfl 0 (by decide) (hg _ fl_X0_9) (fun _ h9 => h9) rfl dX0_mirrors_22 ?_
              refine lv_iload_n hx hb dX0_mirrors_25 rfl (lv_at hl 0 rfl) ?_
              refine va_iald (D := D) (n := 8) (f := g) hx hb hK hP 3 0 rfl rfl (vp_in_nI (show 6 < 8 by decide) (by decide)) dX0_mirrors_26 ?_
              rw [show (6 : Int32).toNatClampNeg = 6 from by decide]
              refine lv_imul hx hb dX0_mirrors_27 ?_
              refine lv_icmp_eq (tgt := 33) hx hb dX0_mirrors_28 (by decide) (fun c_14 => ?_) (fun c_14 => ?_)
              · refine lv_iinc (v := 7) (lv' := [(3, .int 7), (0, .ref h), (1, .ref h2), (2, .int z)]) hx hb dX0_mirrors_33 hl (k := 0) rfl (by decide) (by decide) rfl (fun ls hl => ?_)
                refine lv_goto (tgt := 2) hx hb dX0_mirrors_36 (by decide) ?_
                refine lv_iload_n hx hb dX0_mirrors_2 rfl (lv_at hl 0 rfl) ?_
                refine lv_bipush (v := 7) hx hb dX0_mirrors_3 (by decide) ?_
                refine lv_icmp_ge (tgt := 39) hx hb dX0_mirrors_5 (by decide) (fun _ => ?_) (fun c_15 => absurd c_15 (by decide))
                refine lv_aload_n hx hb dX0_mirrors_39 rfl (lv_at hl 1 rfl) ?_
                refine vp_callSi (W.runV (As := []) (rest := []) ⟨hx, hb, hml, hown, hg⟩ (c_X0_hasPole l D cI cL cQ h n f) (cwV 0 hg (gw_V ml_X0_30 im_X0_hasPole se_X0_hasPole ini_X0 co_X0_hasPole) rfl rfl rfl (by decide +kernel) ⟨Nat.le_of_ble_eq_true rfl, Nat.le_of_ble_eq_true rfl⟩) ⟨pu_B.blind, va_recv hK hP (ci := 0) (q0 := 0) rfl rfl, (fun U hU hW => ⟨rfl, pu_B.at hK (hP.sub [0, 1] rfl) hU hW⟩)⟩ rfl rfl hl.1 rfl (lv_room (Nat.le_of_ble_eq_true rfl)) dX0_mirrors_40 ⟨Nat.le_of_ble_eq_true rfl, Nat.le_of_ble_eq_true rfl⟩) (fun r_16 hr_16 => ?_)
                subst hr_16
                refine lv_if_eq (tgt := 64) hx hb dX0_mirrors_43 (by decide) (fun c_17 => ?_) (fun c_17 => ?_)
                · replace c_17 := zi_0 c_17
                  refine lv_iconst (v := 1) hx hb dX0_mirrors_64 (by decide) ?_
                  refine lv_goto (tgt := 69) hx hb dX0_mirrors_65 (by decide) ?_
                  exact W.zret (v := 1) hx hb hr rfl (fun t ht hW => ⟨1, rfl, by simp [zi, p_mir, c_2, c_4, c_6, c_8, c_10, c_12, c_14, c_17], ht⟩) (fun _ h => nomatch h) dX0_mirrors_69
                · replace c_17 := zi_n0 c_17
                  refine lv_aload_n hx hb dX0_mirrors_46 rfl (lv_at hl 1 rfl) ?_
                  refine va_get (D := D) (ci := 0) (v := .ref n) (C := RX0) (T := TX0) (N := 1) hx hb hg inX0 hown hK hP 0 rfl rfl 0 (by decide) (hg _ fl_X0_9) (fun _ h9 => h9) rfl dX0_mirrors_47 ?_
                  refine lv_bipush (v := 7) hx hb dX0_mirrors_50 (by decide) ?_
                  refine va_iald (D := D) (n := 8) (f := f) hx hb hK hP 1 0 rfl rfl (vp_in_nI (show 7 < 8 by decide) (by decide)) dX0_mirrors_52 ?_
                  rw [show (7 : Int32).toNatClampNeg = 7 from by decide]
                  refine lv_aload_n hx hb dX0_mirrors_53 rfl (lv_at hl 2 rfl) ?_
                  refine va_get (D := D) (ci := 0) (v := .ref n2) (C := RX0) (T := TX0) (N := 1) hx hb hg inX0 hown hK hP 2 rfl rfl 0 (by decide) (hg _ fl_X0_9) (fun _ h9 => h9) rfl dX0_mirrors_54 ?_
                  refine lv_bipush (v := 7) hx hb dX0_mirrors_57 (by decide) ?_
                  refine va_iald (D := D) (n := 8) (f := g) hx hb hK hP 3 0 rfl rfl (vp_in_nI (show 7 < 8 by decide) (by decide)) dX0_mirrors_59 ?_
                  rw [show (7 : Int32).toNatClampNeg = 7 from by decide]
                  refine lv_ineg hx hb dX0_mirrors_60 ?_
                  refine lv_icmp_ne (tgt := 68) hx hb dX0_mirrors_61 (by decide) (fun c_18 => ?_) (fun c_18 => ?_)
                  · refine lv_iconst (v := 0) hx hb dX0_mirrors_68 (by decide) ?_
                    exact W.zret (v := 0) hx hb hr rfl (fun t ht hW => ⟨0, rfl, by simp [zi, p_mir, c_2, c_4, c_6, c_8, c_10, c_12, c_14, c_17, c_18], ht⟩) (fun _ h => nomatch h) dX0_mirrors_69
                  · refine lv_iconst (v := 1) hx hb dX0_mirrors_64 (by decide) ?_
                    refine lv_goto (tgt := 69) hx hb dX0_mirrors_65 (by decide) ?_
                    exact W.zret (v := 1) hx hb hr rfl (fun t ht hW => ⟨1, rfl, by simp [zi, p_mir, c_2, c_4, c_6, c_8, c_10, c_12, c_14, c_17, c_18], ht⟩) (fun _ h => nomatch h) dX0_mirrors_69
              · refine lv_iconst (v := 0) hx hb dX0_mirrors_31 (by decide) ?_
                exact W.zret (v := 0) hx hb hr rfl (fun t ht hW => ⟨0, rfl, by simp [zi, p_mir, c_2, c_4, c_6, c_8, c_10, c_12, c_14], ht⟩) (fun _ h => nomatch h) dX0_mirrors_32
            · refine lv_iconst (v := 0) hx hb dX0_mirrors_31 (by decide) ?_
              exact W.zret (v := 0) hx hb hr rfl (fun t ht hW => ⟨0, rfl, by simp [zi, p_mir, c_2, c_4, c_6, c_8, c_10, c_12], ht⟩) (fun _ h => nomatch h) dX0_mirrors_32
          · refine lv_iconst (v := 0) hx hb dX0_mirrors_31 (by decide) ?_
            exact W.zret (v := 0) hx hb hr rfl (fun t ht hW => ⟨0, rfl, by simp [zi, p_mir, c_2, c_4, c_6, c_8, c_10], ht⟩) (fun _ h => nomatch h) dX0_mirrors_32
        · refine lv_iconst (v := 0) hx hb dX0_mirrors_31 (by decide) ?_
          exact W.zret (v := 0) hx hb hr rfl (fun t ht hW => ⟨0, rfl, by simp [zi, p_mir, c_2, c_4, c_6, c_8], ht⟩) (fun _ h => nomatch h) dX0_mirrors_32
      · refine lv_iconst (v := 0) hx hb dX0_mirrors_31 (by decide) ?_
        exact W.zret (v := 0) hx hb hr rfl (fun t ht hW => ⟨0, rfl, by simp [zi, p_mir, c_2, c_4, c_6], ht⟩) (fun _ h => nomatch h) dX0_mirrors_32
    · refine lv_iconst (v := 0) hx hb dX0_mirrors_31 (by decide) ?_
      exact W.zret (v := 0) hx hb hr rfl (fun t ht hW => ⟨0, rfl, by simp [zi, p_mir, c_2, c_4], ht⟩) (fun _ h => nomatch h) dX0_mirrors_32
  · refine lv_iconst (v := 0) hx hb dX0_mirrors_31 (by decide) ?_
    exact W.zret (v := 0) hx hb hr rfl (fun t ht hW => ⟨0, rfl, by simp [zi, p_mir, c_2], ht⟩) (fun _ h => nomatch h) dX0_mirrors_32
def x_ti (p : Int32) : Nat → Int32 → Nat
  | 0, _ => 0
  | k + 1, r => if p ≤ 1 then 0 else if r < p then 0 else if r - r / p * p = 0 then x_ti p k (r / p) + 1 else 0
set_option maxHeartbeats 4000000 in
set_option maxRecDepth 100000 in
theorem c_X2_timesIn (l : Launch) (p9 n : Int32) : Met l yX2_timesIn wsX2_timesIn { frames := 0, cells := 0, slots := 0, locals := 0 } (va_Pc [.int p9, .int n] (fun _ => True)) (vp_Si (fun r => r = nI (x_ti p9 3 n))) 0 0 (fun _ => False) := by
  refine Met.ofW (cc := cX2_timesIn) (maxL := 4) (ret := (some .int)) (by decide) rfl ?_
  intro p e s m args below meth c s₁ B hml hv
  obtain ⟨rfl, -⟩ := hv
  have hx := B.exec
  have hb := B.bytes
  have hr := B.returns
  have hts := atoms_spec (ws := wsX2_timesIn) B.pre
  have hg : ∀ w ∈ gw, w.before ([.int p9, .int n] : List Value).toArray s = true := fun w h => hts w (List.mem_cons_of_mem _ h)
  have hown : s.vm.findClass RX2 = some m.cls := findClass_of_methodNamed B.named
  have hlocks := B.notSynchronized
  have hl := lv_entry ([.int p9, .int n]) (n := 4) (Nat.le_of_ble_eq_true rfl)
  rw [lg_entry_eq]
  generalize (lg_sl ([.int p9, .int n]) ++ List.replicate (4 - (lg_sl ([.int p9, .int n])).length) Slot.unset).toArray = ls at hl ⊢
  have hl : lv_has ls 4 [(0, .int p9), (1, .int n)] := hl
  refine lv_iload_n hx hb dX2_timesIn_0 rfl (lv_at hl 1 rfl) ?_
  refine lv_istore_n (lv' := [(2, .int n), (0, .int p9), (1, .int n)]) hx hb dX2_timesIn_1 rfl hl (by decide) rfl (fun ls hl => ?_)
  refine lv_iconst (v := 0) hx hb dX2_timesIn_2 (by decide) ?_
  refine lv_istore_n (lv' := [(3, .int 0), (2, .int n), (0, .int p9), (1, .int n)]) hx hb dX2_timesIn_3 rfl hl (by decide) rfl (fun ls hl => ?_)
  have L4 : ∀ (n9 : Nat) (i : Nat) (r : Int32), (i ≤ 3) → (i + x_ti p9 (3 - i) r = x_ti p9 3 n) → (3 - i < n9) → ∀ (ls : Array Slot), lv_has ls 4 [(3, .int (nI i)), (2, .int r), (0, .int p9), (1, .int n)] → W p l e (headSpec wsX2_timesIn { frames := 0, cells := 0, slots := 0, locals := 0 }).room s m ([.int p9, .int n] : List Value).toArray below meth c s.heap [] 0 0 (MQ below (vp_Si (fun r => r = nI (x_ti p9 3 n))) ([.int p9, .int n] : List Value).toArray s 0 0 (fun _ => False)) (F0 m 4 ls []) := by
    intro n9
    induction n9 with
    | zero => intro i r hi hk h9; exact absurd h9 (by omega)
    | succ n9 ih =>
      intro i r hi hk h9 ls hl
      refine lv_iload_n hx hb dX2_timesIn_4 rfl (lv_at hl 0 rfl) ?_
      refine lv_iconst (v := 3) hx hb dX2_timesIn_5 (by decide) ?_
      refine lv_icmp_ge (tgt := 35) hx hb dX2_timesIn_6 (by decide) (fun c_1 => ?_) (fun c_1 => ?_)
      · replace c_1 : 3 ≤ i := (nI_leI (a := 3) (b := i) (by omega) (by omega)).mp c_1
        refine lv_iload_n hx hb dX2_timesIn_35 rfl (lv_at hl 0 rfl) ?_
        exact W.iret (v := nI i) hx hb hr (fun t ht hW => ⟨(nI i), rfl, by rw [← hk, show 3 - i = 0 by omega]; rfl, ht⟩) (fun _ h => nomatch h) dX2_timesIn_36
      · replace c_1 : ¬ 3 ≤ i := fun h => c_1 ((nI_leI (a := 3) (b := i) (by omega) (by omega)).mpr h)
        refine lv_iload_n hx hb dX2_timesIn_9 rfl (lv_at hl 2 rfl) ?_
        refine lv_iconst (v := 1) hx hb dX2_timesIn_10 (by decide) ?_
        refine lv_icmp_le (tgt := 35) hx hb dX2_timesIn_11 (by decide) (fun c_2 => ?_) (fun c_2 => ?_)
        · refine lv_iload_n hx hb dX2_timesIn_35 rfl (lv_at hl 0 rfl) ?_
          exact W.iret (v := nI i) hx hb hr (fun t ht hW => ⟨(nI i), rfl, by rw [← hk]; obtain ⟨j, hj⟩ : ∃ j, 3 - i = j + 1 := ⟨2 - i, by omega⟩; rw [hj]; simp [x_ti, c_2], ht⟩) (fun _ h => nomatch h) dX2_timesIn_36
        · refine lv_iload_n hx hb dX2_timesIn_14 rfl (lv_at hl 1 rfl) ?_
          refine lv_iload_n hx hb dX2_timesIn_15 rfl (lv_at hl 2 rfl) ?_
          refine lv_icmp_lt (tgt := 35) hx hb dX2_timesIn_16 (by decide) (fun c_3 => ?_) (fun c_3 => ?_)
          · refine lv_iload_n hx hb dX2_timesIn_35 rfl (lv_at hl 0 rfl) ?_
            exact W.iret (v := nI i) hx hb hr (fun t ht hW => ⟨(nI i), rfl, by rw [← hk]; obtain ⟨j, hj⟩ : ∃ j, 3 - i = j + 1 := ⟨2 - i, by omega⟩; rw [hj]; simp [x_ti, c_2, c_3], ht⟩) (fun _ h => nomatch h) dX2_timesIn_36
          · refine lv_iload_n hx hb dX2_timesIn_19 rfl (lv_at hl 1 rfl) ?_
            refine lv_iload_n hx hb dX2_timesIn_20 rfl (lv_at hl 2 rfl) ?_
            refine lv_irem hx hb dX2_timesIn_21 (fun h => absurd (show p9 ≤ 1 by rw [h]; decide) (by assumption)) ?_
            refine lv_if_ne (tgt := 35) hx hb dX2_timesIn_22 (by decide) (fun c_4 => ?_) (fun c_4 => ?_)
            · refine lv_iload_n hx hb dX2_timesIn_35 rfl (lv_at hl 0 rfl) ?_
              exact W.iret (v := nI i) hx hb hr (fun t ht hW => ⟨(nI i), rfl, by rw [← hk]; obtain ⟨j, hj⟩ : ∃ j, 3 - i = j + 1 := ⟨2 - i, by omega⟩; rw [hj]; simp [x_ti, c_2, c_3, c_4], ht⟩) (fun _ h => nomatch h) dX2_timesIn_36
            · refine lv_iload_n hx hb dX2_timesIn_25 rfl (lv_at hl 1 rfl) ?_
              refine lv_iload_n hx hb dX2_timesIn_26 rfl (lv_at hl 2 rfl) ?_
              refine lv_idiv hx hb dX2_timesIn_27 (fun h => absurd (show p9 ≤ 1 by rw [h]; decide) (by assumption)) ?_
              refine lv_topi (fun v_5 ev_5 => ?_)
              refine lv_istore_n (lv' := [(2, .int v_5), (3, .int (nI i)), (0, .int p9), (1, .int n)]) hx hb dX2_timesIn_28 rfl hl (by decide) rfl (fun ls hl => ?_)
              refine lv_iinc (v := nI (i + 1)) (lv' := [(3, .int (nI (i + 1))), (2, .int v_5), (0, .int p9), (1, .int n)]) hx hb dX2_timesIn_29 hl (k := 1) rfl (nI_1 i) (by decide) rfl (fun ls hl => ?_)
              refine lv_goto (tgt := 4) hx hb dX2_timesIn_32 (by decide) ?_
              exact ih (i + 1) v_5 (by omega) (by rw [← hk]; obtain ⟨j, hj⟩ : ∃ j, 3 - i = j + 1 := ⟨2 - i, by omega⟩; rw [hj, show 3 - (i + 1) = j by omega, x_ti, if_neg c_2, if_neg c_3, if_pos c_4, ev_5]; omega)  (by omega) ls (lv_sub hl [0, 1, 2, 3] rfl)
  exact L4 (3 + 1) 0 n (Nat.zero_le _) (Nat.zero_add _)  (Nat.lt_succ_self _) ls (lv_sub hl [0, 1, 2, 3] rfl)
theorem gs_n (v : Int32) : -1 * v = -v := (Int32.neg_eq_neg_one_mul v).symm
/-- is there: no pole from a to b, no endless tail -/
def m_there (g : Nat → Int32) (a b : Int32) : Bool := !(p_pole g && (decide (a = -9) || !decide (g 7 < a)) && (decide (b = 9) || !decide (b < g 7))) && (!(decide (a = -9) || decide (b = 9)) || !p_tail g)
/-- the reference's count: the places ahead whose double is under h -/
def m_cnt (pl : Nat → Int32) (x : Int32) (cu : Nat) : Nat → Nat → Nat
  | 0, k => k
  | n + 1, k => if k < cu ∧ 2 * pl k < x then m_cnt pl x cu n (k + 1) else k
set_option maxHeartbeats 4000000 in
set_option maxRecDepth 100000 in
theorem c_X3_thrown (l : Launch) (D : va_G) (cI cL cQ : ClassId) (h : Nat) (fs : List Value) (v : Int32) (hf0 : fs[0]? = some (.int v)) : Met l yX3_thrown wsX3_thrown { frames := 0, cells := 0, slots := 0, locals := 0 } (va_Pc [.ref h] (pu_B D (ty3 cI cL cQ) [(h, .inr (3, fs))])) (vp_Si (fun r => r = v)) 0 0 (fun _ => False) := by
  refine Met.ofW (cc := cX3_thrown) (maxL := 1) (ret := (some .int)) (by decide) rfl ?_
  intro p e s m args below meth c s₁ B hml hv
  obtain ⟨rfl, hK, hP⟩ := hv
  have hx := B.exec
  have hb := B.bytes
  have hr := B.returns
  have hts := atoms_spec (ws := wsX3_thrown) B.pre
  have hg : ∀ w ∈ gw, w.before ([.ref h] : List Value).toArray s = true := fun w h => hts w (List.mem_cons_of_mem _ h)
  have hown : s.vm.findClass RX3 = some m.cls := findClass_of_methodNamed B.named
  have hlocks := B.notSynchronized
  have hl := lv_entry ([.ref h]) (n := 1) (Nat.le_of_ble_eq_true rfl)
  rw [lg_entry_eq]
  generalize (lg_sl ([.ref h]) ++ List.replicate (1 - (lg_sl ([.ref h])).length) Slot.unset).toArray = ls at hl ⊢
  have hl : lv_has ls 1 [(0, .ref h)] := hl
  refine lv_aload_n hx hb dX3_thrown_0 rfl (lv_at hl 0 rfl) ?_
  refine va_get (D := D) (ci := 3) (v := .int v) (C := RX3) (T := TX3) (N := 13) hx hb hg inX3 hown hK hP 0 rfl rfl 0 (by decide) (hg _ fl_X3_28) (fun _ h9 => h9) hf0 dX3_thrown_1 ?_
  exact W.iret (v := v) hx hb hr (fun t ht hW => ⟨v, rfl, rfl, ht⟩) (fun _ h => nomatch h) dX3_thrown_4
set_option maxHeartbeats 4000000 in
set_option maxRecDepth 100000 in
theorem c_X3_turned (l : Launch) (D : va_G) (cI cL cQ : ClassId) (h a : Nat) (f : Nat → Int32) (p9 k : Nat) (hk : k < 8) (hp : p9 < 4) : Met l yX3_turned wsX3_turned { frames := 0, cells := 0, slots := 0, locals := 0 } (va_Pc [.ref h, .ref a, .int (nI p9), .int (nI k)] (pu_B D (ty3 cI cL cQ) [(a, .inl (cI, 32, .inl f))])) (vp_Si (fun r => r = gl_sign k * f (8 * p9 + k))) 0 0 (fun _ => False) := by
  refine Met.ofW (cc := cX3_turned) (maxL := 5) (ret := (some .int)) (by decide) rfl ?_
  intro p e s m args below meth c s₁ B hml hv
  obtain ⟨rfl, hK, hP⟩ := hv
  have hx := B.exec
  have hb := B.bytes
  have hr := B.returns
  have hts := atoms_spec (ws := wsX3_turned) B.pre
  have hg : ∀ w ∈ gw, w.before ([.ref h, .ref a, .int (nI p9), .int (nI k)] : List Value).toArray s = true := fun w h => hts w (List.mem_cons_of_mem _ h)
  have hown : s.vm.findClass RX3 = some m.cls := findClass_of_methodNamed B.named
  have hlocks := B.notSynchronized
  have hl := lv_entry ([.ref h, .ref a, .int (nI p9), .int (nI k)]) (n := 5) (Nat.le_of_ble_eq_true rfl)
  rw [lg_entry_eq]
  generalize (lg_sl ([.ref h, .ref a, .int (nI p9), .int (nI k)]) ++ List.replicate (5 - (lg_sl ([.ref h, .ref a, .int (nI p9), .int (nI k)])).length) Slot.unset).toArray = ls at hl ⊢
  have hl : lv_has ls 5 [(0, .ref h), (1, .ref a), (2, .int (nI p9)), (3, .int (nI k))] := hl
  refine lv_aload_n hx hb dX3_turned_0 rfl (lv_at hl 1 rfl) ?_
  refine lv_bipush (v := 8) hx hb dX3_turned_1 (by decide) ?_
  refine lv_iload_n hx hb dX3_turned_3 rfl (lv_at hl 2 rfl) ?_
  refine lv_imul hx hb dX3_turned_4 ?_
  rw [show (8 : Int32) * nI p9 = nI (8 * p9) from pk_mul 8 p9]
  refine lv_iload_n hx hb dX3_turned_5 rfl (lv_at hl 3 rfl) ?_
  refine lv_iadd hx hb dX3_turned_6 ?_
  rw [show (nI (8 * p9)) + nI k = nI ((8 * p9) + k) from nI_add (8 * p9) k]
  refine va_iald (D := D) (n := 32) (f := f) hx hb hK hP 0 0 rfl rfl (vp_in_nI (show ((8 * p9) + k) < 32 by omega) (by decide)) dX3_turned_7 ?_
  rw [nI_clamp (show ((8 * p9) + k) < 2 ^ 31 by omega)]
  refine lv_topi (fun v_1 ev_1 => ?_)
  refine lv_istore (lv' := [(4, .int v_1), (0, .ref h), (1, .ref a), (2, .int (nI p9)), (3, .int (nI k))]) hx hb dX3_turned_8 hl (by decide) rfl (fun ls hl => ?_)
  refine lv_iload_n hx hb dX3_turned_10 rfl (lv_at hl 4 rfl) ?_
  refine lv_iconst (v := 1) hx hb dX3_turned_11 (by decide) ?_
  refine lv_icmp_eq (tgt := 37) hx hb dX3_turned_12 (by decide) (fun c_2 => ?_) (fun c_2 => ?_)
  · replace c_2 : k = 1 := (nI_eq (a := k) (b := 1) (by omega) (by omega)).mp c_2
    refine lv_iload hx hb dX3_turned_37 (lv_at hl 0 rfl) ?_
    refine lv_ineg hx hb dX3_turned_39 ?_
    refine lv_goto (tgt := 45) hx hb dX3_turned_40 (by decide) ?_
    exact W.iret (v := (-v_1)) hx hb hr (fun t ht hW => ⟨(-v_1), rfl, by have hk9 : k = 1 ∨ k = 3 ∨ k = 4 ∨ k = 6 ∨ k = 7 := (by omega); rw [ev_1]; rcases hk9 with rfl | rfl | rfl | rfl | rfl <;> exact (gs_n _).symm, ht⟩) (fun _ h => nomatch h) dX3_turned_45
  · replace c_2 : ¬ k = 1 := fun h => c_2 ((nI_eq (a := k) (b := 1) (by omega) (by omega)).mpr h)
    refine lv_iload_n hx hb dX3_turned_15 rfl (lv_at hl 4 rfl) ?_
    refine lv_iconst (v := 3) hx hb dX3_turned_16 (by decide) ?_
    refine lv_icmp_eq (tgt := 37) hx hb dX3_turned_17 (by decide) (fun c_3 => ?_) (fun c_3 => ?_)
    · replace c_3 : k = 3 := (nI_eq (a := k) (b := 3) (by omega) (by omega)).mp c_3
      refine lv_iload hx hb dX3_turned_37 (lv_at hl 0 rfl) ?_
      refine lv_ineg hx hb dX3_turned_39 ?_
      refine lv_goto (tgt := 45) hx hb dX3_turned_40 (by decide) ?_
      exact W.iret (v := (-v_1)) hx hb hr (fun t ht hW => ⟨(-v_1), rfl, by have hk9 : k = 1 ∨ k = 3 ∨ k = 4 ∨ k = 6 ∨ k = 7 := (by omega); rw [ev_1]; rcases hk9 with rfl | rfl | rfl | rfl | rfl <;> exact (gs_n _).symm, ht⟩) (fun _ h => nomatch h) dX3_turned_45
    · replace c_3 : ¬ k = 3 := fun h => c_3 ((nI_eq (a := k) (b := 3) (by omega) (by omega)).mpr h)
      refine lv_iload_n hx hb dX3_turned_20 rfl (lv_at hl 4 rfl) ?_
      refine lv_iconst (v := 4) hx hb dX3_turned_21 (by decide) ?_
      refine lv_icmp_eq (tgt := 37) hx hb dX3_turned_22 (by decide) (fun c_4 => ?_) (fun c_4 => ?_)
      · replace c_4 : k = 4 := (nI_eq (a := k) (b := 4) (by omega) (by omega)).mp c_4
        refine lv_iload hx hb dX3_turned_37 (lv_at hl 0 rfl) ?_
        refine lv_ineg hx hb dX3_turned_39 ?_
        refine lv_goto (tgt := 45) hx hb dX3_turned_40 (by decide) ?_
        exact W.iret (v := (-v_1)) hx hb hr (fun t ht hW => ⟨(-v_1), rfl, by have hk9 : k = 1 ∨ k = 3 ∨ k = 4 ∨ k = 6 ∨ k = 7 := (by omega); rw [ev_1]; rcases hk9 with rfl | rfl | rfl | rfl | rfl <;> exact (gs_n _).symm, ht⟩) (fun _ h => nomatch h) dX3_turned_45
      · replace c_4 : ¬ k = 4 := fun h => c_4 ((nI_eq (a := k) (b := 4) (by omega) (by omega)).mpr h)
        refine lv_iload_n hx hb dX3_turned_25 rfl (lv_at hl 4 rfl) ?_
        refine lv_bipush (v := 6) hx hb dX3_turned_26 (by decide) ?_
        refine lv_icmp_eq (tgt := 37) hx hb dX3_turned_28 (by decide) (fun c_5 => ?_) (fun c_5 => ?_)
        · replace c_5 : k = 6 := (nI_eq (a := k) (b := 6) (by omega) (by omega)).mp c_5
          refine lv_iload hx hb dX3_turned_37 (lv_at hl 0 rfl) ?_
          refine lv_ineg hx hb dX3_turned_39 ?_
          refine lv_goto (tgt := 45) hx hb dX3_turned_40 (by decide) ?_
          exact W.iret (v := (-v_1)) hx hb hr (fun t ht hW => ⟨(-v_1), rfl, by have hk9 : k = 1 ∨ k = 3 ∨ k = 4 ∨ k = 6 ∨ k = 7 := (by omega); rw [ev_1]; rcases hk9 with rfl | rfl | rfl | rfl | rfl <;> exact (gs_n _).symm, ht⟩) (fun _ h => nomatch h) dX3_turned_45
        · replace c_5 : ¬ k = 6 := fun h => c_5 ((nI_eq (a := k) (b := 6) (by omega) (by omega)).mpr h)
          refine lv_iload_n hx hb dX3_turned_31 rfl (lv_at hl 4 rfl) ?_
          refine lv_bipush (v := 7) hx hb dX3_turned_32 (by decide) ?_
          refine lv_icmp_ne (tgt := 43) hx hb dX3_turned_34 (by decide) (fun c_6 => ?_) (fun c_6 => ?_)
          · replace c_6 : ¬ k = 7 := fun h => c_6 ((nI_eq (a := k) (b := 7) (by omega) (by omega)).mpr h)
            refine lv_iload hx hb dX3_turned_43 (lv_at hl 0 rfl) ?_
            exact W.iret (v := v_1) hx hb hr (fun t ht hW => ⟨v_1, rfl, by have hk9 : k = 0 ∨ k = 2 ∨ k = 5 := (by omega); rw [ev_1]; rcases hk9 with rfl | rfl | rfl <;> exact (Int32.one_mul _).symm, ht⟩) (fun _ h => nomatch h) dX3_turned_45
          · replace c_6 : k = 7 := (nI_eq (a := k) (b := 7) (by omega) (by omega)).mp c_6
            refine lv_iload hx hb dX3_turned_37 (lv_at hl 0 rfl) ?_
            refine lv_ineg hx hb dX3_turned_39 ?_
            refine lv_goto (tgt := 45) hx hb dX3_turned_40 (by decide) ?_
            exact W.iret (v := (-v_1)) hx hb hr (fun t ht hW => ⟨(-v_1), rfl, by have hk9 : k = 1 ∨ k = 3 ∨ k = 4 ∨ k = 6 ∨ k = 7 := (by omega); rw [ev_1]; rcases hk9 with rfl | rfl | rfl | rfl | rfl <;> exact (gs_n _).symm, ht⟩) (fun _ h => nomatch h) dX3_turned_45
set_option maxHeartbeats 4000000 in
set_option maxRecDepth 100000 in
theorem c_X3_hasPole (l : Launch) (D : va_G) (cI cL cQ : ClassId) (h n1 : Nat) (fs : List Value) (hf3 : fs[3]? = some (.ref n1)) (f : Nat → Int32) (p9 : Nat) (hp : p9 < 4) : Met l yX3_hasPole wsX3_hasPole { frames := 0, cells := 0, slots := 0, locals := 0 } (va_Pc [.ref h, .int (nI p9)] (pu_B D (ty3 cI cL cQ) [(h, .inr (3, fs)), (n1, .inl (cI, 32, .inl f))])) (vp_Si (fun r => r = zi (p_pole (fun j => f (8 * p9 + j))))) 0 0 (fun _ => False) := by
  refine Met.ofW (cc := cX3_hasPole) (maxL := 2) (ret := (some .boolean)) (by decide) rfl ?_
  intro p e s m args below meth c s₁ B hml hv
  obtain ⟨rfl, hK, hP⟩ := hv
  have hx := B.exec
  have hb := B.bytes
  have hr := B.returns
  have hts := atoms_spec (ws := wsX3_hasPole) B.pre
  have hg : ∀ w ∈ gw, w.before ([.ref h, .int (nI p9)] : List Value).toArray s = true := fun w h => hts w (List.mem_cons_of_mem _ h)
  have hown : s.vm.findClass RX3 = some m.cls := findClass_of_methodNamed B.named
  have hlocks := B.notSynchronized
  have hl := lv_entry ([.ref h, .int (nI p9)]) (n := 2) (Nat.le_of_ble_eq_true rfl)
  rw [lg_entry_eq]
  generalize (lg_sl ([.ref h, .int (nI p9)]) ++ List.replicate (2 - (lg_sl ([.ref h, .int (nI p9)])).length) Slot.unset).toArray = ls at hl ⊢
  have hl : lv_has ls 2 [(0, .ref h), (1, .int (nI p9))] := hl
  refine lv_aload_n hx hb dX3_hasPole_0 rfl (lv_at hl 0 rfl) ?_
  refine va_get (D := D) (ci := 3) (v := .ref n1) (C := RX3) (T := TX3) (N := 13) hx hb hg inX3 hown hK hP 0 rfl rfl 3 (by decide) (hg _ fl_X3_13) (fun _ h9 => h9) hf3 dX3_hasPole_1 ?_
  refine lv_bipush (v := 8) hx hb dX3_hasPole_4 (by decide) ?_
  refine lv_iload_n hx hb dX3_hasPole_6 rfl (lv_at hl 1 rfl) ?_
  refine lv_imul hx hb dX3_hasPole_7 ?_
  rw [show (8 : Int32) * nI p9 = nI (8 * p9) from pk_mul 8 p9]
  refine lv_iconst (v := 4) hx hb dX3_hasPole_8 (by decide) ?_
  refine lv_iadd hx hb dX3_hasPole_9 ?_
  rw [show (nI (8 * p9)) + (4 : Int32) = nI ((8 * p9) + 4) from nI_add (8 * p9) 4]
  refine va_iald (D := D) (n := 32) (f := f) hx hb hK hP 1 0 rfl rfl (vp_in_nI (show ((8 * p9) + 4) < 32 by omega) (by decide)) dX3_hasPole_10 ?_
  rw [nI_clamp (show ((8 * p9) + 4) < 2 ^ 31 by omega)]
  refine lv_if_ne (tgt := 43) hx hb dX3_hasPole_11 (by decide) (fun c_1 => ?_) (fun c_1 => ?_)
  · refine lv_iconst (v := 1) hx hb dX3_hasPole_43 (by decide) ?_
    refine lv_goto (tgt := 48) hx hb dX3_hasPole_44 (by decide) ?_
    exact W.zret (v := 1) hx hb hr rfl (fun t ht hW => ⟨1, rfl, by simp [zi, p_pole, c_1], ht⟩) (fun _ h => nomatch h) dX3_hasPole_48
  · refine lv_aload_n hx hb dX3_hasPole_14 rfl (lv_at hl 0 rfl) ?_
    refine va_get (D := D) (ci := 3) (v := .ref n1) (C := RX3) (T := TX3) (N := 13) hx hb hg inX3 hown hK hP 0 rfl rfl 3 (by decide) (hg _ fl_X3_13) (fun _ h9 => h9) hf3 dX3_hasPole_15 ?_
    refine lv_bipush (v := 8) hx hb dX3_hasPole_18 (by decide) ?_
    refine lv_iload_n hx hb dX3_hasPole_20 rfl (lv_at hl 1 rfl) ?_
    refine lv_imul hx hb dX3_hasPole_21 ?_
    rw [show (8 : Int32) * nI p9 = nI (8 * p9) from pk_mul 8 p9]
    refine lv_iconst (v := 5) hx hb dX3_hasPole_22 (by decide) ?_
    refine lv_iadd hx hb dX3_hasPole_23 ?_
    rw [show (nI (8 * p9)) + (5 : Int32) = nI ((8 * p9) + 5) from nI_add (8 * p9) 5]
    refine va_iald (D := D) (n := 32) (f := f) hx hb hK hP 1 0 rfl rfl (vp_in_nI (show ((8 * p9) + 5) < 32 by omega) (by decide)) dX3_hasPole_24 ?_
    rw [nI_clamp (show ((8 * p9) + 5) < 2 ^ 31 by omega)]
    refine lv_if_ne (tgt := 43) hx hb dX3_hasPole_25 (by decide) (fun c_2 => ?_) (fun c_2 => ?_)
    · refine lv_iconst (v := 1) hx hb dX3_hasPole_43 (by decide) ?_
      refine lv_goto (tgt := 48) hx hb dX3_hasPole_44 (by decide) ?_
      exact W.zret (v := 1) hx hb hr rfl (fun t ht hW => ⟨1, rfl, by simp [zi, p_pole, c_1, c_2], ht⟩) (fun _ h => nomatch h) dX3_hasPole_48
    · refine lv_aload_n hx hb dX3_hasPole_28 rfl (lv_at hl 0 rfl) ?_
      refine va_get (D := D) (ci := 3) (v := .ref n1) (C := RX3) (T := TX3) (N := 13) hx hb hg inX3 hown hK hP 0 rfl rfl 3 (by decide) (hg _ fl_X3_13) (fun _ h9 => h9) hf3 dX3_hasPole_29 ?_
      refine lv_bipush (v := 8) hx hb dX3_hasPole_32 (by decide) ?_
      refine lv_iload_n hx hb dX3_hasPole_34 rfl (lv_at hl 1 rfl) ?_
      refine lv_imul hx hb dX3_hasPole_35 ?_
      rw [show (8 : Int32) * nI p9 = nI (8 * p9) from pk_mul 8 p9]
      refine lv_bipush (v := 6) hx hb dX3_hasPole_36 (by decide) ?_
      refine lv_iadd hx hb dX3_hasPole_38 ?_
      rw [show (nI (8 * p9)) + (6 : Int32) = nI ((8 * p9) + 6) from nI_add (8 * p9) 6]
      refine va_iald (D := D) (n := 32) (f := f) hx hb hK hP 1 0 rfl rfl (vp_in_nI (show ((8 * p9) + 6) < 32 by omega) (by decide)) dX3_hasPole_39 ?_
      rw [nI_clamp (show ((8 * p9) + 6) < 2 ^ 31 by omega)]
      refine lv_if_eq (tgt := 47) hx hb dX3_hasPole_40 (by decide) (fun c_3 => ?_) (fun c_3 => ?_)
      · refine lv_iconst (v := 0) hx hb dX3_hasPole_47 (by decide) ?_
        exact W.zret (v := 0) hx hb hr rfl (fun t ht hW => ⟨0, rfl, by simp [zi, p_pole, c_1, c_2, c_3], ht⟩) (fun _ h => nomatch h) dX3_hasPole_48
      · refine lv_iconst (v := 1) hx hb dX3_hasPole_43 (by decide) ?_
        refine lv_goto (tgt := 48) hx hb dX3_hasPole_44 (by decide) ?_
        exact W.zret (v := 1) hx hb hr rfl (fun t ht hW => ⟨1, rfl, by simp [zi, p_pole, c_1, c_2, c_3], ht⟩) (fun _ h => nomatch h) dX3_hasPole_48
set_option maxHeartbeats 4000000 in
set_option maxRecDepth 100000 in
theorem c_X3_isTurned (l : Launch) (D : va_G) (cI cL cQ : ClassId) (h n1 : Nat) (fs : List Value) (hf3 : fs[3]? = some (.ref n1)) (f : Nat → Int32) (p9 q9 : Nat) (hp : p9 < 4) (hq : q9 < 4) (z : Int32) : Met l yX3_isTurned wsX3_isTurned { frames := 1, cells := 0, slots := 0, locals := 24 } (va_Pc [.ref h, .int (nI p9), .int (nI q9), .int z] (pu_B D (ty3 cI cL cQ) [(h, .inr (3, fs)), (n1, .inl (cI, 32, .inl f))])) (vp_Si (fun r => r = zi (p_mir (fun j => f (8 * p9 + j)) (fun j => f (8 * q9 + j)) z))) 0 0 (fun _ => False) := by
  refine Met.ofW (cc := cX3_isTurned) (maxL := 5) (ret := (some .boolean)) (by decide) rfl ?_
  intro p e s m args below meth c s₁ B hml hv
  obtain ⟨rfl, hK, hP⟩ := hv
  have hx := B.exec
  have hb := B.bytes
  have hr := B.returns
  have hts := atoms_spec (ws := wsX3_isTurned) B.pre
  have hg : ∀ w ∈ gw, w.before ([.ref h, .int (nI p9), .int (nI q9), .int z] : List Value).toArray s = true := fun w h => hts w (List.mem_cons_of_mem _ h)
  have hown : s.vm.findClass RX3 = some m.cls := findClass_of_methodNamed B.named
  have hlocks := B.notSynchronized
  have hl := lv_entry ([.ref h, .int (nI p9), .int (nI q9), .int z]) (n := 5) (Nat.le_of_ble_eq_true rfl)
  rw [lg_entry_eq]
  generalize (lg_sl ([.ref h, .int (nI p9), .int (nI q9), .int z]) ++ List.replicate (5 - (lg_sl ([.ref h, .int (nI p9), .int (nI q9), .int z])).length) Slot.unset).toArray = ls at hl ⊢
  have hl : lv_has ls 5 [(0, .ref h), (1, .int (nI p9)), (2, .int (nI q9)), (3, .int z)] := hl
  refine lv_iconst (v := 0) hx hb dX3_isTurned_0 (by decide) ?_
  refine lv_istore (lv' := [(4, .int 0), (0, .ref h), (1, .int (nI p9)), (2, .int (nI q9)), (3, .int z)]) hx hb dX3_isTurned_1 hl (by decide) rfl (fun ls hl => ?_)
  refine lv_iload hx hb dX3_isTurned_3 (lv_at hl 0 rfl) ?_
  refine lv_bipush (v := 7) hx hb dX3_isTurned_5 (by decide) ?_
  refine lv_icmp_ge (tgt := 46) hx hb dX3_isTurned_7 (by decide) (fun c_1 => absurd c_1 (by decide)) (fun _ => ?_)
  refine lv_aload_n hx hb dX3_isTurned_10 rfl (lv_at hl 1 rfl) ?_
  refine va_get (D := D) (ci := 3) (v := .ref n1) (C := RX3) (T := TX3) (N := 13) hx hb hg inX3 hown hK hP 0 rfl rfl 3 (by decide) (hg _ fl_X3_13) (fun _ h9 => h9) hf3 dX3_isTurned_11 ?_
  refine lv_bipush (v := 8) hx hb dX3_isTurned_14 (by decide) ?_
  refine lv_iload_n hx hb dX3_isTurned_16 rfl (lv_at hl 2 rfl) ?_
  refine lv_imul hx hb dX3_isTurned_17 ?_
  rw [show (8 : Int32) * nI p9 = nI (8 * p9) from pk_mul 8 p9]
  refine lv_iload hx hb dX3_isTurned_18 (lv_at hl 0 rfl) ?_
  refine lv_iadd hx hb dX3_isTurned_20 ?_
  rw [show (nI (8 * p9)) + (0 : Int32) = nI ((8 * p9) + 0) from nI_add (8 * p9) 0]
  refine va_iald (D := D) (n := 32) (f := f) hx hb hK hP 1 0 rfl rfl (vp_in_nI (show ((8 * p9) + 0) < 32 by omega) (by decide)) dX3_isTurned_21 ?_
  rw [nI_clamp (show ((8 * p9) + 0) < 2 ^ 31 by omega)]
  refine lv_iload_n hx hb dX3_isTurned_22 rfl (lv_at hl 4 rfl) ?_
  refine lv_aload_n hx hb dX3_isTurned_23 rfl (lv_at hl 1 rfl) ?_
  refine lv_aload_n hx hb dX3_isTurned_24 rfl (lv_at hl 1 rfl) ?_
  refine va_get (D := D) (ci := 3) (v := .ref n1) (C := RX3) (T := TX3) (N := 13) hx hb hg inX3 hown hK hP 0 rfl rfl 3 (by decide) (hg _ fl_X3_13) (fun _ h9 => h9) hf3 dX3_isTurned_25 ?_
  refine lv_iload_n hx hb dX3_isTurned_28 rfl (lv_at hl 3 rfl) ?_
  refine lv_iload hx hb dX3_isTurned_29 (lv_at hl 0 rfl) ?_
  refine vp_callSi (W.runV (As := [.ref n1, .int (nI q9), .int 0]) (rest := [.int z, .int (f ((8 * p9) + 0))]) ⟨hx, hb, hml, hown, hg⟩ (c_X3_turned l D cI cL cQ h n1 f q9 0 (by decide) (by omega)) (cwV 3 hg (gw_V ml_X3_39 im_X3_turned se_X3_turned ini_X3 co_X3_turned) rfl rfl rfl (by decide +kernel) ⟨Nat.le_of_ble_eq_true rfl, Nat.le_of_ble_eq_true rfl⟩) ⟨pu_B.blind, va_recv hK hP (ci := 3) (q0 := 0) rfl rfl, (fun U hU hW => ⟨rfl, pu_B.at hK (hP.sub [1] rfl) hU hW⟩)⟩ rfl rfl hl.1 rfl (lv_room (Nat.le_of_ble_eq_true rfl)) dX3_isTurned_31 ⟨Nat.le_of_ble_eq_true rfl, Nat.le_of_ble_eq_true rfl⟩) (fun r_2 hr_2 => ?_)
  subst hr_2
  refine lv_imul hx hb dX3_isTurned_34 ?_
  refine lv_icmp_eq (tgt := 40) hx hb dX3_isTurned_35 (by decide) (fun c_3 => ?_) (fun c_3 => ?_)
  · refine lv_iinc (v := 1) (lv' := [(4, .int 1), (0, .ref h), (1, .int (nI p9)), (2, .int (nI q9)), (3, .int z)]) hx hb dX3_isTurned_40 hl (k := 0) rfl (by decide) (by decide) rfl (fun ls hl => ?_)
    refine lv_goto (tgt := 3) hx hb dX3_isTurned_43 (by decide) ?_
    refine lv_iload hx hb dX3_isTurned_3 (lv_at hl 0 rfl) ?_
    refine lv_bipush (v := 7) hx hb dX3_isTurned_5 (by decide) ?_
    refine lv_icmp_ge (tgt := 46) hx hb dX3_isTurned_7 (by decide) (fun c_4 => absurd c_4 (by decide)) (fun _ => ?_)
    refine lv_aload_n hx hb dX3_isTurned_10 rfl (lv_at hl 1 rfl) ?_
    refine va_get (D := D) (ci := 3) (v := .ref n1) (C := RX3) (T := TX3) (N := 13) hx hb hg inX3 hown hK hP 0 rfl rfl 3 (by decide) (hg _ fl_X3_13) (fun _ h9 => h9) hf3 dX3_isTurned_11 ?_
    refine lv_bipush (v := 8) hx hb dX3_isTurned_14 (by decide) ?_
    refine lv_iload_n hx hb dX3_isTurned_16 rfl (lv_at hl 2 rfl) ?_
    refine lv_imul hx hb dX3_isTurned_17 ?_
    rw [show (8 : Int32) * nI p9 = nI (8 * p9) from pk_mul 8 p9]
    refine lv_iload hx hb dX3_isTurned_18 (lv_at hl 0 rfl) ?_
    refine lv_iadd hx hb dX3_isTurned_20 ?_
    rw [show (nI (8 * p9)) + (1 : Int32) = nI ((8 * p9) + 1) from nI_add (8 * p9) 1]
    refine va_iald (D := D) (n := 32) (f := f) hx hb hK hP 1 0 rfl rfl (vp_in_nI (show ((8 * p9) + 1) < 32 by omega) (by decide)) dX3_isTurned_21 ?_
    rw [nI_clamp (show ((8 * p9) + 1) < 2 ^ 31 by omega)]
    refine lv_iload_n hx hb dX3_isTurned_22 rfl (lv_at hl 4 rfl) ?_
    refine lv_aload_n hx hb dX3_isTurned_23 rfl (lv_at hl 1 rfl) ?_
    refine lv_aload_n hx hb dX3_isTurned_24 rfl (lv_at hl 1 rfl) ?_
    refine va_get (D := D) (ci := 3) (v := .ref n1) (C := RX3) (T := TX3) (N := 13) hx hb hg inX3 hown hK hP 0 rfl rfl 3 (by decide) (hg _ fl_X3_13) (fun _ h9 => h9) hf3 dX3_isTurned_25 ?_
    refine lv_iload_n hx hb dX3_isTurned_28 rfl (lv_at hl 3 rfl) ?_
    refine lv_iload hx hb dX3_isTurned_29 (lv_at hl 0 rfl) ?_
    refine vp_callSi (W.runV (As := [.ref n1, .int (nI q9), .int 1]) (rest := [.int z, .int (f ((8 * p9) + 1))]) ⟨hx, hb, hml, hown, hg⟩ (c_X3_turned l D cI cL cQ h n1 f q9 1 (by decide) (by omega)) (cwV 3 hg (gw_V ml_X3_39 im_X3_turned se_X3_turned ini_X3 co_X3_turned) rfl rfl rfl (by decide +kernel) ⟨Nat.le_of_ble_eq_true rfl, Nat.le_of_ble_eq_true rfl⟩) ⟨pu_B.blind, va_recv hK hP (ci := 3) (q0 := 0) rfl rfl, (fun U hU hW => ⟨rfl, pu_B.at hK (hP.sub [1] rfl) hU hW⟩)⟩ rfl rfl hl.1 rfl (lv_room (Nat.le_of_ble_eq_true rfl)) dX3_isTurned_31 ⟨Nat.le_of_ble_eq_true rfl, Nat.le_of_ble_eq_true rfl⟩) (fun r_5 hr_5 => ?_)
    subst hr_5
    refine lv_imul hx hb dX3_isTurned_34 ?_
    refine lv_icmp_eq (tgt := 40) hx hb dX3_isTurned_35 (by decide) (fun c_6 => ?_) (fun c_6 => ?_)
    · refine lv_iinc (v := 2) (lv' := [(4, .int 2), (0, .ref h), (1, .int (nI p9)), (2, .int (nI q9)), (3, .int z)]) hx hb dX3_isTurned_40 hl (k := 0) rfl (by decide) (by decide) rfl (fun ls hl => ?_)
      refine lv_goto (tgt := 3) hx hb dX3_isTurned_43 (by decide) ?_
      refine lv_iload hx hb dX3_isTurned_3 (lv_at hl 0 rfl) ?_
      refine lv_bipush (v := 7) hx hb dX3_isTurned_5 (by decide) ?_
      refine lv_icmp_ge (tgt := 46) hx hb dX3_isTurned_7 (by decide) (fun c_7 => absurd c_7 (by decide)) (fun _ => ?_)
      refine lv_aload_n hx hb dX3_isTurned_10 rfl (lv_at hl 1 rfl) ?_
      refine va_get (D := D) (ci := 3) (v := .ref n1) (C := RX3) (T := TX3) (N := 13) hx hb hg inX3 hown hK hP 0 rfl rfl 3 (by decide) (hg _ fl_X3_13) (fun _ h9 => h9) hf3 dX3_isTurned_11 ?_
      refine lv_bipush (v := 8) hx hb dX3_isTurned_14 (by decide) ?_
      refine lv_iload_n hx hb dX3_isTurned_16 rfl (lv_at hl 2 rfl) ?_
      refine lv_imul hx hb dX3_isTurned_17 ?_
      rw [show (8 : Int32) * nI p9 = nI (8 * p9) from pk_mul 8 p9]
      refine lv_iload hx hb dX3_isTurned_18 (lv_at hl 0 rfl) ?_
      refine lv_iadd hx hb dX3_isTurned_20 ?_
      rw [show (nI (8 * p9)) + (2 : Int32) = nI ((8 * p9) + 2) from nI_add (8 * p9) 2]
      refine va_iald (D := D) (n := 32) (f := f) hx hb hK hP 1 0 rfl rfl (vp_in_nI (show ((8 * p9) + 2) < 32 by omega) (by decide)) dX3_isTurned_21 ?_
      rw [nI_clamp (show ((8 * p9) + 2) < 2 ^ 31 by omega)]
      refine lv_iload_n hx hb dX3_isTurned_22 rfl (lv_at hl 4 rfl) ?_
      refine lv_aload_n hx hb dX3_isTurned_23 rfl (lv_at hl 1 rfl) ?_
      refine lv_aload_n hx hb dX3_isTurned_24 rfl (lv_at hl 1 rfl) ?_
      refine va_get (D := D) (ci := 3) (v := .ref n1) (C := RX3) (T := TX3) (N := 13) hx hb hg inX3 hown hK hP 0 rfl rfl 3 (by decide) (hg _ fl_X3_13) (fun _ h9 => h9) hf3 dX3_isTurned_25 ?_
      refine lv_iload_n hx hb dX3_isTurned_28 rfl (lv_at hl 3 rfl) ?_
      refine lv_iload hx hb dX3_isTurned_29 (lv_at hl 0 rfl) ?_
      refine vp_callSi (W.runV (As := [.ref n1, .int (nI q9), .int 2]) (rest := [.int z, .int (f ((8 * p9) + 2))]) ⟨hx, hb, hml, hown, hg⟩ (c_X3_turned l D cI cL cQ h n1 f q9 2 (by decide) (by omega)) (cwV 3 hg (gw_V ml_X3_39 im_X3_turned se_X3_turned ini_X3 co_X3_turned) rfl rfl rfl (by decide +kernel) ⟨Nat.le_of_ble_eq_true rfl, Nat.le_of_ble_eq_true rfl⟩) ⟨pu_B.blind, va_recv hK hP (ci := 3) (q0 := 0) rfl rfl, (fun U hU hW => ⟨rfl, pu_B.at hK (hP.sub [1] rfl) hU hW⟩)⟩ rfl rfl hl.1 rfl (lv_room (Nat.le_of_ble_eq_true rfl)) dX3_isTurned_31 ⟨Nat.le_of_ble_eq_true rfl, Nat.le_of_ble_eq_true rfl⟩) (fun r_8 hr_8 => ?_)
      subst hr_8
      refine lv_imul hx hb dX3_isTurned_34 ?_
      refine lv_icmp_eq (tgt := 40) hx hb dX3_isTurned_35 (by decide) (fun c_9 => ?_) (fun c_9 => ?_)
      · refine lv_iinc (v := 3) (lv' := [(4, .int 3), (0, .ref h), (1, .int (nI p9)), (2, .int (nI q9)), (3, .int z)]) hx hb dX3_isTurned_40 hl (k := 0) rfl (by decide) (by decide) rfl (fun ls hl => ?_)
        refine lv_goto (tgt := 3) hx hb dX3_isTurned_43 (by decide) ?_
        refine lv_iload hx hb dX3_isTurned_3 (lv_at hl 0 rfl) ?_
        refine lv_bipush (v := 7) hx hb dX3_isTurned_5 (by decide) ?_
        refine lv_icmp_ge (tgt := 46) hx hb dX3_isTurned_7 (by decide) (fun c_10 => absurd c_10 (by decide)) (fun _ => ?_)
        refine lv_aload_n hx hb dX3_isTurned_10 rfl (lv_at hl 1 rfl) ?_
        refine va_get (D := D) (ci := 3) (v := .ref n1) (C := RX3) (T := TX3) (N := 13) hx hb hg inX3 hown hK hP 0 rfl rfl 3 (by decide) (hg _ fl_X3_13) (fun _ h9 => h9) hf3 dX3_isTurned_11 ?_
        refine lv_bipush (v := 8) hx hb dX3_isTurned_14 (by decide) ?_
        refine lv_iload_n hx hb dX3_isTurned_16 rfl (lv_at hl 2 rfl) ?_
        refine lv_imul hx hb dX3_isTurned_17 ?_
        rw [show (8 : Int32) * nI p9 = nI (8 * p9) from pk_mul 8 p9]
        refine lv_iload hx hb dX3_isTurned_18 (lv_at hl 0 rfl) ?_
        refine lv_iadd hx hb dX3_isTurned_20 ?_
        rw [show (nI (8 * p9)) + (3 : Int32) = nI ((8 * p9) + 3) from nI_add (8 * p9) 3]
        refine va_iald (D := D) (n := 32) (f := f) hx hb hK hP 1 0 rfl rfl (vp_in_nI (show ((8 * p9) + 3) < 32 by omega) (by decide)) dX3_isTurned_21 ?_
        rw [nI_clamp (show ((8 * p9) + 3) < 2 ^ 31 by omega)]
        refine lv_iload_n hx hb dX3_isTurned_22 rfl (lv_at hl 4 rfl) ?_
        refine lv_aload_n hx hb dX3_isTurned_23 rfl (lv_at hl 1 rfl) ?_
        refine lv_aload_n hx hb dX3_isTurned_24 rfl (lv_at hl 1 rfl) ?_
        refine va_get (D := D) (ci := 3) (v := .ref n1) (C := RX3) (T := TX3) (N := 13) hx hb hg inX3 hown hK hP 0 rfl rfl 3 (by decide) (hg _ fl_X3_13) (fun _ h9 => h9) hf3 dX3_isTurned_25 ?_
        refine lv_iload_n hx hb dX3_isTurned_28 rfl (lv_at hl 3 rfl) ?_
        refine lv_iload hx hb dX3_isTurned_29 (lv_at hl 0 rfl) ?_
        refine vp_callSi (W.runV (As := [.ref n1, .int (nI q9), .int 3]) (rest := [.int z, .int (f ((8 * p9) + 3))]) ⟨hx, hb, hml, hown, hg⟩ (c_X3_turned l D cI cL cQ h n1 f q9 3 (by decide) (by omega)) (cwV 3 hg (gw_V ml_X3_39 im_X3_turned se_X3_turned ini_X3 co_X3_turned) rfl rfl rfl (by decide +kernel) ⟨Nat.le_of_ble_eq_true rfl, Nat.le_of_ble_eq_true rfl⟩) ⟨pu_B.blind, va_recv hK hP (ci := 3) (q0 := 0) rfl rfl, (fun U hU hW => ⟨rfl, pu_B.at hK (hP.sub [1] rfl) hU hW⟩)⟩ rfl rfl hl.1 rfl (lv_room (Nat.le_of_ble_eq_true rfl)) dX3_isTurned_31 ⟨Nat.le_of_ble_eq_true rfl, Nat.le_of_ble_eq_true rfl⟩) (fun r_11 hr_11 => ?_)
        subst hr_11
        refine lv_imul hx hb dX3_isTurned_34 ?_
        refine lv_icmp_eq (tgt := 40) hx hb dX3_isTurned_35 (by decide) (fun c_12 => ?_) (fun c_12 => ?_)
        · refine lv_iinc (v := 4) (lv' := [(4, .int 4), (0, .ref h), (1, .int (nI p9)), (2, .int (nI q9)), (3, .int z)]) hx hb dX3_isTurned_40 hl (k := 0) rfl (by decide) (by decide) rfl (fun ls hl => ?_)
          refine lv_goto (tgt := 3) hx hb dX3_isTurned_43 (by decide) ?_
          refine lv_iload hx hb dX3_isTurned_3 (lv_at hl 0 rfl) ?_
          refine lv_bipush (v := 7) hx hb dX3_isTurned_5 (by decide) ?_
          refine lv_icmp_ge (tgt := 46) hx hb dX3_isTurned_7 (by decide) (fun c_13 => absurd c_13 (by decide)) (fun _ => ?_)
          refine lv_aload_n hx hb dX3_isTurned_10 rfl (lv_at hl 1 rfl) ?_
          refine va_get (D := D) (ci := 3) (v := .ref n1) (C := RX3) (T := TX3) (N := 13) hx hb hg inX3 hown hK hP 0 rfl rfl 3 (by decide) (hg _ fl_X3_13) (fun _ h9 => h9) hf3 dX3_isTurned_11 ?_
          refine lv_bipush (v := 8) hx hb dX3_isTurned_14 (by decide) ?_
          refine lv_iload_n hx hb dX3_isTurned_16 rfl (lv_at hl 2 rfl) ?_
          refine lv_imul hx hb dX3_isTurned_17 ?_
          rw [show (8 : Int32) * nI p9 = nI (8 * p9) from pk_mul 8 p9]
          refine lv_iload hx hb dX3_isTurned_18 (lv_at hl 0 rfl) ?_
          refine lv_iadd hx hb dX3_isTurned_20 ?_
          rw [show (nI (8 * p9)) + (4 : Int32) = nI ((8 * p9) + 4) from nI_add (8 * p9) 4]
          refine va_iald (D := D) (n := 32) (f := f) hx hb hK hP 1 0 rfl rfl (vp_in_nI (show ((8 * p9) + 4) < 32 by omega) (by decide)) dX3_isTurned_21 ?_
          rw [nI_clamp (show ((8 * p9) + 4) < 2 ^ 31 by omega)]
          refine lv_iload_n hx hb dX3_isTurned_22 rfl (lv_at hl 4 rfl) ?_
          refine lv_aload_n hx hb dX3_isTurned_23 rfl (lv_at hl 1 rfl) ?_
          refine lv_aload_n hx hb dX3_isTurned_24 rfl (lv_at hl 1 rfl) ?_
          refine va_get (D := D) (ci := 3) (v := .ref n1) (C := RX3) (T := TX3) (N := 13) hx hb hg inX3 hown hK hP 0 rfl rfl 3 (by decide) (hg _ fl_X3_13) (fun _ h9 => h9) hf3 dX3_isTurned_25 ?_
          refine lv_iload_n hx hb dX3_isTurned_28 rfl (lv_at hl 3 rfl) ?_
          refine lv_iload hx hb dX3_isTurned_29 (lv_at hl 0 rfl) ?_
          refine vp_callSi (W.runV (As := [.ref n1, .int (nI q9), .int 4]) (rest := [.int z, .int (f ((8 * p9) + 4))]) ⟨hx, hb, hml, hown, hg⟩ (c_X3_turned l D cI cL cQ h n1 f q9 4 (by decide) (by omega)) (cwV 3 hg (gw_V ml_X3_39 im_X3_turned se_X3_turned ini_X3 co_X3_turned) rfl rfl rfl (by decide +kernel) ⟨Nat.le_of_ble_eq_true rfl, Nat.le_of_ble_eq_true rfl⟩) ⟨pu_B.blind, va_recv hK hP (ci := 3) (q0 := 0) rfl rfl, (fun U hU hW => ⟨rfl, pu_B.at hK (hP.sub [1] rfl) hU hW⟩)⟩ rfl rfl hl.1 rfl (lv_room (Nat.le_of_ble_eq_true rfl)) dX3_isTurned_31 ⟨Nat.le_of_ble_eq_true rfl, Nat.le_of_ble_eq_true rfl⟩) (fun r_14 hr_14 => ?_)
          subst hr_14
          refine lv_imul hx hb dX3_isTurned_34 ?_
          refine lv_icmp_eq (tgt := 40) hx hb dX3_isTurned_35 (by decide) (fun c_15 => ?_) (fun c_15 => ?_)
          · refine lv_iinc (v := 5) (lv' := [(4, .int 5), (0, .ref h), (1, .int (nI p9)), (2, .int (nI q9)), (3, .int z)]) hx hb dX3_isTurned_40 hl (k := 0) rfl (by decide) (by decide) rfl (fun ls hl => ?_)
            refine lv_goto (tgt := 3) hx hb dX3_isTurned_43 (by decide) ?_
            refine lv_iload hx hb dX3_isTurned_3 (lv_at hl 0 rfl) ?_
            refine lv_bipush (v := 7) hx hb dX3_isTurned_5 (by decide) ?_
            refine lv_icmp_ge (tgt := 46) hx hb dX3_isTurned_7 (by decide) (fun c_16 => absurd c_16 (by decide)) (fun _ => ?_)
            refine lv_aload_n hx hb dX3_isTurned_10 rfl (lv_at hl 1 rfl) ?_
            refine va_get (D := D) (ci := 3) (v := .ref n1) (C := RX3) (T := TX3) (N := 13) hx hb hg inX3 hown hK hP 0 rfl rfl 3 (by decide) (hg _ fl_X3_13) (fun _ h9 => h9) hf3 dX3_isTurned_11 ?_
            refine lv_bipush (v := 8) hx hb dX3_isTurned_14 (by decide) ?_
            refine lv_iload_n hx hb dX3_isTurned_16 rfl (lv_at hl 2 rfl) ?_
            refine lv_imul hx hb dX3_isTurned_17 ?_
            rw [show (8 : Int32) * nI p9 = nI (8 * p9) from pk_mul 8 p9]
            refine lv_iload hx hb dX3_isTurned_18 (lv_at hl 0 rfl) ?_
            refine lv_iadd hx hb dX3_isTurned_20 ?_
            rw [show (nI (8 * p9)) + (5 : Int32) = nI ((8 * p9) + 5) from nI_add (8 * p9) 5]
            refine va_iald (D := D) (n := 32) (f := f) hx hb hK hP 1 0 rfl rfl (vp_in_nI (show ((8 * p9) + 5) < 32 by omega) (by decide)) dX3_isTurned_21 ?_
            rw [nI_clamp (show ((8 * p9) + 5) < 2 ^ 31 by omega)]
            refine lv_iload_n hx hb dX3_isTurned_22 rfl (lv_at hl 4 rfl) ?_
            refine lv_aload_n hx hb dX3_isTurned_23 rfl (lv_at hl 1 rfl) ?_
            refine lv_aload_n hx hb dX3_isTurned_24 rfl (lv_at hl 1 rfl) ?_
            refine va_get (D := D) (ci := 3) (v := .ref n1) (C := RX3) (T := TX3) (N := 13) hx hb hg inX3 hown hK hP 0 rfl rfl 3 (by decide) (hg _ fl_X3_13) (fun _ h9 => h9) hf3 dX3_isTurned_25 ?_
            refine lv_iload_n hx hb dX3_isTurned_28 rfl (lv_at hl 3 rfl) ?_
            refine lv_iload hx hb dX3_isTurned_29 (lv_at hl 0 rfl) ?_
            refine vp_callSi (W.runV (As := [.ref n1, .int (nI q9), .int 5]) (rest := [.int z, .int (f ((8 * p9) + 5))]) ⟨hx, hb, hml, hown, hg⟩ (c_X3_turned l D cI cL cQ h n1 f q9 5 (by decide) (by omega)) (cwV 3 hg (gw_V ml_X3_39 im_X3_turned se_X3_turned ini_X3 co_X3_turned) rfl rfl rfl (by decide +kernel) ⟨Nat.le_of_ble_eq_true rfl, Nat.le_of_ble_eq_true rfl⟩) ⟨pu_B.blind, va_recv hK hP (ci := 3) (q0 := 0) rfl rfl, (fun U hU hW => ⟨rfl, pu_B.at hK (hP.sub [1] rfl) hU hW⟩)⟩ rfl rfl hl.1 rfl (lv_room (Nat.le_of_ble_eq_true rfl)) dX3_isTurned_31 ⟨Nat.le_of_ble_eq_true rfl, Nat.le_of_ble_eq_true rfl⟩) (fun r_17 hr_17 => ?_)
            subst hr_17
            refine lv_imul hx hb dX3_isTurned_34 ?_
            refine lv_icmp_eq (tgt := 40) hx hb dX3_isTurned_35 (by decide) (fun c_18 => ?_) (fun c_18 => ?_)
            · refine lv_iinc (v := 6) (lv' := [(4, .int 6), (0, .ref h), (1, .int (nI p9)), (2, .int (nI q9)), (3, .int z)]) hx hb dX3_isTurned_40 hl (k := 0) rfl (by decide) (by decide) rfl (fun ls hl => ?_)
              refine lv_goto (tgt := 3) hx hb dX3_isTurned_43 (by decide) ?_
              refine lv_iload hx hb dX3_isTurned_3 (lv_at hl 0 rfl) ?_
              refine lv_bipush (v := 7) hx hb dX3_isTurned_5 (by decide) ?_
              refine lv_icmp_ge (tgt := 46) hx hb dX3_isTurned_7 (by decide) (fun c_19 => absurd c_19 (by decide)) (fun _ => ?_)
              refine lv_aload_n hx hb dX3_isTurned_10 rfl (lv_at hl 1 rfl) ?_
              refine va_get (D := D) (ci := 3) (v := .ref n1) (C := RX3) (T := TX3) (N := 13) hx hb hg inX3 hown hK hP 0 rfl rfl 3 (by decide) (hg _ fl_X3_13) (fun _ h9 => h9) hf3 dX3_isTurned_11 ?_
              refine lv_bipush (v := 8) hx hb dX3_isTurned_14 (by decide) ?_
              refine lv_iload_n hx hb dX3_isTurned_16 rfl (lv_at hl 2 rfl) ?_
              refine lv_imul hx hb dX3_isTurned_17 ?_
              rw [show (8 : Int32) * nI p9 = nI (8 * p9) from pk_mul 8 p9]
              refine lv_iload hx hb dX3_isTurned_18 (lv_at hl 0 rfl) ?_
              refine lv_iadd hx hb dX3_isTurned_20 ?_
              rw [show (nI (8 * p9)) + (6 : Int32) = nI ((8 * p9) + 6) from nI_add (8 * p9) 6]
              refine va_iald (D := D) (n := 32) (f := f) hx hb hK hP 1 0 rfl rfl (vp_in_nI (show ((8 * p9) + 6) < 32 by omega) (by decide)) dX3_isTurned_21 ?_
              rw [nI_clamp (show ((8 * p9) + 6) < 2 ^ 31 by omega)]
              refine lv_iload_n hx hb dX3_isTurned_22 rfl (lv_at hl 4 rfl) ?_
              refine lv_aload_n hx hb dX3_isTurned_23 rfl (lv_at hl 1 rfl) ?_
              refine lv_aload_n hx hb dX3_isTurned_24 rfl (lv_at hl 1 rfl) ?_
              refine va_get (D := D) (ci := 3) (v := .ref n1) (C := RX3) (T := TX3) (N := 13) hx hb hg inX3 hown hK hP 0 rfl rfl 3 (by decide) (hg _ fl_X3_13) (fun _ h9 => h9) hf3 dX3_isTurned_25 ?_
              refine lv_iload_n hx hb dX3_isTurned_28 rfl (lv_at hl 3 rfl) ?_
              refine lv_iload hx hb dX3_isTurned_29 (lv_at hl 0 rfl) ?_
              refine vp_callSi (W.runV (As := [.ref n1, .int (nI q9), .int 6]) (rest := [.int z, .int (f ((8 * p9) + 6))]) ⟨hx, hb, hml, hown, hg⟩ (c_X3_turned l D cI cL cQ h n1 f q9 6 (by decide) (by omega)) (cwV 3 hg (gw_V ml_X3_39 im_X3_turned se_X3_turned ini_X3 co_X3_turned) rfl rfl rfl (by decide +kernel) ⟨Nat.le_of_ble_eq_true rfl, Nat.le_of_ble_eq_true rfl⟩) ⟨pu_B.blind, va_recv hK hP (ci := 3) (q0 := 0) rfl rfl, (fun U hU hW => ⟨rfl, pu_B.at hK (hP.sub [1] rfl) hU hW⟩)⟩ rfl rfl hl.1 rfl (lv_room (Nat.le_of_ble_eq_true rfl)) dX3_isTurned_31 ⟨Nat.le_of_ble_eq_true rfl, Nat.le_of_ble_eq_true rfl⟩) (fun r_20 hr_20 => ?_)
              subst hr_20
              refine lv_imul hx hb dX3_isTurned_34 ?_
              refine lv_icmp_eq (tgt := 40) hx hb dX3_isTurned_35 (by decide) (fun c_21 => ?_) (fun c_21 => ?_)
              · refine lv_iinc (v := 7) (lv' := [(4, .int 7), (0, .ref h), (1, .int (nI p9)), (2, .int (nI q9)), (3, .int z)]) hx hb dX3_isTurned_40 hl (k := 0) rfl (by decide) (by decide) rfl (fun ls hl => ?_)
                refine lv_goto (tgt := 3) hx hb dX3_isTurned_43 (by decide) ?_
                refine lv_iload hx hb dX3_isTurned_3 (lv_at hl 0 rfl) ?_
                refine lv_bipush (v := 7) hx hb dX3_isTurned_5 (by decide) ?_
                refine lv_icmp_ge (tgt := 46) hx hb dX3_isTurned_7 (by decide) (fun _ => ?_) (fun c_22 => absurd c_22 (by decide))
                refine lv_aload_n hx hb dX3_isTurned_46 rfl (lv_at hl 1 rfl) ?_
                refine lv_iload_n hx hb dX3_isTurned_47 rfl (lv_at hl 2 rfl) ?_
                refine vp_callSi (W.runV (As := [.int (nI p9)]) (rest := []) ⟨hx, hb, hml, hown, hg⟩ (c_X3_hasPole l D cI cL cQ h n1 fs hf3 f p9 (by omega)) (cwV 1 hg (gw_V ml_X3_58 im_X3_hasPole se_X3_hasPole ini_X3 co_X3_hasPole) rfl rfl rfl (by decide +kernel) ⟨Nat.le_of_ble_eq_true rfl, Nat.le_of_ble_eq_true rfl⟩) ⟨pu_B.blind, va_recv hK hP (ci := 3) (q0 := 0) rfl rfl, (fun U hU hW => ⟨rfl, pu_B.at hK (hP.sub [0, 1] rfl) hU hW⟩)⟩ rfl rfl hl.1 rfl (lv_room (Nat.le_of_ble_eq_true rfl)) dX3_isTurned_48 ⟨Nat.le_of_ble_eq_true rfl, Nat.le_of_ble_eq_true rfl⟩) (fun r_23 hr_23 => ?_)
                subst hr_23
                refine lv_if_eq (tgt := 80) hx hb dX3_isTurned_51 (by decide) (fun c_24 => ?_) (fun c_24 => ?_)
                · replace c_24 := zi_0 c_24
                  refine lv_iconst (v := 1) hx hb dX3_isTurned_80 (by decide) ?_
                  refine lv_goto (tgt := 85) hx hb dX3_isTurned_81 (by decide) ?_
                  exact W.zret (v := 1) hx hb hr rfl (fun t ht hW => ⟨1, rfl, by (try simp only [Nat.add_zero] at c_3); (try rw [show gl_sign 7 = -1 from rfl, gs_n] at c_24); simp [zi, p_mir, Int32.mul_assoc, c_3, c_6, c_9, c_12, c_15, c_18, c_21, c_24], ht⟩) (fun _ h => nomatch h) dX3_isTurned_85
                · replace c_24 := zi_n0 c_24
                  refine lv_aload_n hx hb dX3_isTurned_54 rfl (lv_at hl 1 rfl) ?_
                  refine va_get (D := D) (ci := 3) (v := .ref n1) (C := RX3) (T := TX3) (N := 13) hx hb hg inX3 hown hK hP 0 rfl rfl 3 (by decide) (hg _ fl_X3_13) (fun _ h9 => h9) hf3 dX3_isTurned_55 ?_
                  refine lv_bipush (v := 8) hx hb dX3_isTurned_58 (by decide) ?_
                  refine lv_iload_n hx hb dX3_isTurned_60 rfl (lv_at hl 2 rfl) ?_
                  refine lv_imul hx hb dX3_isTurned_61 ?_
                  rw [show (8 : Int32) * nI p9 = nI (8 * p9) from pk_mul 8 p9]
                  refine lv_bipush (v := 7) hx hb dX3_isTurned_62 (by decide) ?_
                  refine lv_iadd hx hb dX3_isTurned_64 ?_
                  rw [show (nI (8 * p9)) + (7 : Int32) = nI ((8 * p9) + 7) from nI_add (8 * p9) 7]
                  refine va_iald (D := D) (n := 32) (f := f) hx hb hK hP 1 0 rfl rfl (vp_in_nI (show ((8 * p9) + 7) < 32 by omega) (by decide)) dX3_isTurned_65 ?_
                  rw [nI_clamp (show ((8 * p9) + 7) < 2 ^ 31 by omega)]
                  refine lv_aload_n hx hb dX3_isTurned_66 rfl (lv_at hl 1 rfl) ?_
                  refine lv_aload_n hx hb dX3_isTurned_67 rfl (lv_at hl 1 rfl) ?_
                  refine va_get (D := D) (ci := 3) (v := .ref n1) (C := RX3) (T := TX3) (N := 13) hx hb hg inX3 hown hK hP 0 rfl rfl 3 (by decide) (hg _ fl_X3_13) (fun _ h9 => h9) hf3 dX3_isTurned_68 ?_
                  refine lv_iload_n hx hb dX3_isTurned_71 rfl (lv_at hl 3 rfl) ?_
                  refine lv_bipush (v := 7) hx hb dX3_isTurned_72 (by decide) ?_
                  refine vp_callSi (W.runV (As := [.ref n1, .int (nI q9), .int 7]) (rest := [.int (f ((8 * p9) + 7))]) ⟨hx, hb, hml, hown, hg⟩ (c_X3_turned l D cI cL cQ h n1 f q9 7 (by decide) (by omega)) (cwV 3 hg (gw_V ml_X3_39 im_X3_turned se_X3_turned ini_X3 co_X3_turned) rfl rfl rfl (by decide +kernel) ⟨Nat.le_of_ble_eq_true rfl, Nat.le_of_ble_eq_true rfl⟩) ⟨pu_B.blind, va_recv hK hP (ci := 3) (q0 := 0) rfl rfl, (fun U hU hW => ⟨rfl, pu_B.at hK (hP.sub [1] rfl) hU hW⟩)⟩ rfl rfl hl.1 rfl (lv_room (Nat.le_of_ble_eq_true rfl)) dX3_isTurned_74 ⟨Nat.le_of_ble_eq_true rfl, Nat.le_of_ble_eq_true rfl⟩) (fun r_25 hr_25 => ?_)
                  subst hr_25
                  refine lv_icmp_ne (tgt := 84) hx hb dX3_isTurned_77 (by decide) (fun c_26 => ?_) (fun c_26 => ?_)
                  · refine lv_iconst (v := 0) hx hb dX3_isTurned_84 (by decide) ?_
                    exact W.zret (v := 0) hx hb hr rfl (fun t ht hW => ⟨0, rfl, by (try simp only [Nat.add_zero] at c_3); (try rw [show gl_sign 7 = -1 from rfl, gs_n] at c_26); simp [zi, p_mir, Int32.mul_assoc, c_3, c_6, c_9, c_12, c_15, c_18, c_21, c_24, c_26], ht⟩) (fun _ h => nomatch h) dX3_isTurned_85
                  · refine lv_iconst (v := 1) hx hb dX3_isTurned_80 (by decide) ?_
                    refine lv_goto (tgt := 85) hx hb dX3_isTurned_81 (by decide) ?_
                    exact W.zret (v := 1) hx hb hr rfl (fun t ht hW => ⟨1, rfl, by (try simp only [Nat.add_zero] at c_3); (try rw [show gl_sign 7 = -1 from rfl, gs_n] at c_26); simp [zi, p_mir, Int32.mul_assoc, c_3, c_6, c_9, c_12, c_15, c_18, c_21, c_24, c_26], ht⟩) (fun _ h => nomatch h) dX3_isTurned_85
              · refine lv_iconst (v := 0) hx hb dX3_isTurned_38 (by decide) ?_
                exact W.zret (v := 0) hx hb hr rfl (fun t ht hW => ⟨0, rfl, by (try simp only [Nat.add_zero] at c_3); (try rw [show gl_sign 7 = -1 from rfl, gs_n] at c_21); simp [zi, p_mir, Int32.mul_assoc, c_3, c_6, c_9, c_12, c_15, c_18, c_21], ht⟩) (fun _ h => nomatch h) dX3_isTurned_39
            · refine lv_iconst (v := 0) hx hb dX3_isTurned_38 (by decide) ?_
              exact W.zret (v := 0) hx hb hr rfl (fun t ht hW => ⟨0, rfl, by (try simp only [Nat.add_zero] at c_3); (try rw [show gl_sign 7 = -1 from rfl, gs_n] at c_18); simp [zi, p_mir, Int32.mul_assoc, c_3, c_6, c_9, c_12, c_15, c_18], ht⟩) (fun _ h => nomatch h) dX3_isTurned_39
          · refine lv_iconst (v := 0) hx hb dX3_isTurned_38 (by decide) ?_
            exact W.zret (v := 0) hx hb hr rfl (fun t ht hW => ⟨0, rfl, by (try simp only [Nat.add_zero] at c_3); (try rw [show gl_sign 7 = -1 from rfl, gs_n] at c_15); simp [zi, p_mir, Int32.mul_assoc, c_3, c_6, c_9, c_12, c_15], ht⟩) (fun _ h => nomatch h) dX3_isTurned_39
        · refine lv_iconst (v := 0) hx hb dX3_isTurned_38 (by decide) ?_
          exact W.zret (v := 0) hx hb hr rfl (fun t ht hW => ⟨0, rfl, by (try simp only [Nat.add_zero] at c_3); (try rw [show gl_sign 7 = -1 from rfl, gs_n] at c_12); simp [zi, p_mir, Int32.mul_assoc, c_3, c_6, c_9, c_12], ht⟩) (fun _ h => nomatch h) dX3_isTurned_39
      · refine lv_iconst (v := 0) hx hb dX3_isTurned_38 (by decide) ?_
        exact W.zret (v := 0) hx hb hr rfl (fun t ht hW => ⟨0, rfl, by (try simp only [Nat.add_zero] at c_3); (try rw [show gl_sign 7 = -1 from rfl, gs_n] at c_9); simp [zi, p_mir, Int32.mul_assoc, c_3, c_6, c_9], ht⟩) (fun _ h => nomatch h) dX3_isTurned_39
    · refine lv_iconst (v := 0) hx hb dX3_isTurned_38 (by decide) ?_
      exact W.zret (v := 0) hx hb hr rfl (fun t ht hW => ⟨0, rfl, by (try simp only [Nat.add_zero] at c_3); (try rw [show gl_sign 7 = -1 from rfl, gs_n] at c_6); simp [zi, p_mir, Int32.mul_assoc, c_3, c_6], ht⟩) (fun _ h => nomatch h) dX3_isTurned_39
  · refine lv_iconst (v := 0) hx hb dX3_isTurned_38 (by decide) ?_
    exact W.zret (v := 0) hx hb hr rfl (fun t ht hW => ⟨0, rfl, by (try simp only [Nat.add_zero] at c_3); (try rw [show gl_sign 7 = -1 from rfl, gs_n] at c_3); simp [zi, p_mir, Int32.mul_assoc, c_3], ht⟩) (fun _ h => nomatch h) dX3_isTurned_39
set_option maxHeartbeats 4000000 in
set_option maxRecDepth 100000 in
theorem c_X3_isThere (l : Launch) (D : va_G) (cI cL cQ : ClassId) (h n1 : Nat) (fs : List Value) (hf3 : fs[3]? = some (.ref n1)) (f : Nat → Int32) (p9 : Nat) (hp : p9 < 4) (a b : Int32) : Met l yX3_isThere wsX3_isThere { frames := 1, cells := 0, slots := 0, locals := 21 } (va_Pc [.ref h, .int (nI p9), .int a, .int b] (pu_B D (ty3 cI cL cQ) [(h, .inr (3, fs)), (n1, .inl (cI, 32, .inl f))])) (vp_Si (fun r => r = zi (m_there (fun j => f (8 * p9 + j)) a b))) 0 0 (fun _ => False) := by
  refine Met.ofW (cc := cX3_isThere) (maxL := 6) (ret := (some .boolean)) (by decide) rfl ?_
  intro p e s m args below meth c s₁ B hml hv
  obtain ⟨rfl, hK, hP⟩ := hv
  have hx := B.exec
  have hb := B.bytes
  have hr := B.returns
  have hts := atoms_spec (ws := wsX3_isThere) B.pre
  have hg : ∀ w ∈ gw, w.before ([.ref h, .int (nI p9), .int a, .int b] : List Value).toArray s = true := fun w h => hts w (List.mem_cons_of_mem _ h)
  have hown : s.vm.findClass RX3 = some m.cls := findClass_of_methodNamed B.named
  have hlocks := B.notSynchronized
  have hl := lv_entry ([.ref h, .int (nI p9), .int a, .int b]) (n := 6) (Nat.le_of_ble_eq_true rfl)
  rw [lg_entry_eq]
  generalize (lg_sl ([.ref h, .int (nI p9), .int a, .int b]) ++ List.replicate (6 - (lg_sl ([.ref h, .int (nI p9), .int a, .int b])).length) Slot.unset).toArray = ls at hl ⊢
  have hl : lv_has ls 6 [(0, .ref h), (1, .int (nI p9)), (2, .int a), (3, .int b)] := hl
  refine lv_bipush (v := 8) hx hb dX3_isThere_0 (by decide) ?_
  refine lv_iload_n hx hb dX3_isThere_2 rfl (lv_at hl 1 rfl) ?_
  refine lv_imul hx hb dX3_isThere_3 ?_
  rw [show (8 : Int32) * nI p9 = nI (8 * p9) from pk_mul 8 p9]
  refine lv_istore (lv' := [(4, .int (nI (8 * p9))), (0, .ref h), (1, .int (nI p9)), (2, .int a), (3, .int b)]) hx hb dX3_isThere_4 hl (by decide) rfl (fun ls hl => ?_)
  have K56 : ((p_pole (fun j => f (8 * p9 + j)) && (decide (a = -9) || !decide (f (8 * p9 + 7) < a)) && (decide (b = 9) || !decide (b < f (8 * p9 + 7)))) = false) → W p l e (headSpec wsX3_isThere { frames := 1, cells := 0, slots := 0, locals := 21 }).room s m ([.ref h, .int (nI p9), .int a, .int b] : List Value).toArray below meth c s.heap [] 0 0 (MQ below (vp_Si (fun r => r = zi (m_there (fun j => f (8 * p9 + j)) a b))) ([.ref h, .int (nI p9), .int a, .int b] : List Value).toArray s 0 0 (fun _ => False)) (F0 m 56 ls []) := by
    intro hno
    have K73 : W p l e (headSpec wsX3_isThere { frames := 1, cells := 0, slots := 0, locals := 21 }).room s m ([.ref h, .int (nI p9), .int a, .int b] : List Value).toArray below meth c s.heap [] 0 0 (MQ below (vp_Si (fun r => r = zi (m_there (fun j => f (8 * p9 + j)) a b))) ([.ref h, .int (nI p9), .int a, .int b] : List Value).toArray s 0 0 (fun _ => False)) (F0 m 73 ls [.int (zi (decide (a = -9) || decide (b = 9)))]) := by
      refine lv_istore (lv' := [(5, .int (zi (decide (a = -9) || decide (b = 9)))), (4, .int (nI (8 * p9))), (0, .ref h), (1, .int (nI p9)), (2, .int a), (3, .int b)]) hx hb dX3_isThere_73 hl (by decide) rfl (fun ls hl => ?_)
      refine lv_iload hx hb dX3_isThere_75 (lv_at hl 0 rfl) ?_
      refine lv_if_eq (tgt := 138) hx hb dX3_isThere_77 (by decide) (fun c_1 => ?_) (fun c_1 => ?_)
      · replace c_1 := zi_0 c_1
        refine lv_iconst (v := 1) hx hb dX3_isThere_138 (by decide) ?_
        refine lv_goto (tgt := 143) hx hb dX3_isThere_139 (by decide) ?_
        exact W.zret (v := 1) hx hb hr rfl (fun t ht hW => ⟨1, rfl, by simp [zi, m_there, p_tail, c_1, hno], ht⟩) (fun _ h => nomatch h) dX3_isThere_143
      · replace c_1 := zi_n0 c_1
        refine lv_aload_n hx hb dX3_isThere_80 rfl (lv_at hl 2 rfl) ?_
        refine va_get (D := D) (ci := 3) (v := .ref n1) (C := RX3) (T := TX3) (N := 13) hx hb hg inX3 hown hK hP 0 rfl rfl 3 (by decide) (hg _ fl_X3_13) (fun _ h9 => h9) hf3 dX3_isThere_81 ?_
        refine lv_iload hx hb dX3_isThere_84 (lv_at hl 1 rfl) ?_
        refine va_iald (D := D) (n := 32) (f := f) hx hb hK hP 1 0 rfl rfl (vp_in_nI (show (8 * p9) < 32 by omega) (by decide)) dX3_isThere_86 ?_
        rw [nI_clamp (show (8 * p9) < 2 ^ 31 by omega)]
        refine lv_if_ne (tgt := 142) hx hb dX3_isThere_87 (by decide) (fun c_2 => ?_) (fun c_2 => ?_)
        · refine lv_iconst (v := 0) hx hb dX3_isThere_142 (by decide) ?_
          exact W.zret (v := 0) hx hb hr rfl (fun t ht hW => ⟨0, rfl, by simp [zi, m_there, p_tail, c_1, c_2, hno], ht⟩) (fun _ h => nomatch h) dX3_isThere_143
        · refine lv_aload_n hx hb dX3_isThere_90 rfl (lv_at hl 2 rfl) ?_
          refine va_get (D := D) (ci := 3) (v := .ref n1) (C := RX3) (T := TX3) (N := 13) hx hb hg inX3 hown hK hP 0 rfl rfl 3 (by decide) (hg _ fl_X3_13) (fun _ h9 => h9) hf3 dX3_isThere_91 ?_
          refine lv_iload hx hb dX3_isThere_94 (lv_at hl 1 rfl) ?_
          refine lv_iconst (v := 1) hx hb dX3_isThere_96 (by decide) ?_
          refine lv_iadd hx hb dX3_isThere_97 ?_
          rw [show (nI (8 * p9)) + (1 : Int32) = nI ((8 * p9) + 1) from nI_add (8 * p9) 1]
          refine va_iald (D := D) (n := 32) (f := f) hx hb hK hP 1 0 rfl rfl (vp_in_nI (show ((8 * p9) + 1) < 32 by omega) (by decide)) dX3_isThere_98 ?_
          rw [nI_clamp (show ((8 * p9) + 1) < 2 ^ 31 by omega)]
          refine lv_if_ne (tgt := 142) hx hb dX3_isThere_99 (by decide) (fun c_3 => ?_) (fun c_3 => ?_)
          · refine lv_iconst (v := 0) hx hb dX3_isThere_142 (by decide) ?_
            exact W.zret (v := 0) hx hb hr rfl (fun t ht hW => ⟨0, rfl, by simp [zi, m_there, p_tail, c_1, c_2, c_3, hno], ht⟩) (fun _ h => nomatch h) dX3_isThere_143
          · refine lv_aload_n hx hb dX3_isThere_102 rfl (lv_at hl 2 rfl) ?_
            refine va_get (D := D) (ci := 3) (v := .ref n1) (C := RX3) (T := TX3) (N := 13) hx hb hg inX3 hown hK hP 0 rfl rfl 3 (by decide) (hg _ fl_X3_13) (fun _ h9 => h9) hf3 dX3_isThere_103 ?_
            refine lv_iload hx hb dX3_isThere_106 (lv_at hl 1 rfl) ?_
            refine lv_iconst (v := 2) hx hb dX3_isThere_108 (by decide) ?_
            refine lv_iadd hx hb dX3_isThere_109 ?_
            rw [show (nI (8 * p9)) + (2 : Int32) = nI ((8 * p9) + 2) from nI_add (8 * p9) 2]
            refine va_iald (D := D) (n := 32) (f := f) hx hb hK hP 1 0 rfl rfl (vp_in_nI (show ((8 * p9) + 2) < 32 by omega) (by decide)) dX3_isThere_110 ?_
            rw [nI_clamp (show ((8 * p9) + 2) < 2 ^ 31 by omega)]
            refine lv_if_ne (tgt := 142) hx hb dX3_isThere_111 (by decide) (fun c_4 => ?_) (fun c_4 => ?_)
            · refine lv_iconst (v := 0) hx hb dX3_isThere_142 (by decide) ?_
              exact W.zret (v := 0) hx hb hr rfl (fun t ht hW => ⟨0, rfl, by simp [zi, m_there, p_tail, c_1, c_2, c_3, c_4, hno], ht⟩) (fun _ h => nomatch h) dX3_isThere_143
            · refine lv_aload_n hx hb dX3_isThere_114 rfl (lv_at hl 2 rfl) ?_
              refine va_get (D := D) (ci := 3) (v := .ref n1) (C := RX3) (T := TX3) (N := 13) hx hb hg inX3 hown hK hP 0 rfl rfl 3 (by decide) (hg _ fl_X3_13) (fun _ h9 => h9) hf3 dX3_isThere_115 ?_
              refine lv_iload hx hb dX3_isThere_118 (lv_at hl 1 rfl) ?_
              refine lv_iconst (v := 3) hx hb dX3_isThere_120 (by decide) ?_
              refine lv_iadd hx hb dX3_isThere_121 ?_
              rw [show (nI (8 * p9)) + (3 : Int32) = nI ((8 * p9) + 3) from nI_add (8 * p9) 3]
              refine va_iald (D := D) (n := 32) (f := f) hx hb hK hP 1 0 rfl rfl (vp_in_nI (show ((8 * p9) + 3) < 32 by omega) (by decide)) dX3_isThere_122 ?_
              rw [nI_clamp (show ((8 * p9) + 3) < 2 ^ 31 by omega)]
              refine lv_if_ne (tgt := 142) hx hb dX3_isThere_123 (by decide) (fun c_5 => ?_) (fun c_5 => ?_)
              · refine lv_iconst (v := 0) hx hb dX3_isThere_142 (by decide) ?_
                exact W.zret (v := 0) hx hb hr rfl (fun t ht hW => ⟨0, rfl, by simp [zi, m_there, p_tail, c_1, c_2, c_3, c_4, c_5, hno], ht⟩) (fun _ h => nomatch h) dX3_isThere_143
              · refine lv_aload_n hx hb dX3_isThere_126 rfl (lv_at hl 2 rfl) ?_
                refine va_get (D := D) (ci := 3) (v := .ref n1) (C := RX3) (T := TX3) (N := 13) hx hb hg inX3 hown hK hP 0 rfl rfl 3 (by decide) (hg _ fl_X3_13) (fun _ h9 => h9) hf3 dX3_isThere_127 ?_
                refine lv_iload hx hb dX3_isThere_130 (lv_at hl 1 rfl) ?_
                refine lv_iconst (v := 4) hx hb dX3_isThere_132 (by decide) ?_
                refine lv_iadd hx hb dX3_isThere_133 ?_
                rw [show (nI (8 * p9)) + (4 : Int32) = nI ((8 * p9) + 4) from nI_add (8 * p9) 4]
                refine va_iald (D := D) (n := 32) (f := f) hx hb hK hP 1 0 rfl rfl (vp_in_nI (show ((8 * p9) + 4) < 32 by omega) (by decide)) dX3_isThere_134 ?_
                rw [nI_clamp (show ((8 * p9) + 4) < 2 ^ 31 by omega)]
                refine lv_if_ne (tgt := 142) hx hb dX3_isThere_135 (by decide) (fun c_6 => ?_) (fun c_6 => ?_)
                · refine lv_iconst (v := 0) hx hb dX3_isThere_142 (by decide) ?_
                  exact W.zret (v := 0) hx hb hr rfl (fun t ht hW => ⟨0, rfl, by simp [zi, m_there, p_tail, c_1, c_2, c_3, c_4, c_5, c_6, hno], ht⟩) (fun _ h => nomatch h) dX3_isThere_143
                · refine lv_iconst (v := 1) hx hb dX3_isThere_138 (by decide) ?_
                  refine lv_goto (tgt := 143) hx hb dX3_isThere_139 (by decide) ?_
                  exact W.zret (v := 1) hx hb hr rfl (fun t ht hW => ⟨1, rfl, by simp [zi, m_there, p_tail, c_1, c_2, c_3, c_4, c_5, c_6, hno], ht⟩) (fun _ h => nomatch h) dX3_isThere_143
    refine lv_iload_n hx hb dX3_isThere_56 rfl (lv_at hl 3 rfl) ?_
    refine lv_bipush (v := (-9)) hx hb dX3_isThere_57 (by decide) ?_
    refine lv_icmp_eq (tgt := 68) hx hb dX3_isThere_59 (by decide) (fun c_7 => ?_) (fun c_7 => ?_)
    · refine lv_iconst (v := 1) hx hb dX3_isThere_68 (by decide) ?_
      refine lv_goto (tgt := 73) hx hb dX3_isThere_69 (by decide) ?_
      have e9 : zi (decide (a = -9) || decide (b = 9)) = 1 := by simp [zi, c_7]
      rw [e9] at K73
      exact K73
    · refine lv_iload_n hx hb dX3_isThere_62 rfl (lv_at hl 4 rfl) ?_
      refine lv_bipush (v := 9) hx hb dX3_isThere_63 (by decide) ?_
      refine lv_icmp_ne (tgt := 72) hx hb dX3_isThere_65 (by decide) (fun c_8 => ?_) (fun c_8 => ?_)
      · refine lv_iconst (v := 0) hx hb dX3_isThere_72 (by decide) ?_
        have e9 : zi (decide (a = -9) || decide (b = 9)) = 0 := by simp [zi, c_7, c_8]
        rw [e9] at K73
        exact K73
      · refine lv_iconst (v := 1) hx hb dX3_isThere_68 (by decide) ?_
        refine lv_goto (tgt := 73) hx hb dX3_isThere_69 (by decide) ?_
        have e9 : zi (decide (a = -9) || decide (b = 9)) = 1 := by simp [zi, c_7, c_8]
        rw [e9] at K73
        exact K73
  refine lv_aload_n hx hb dX3_isThere_6 rfl (lv_at hl 1 rfl) ?_
  refine lv_iload_n hx hb dX3_isThere_7 rfl (lv_at hl 2 rfl) ?_
  refine vp_callSi (W.runV (As := [.int (nI p9)]) (rest := []) ⟨hx, hb, hml, hown, hg⟩ (c_X3_hasPole l D cI cL cQ h n1 fs hf3 f p9 (by omega)) (cwV 1 hg (gw_V ml_X3_58 im_X3_hasPole se_X3_hasPole ini_X3 co_X3_hasPole) rfl rfl rfl (by decide +kernel) ⟨Nat.le_of_ble_eq_true rfl, Nat.le_of_ble_eq_true rfl⟩) ⟨pu_B.blind, va_recv hK hP (ci := 3) (q0 := 0) rfl rfl, (fun U hU hW => ⟨rfl, pu_B.at hK (hP.sub [0, 1] rfl) hU hW⟩)⟩ rfl rfl hl.1 rfl (lv_room (Nat.le_of_ble_eq_true rfl)) dX3_isThere_8 ⟨Nat.le_of_ble_eq_true rfl, Nat.le_of_ble_eq_true rfl⟩) (fun r_9 hr_9 => ?_)
  subst hr_9
  refine lv_if_eq (tgt := 56) hx hb dX3_isThere_11 (by decide) (fun c_10 => ?_) (fun c_10 => ?_)
  · replace c_10 := zi_0 c_10
    exact K56 (by simp [zi, c_10])
  · replace c_10 := zi_n0 c_10
    refine lv_iload_n hx hb dX3_isThere_14 rfl (lv_at hl 3 rfl) ?_
    refine lv_bipush (v := (-9)) hx hb dX3_isThere_15 (by decide) ?_
    refine lv_icmp_eq (tgt := 34) hx hb dX3_isThere_17 (by decide) (fun c_11 => ?_) (fun c_11 => ?_)
    · refine lv_iload_n hx hb dX3_isThere_34 rfl (lv_at hl 4 rfl) ?_
      refine lv_bipush (v := 9) hx hb dX3_isThere_35 (by decide) ?_
      refine lv_icmp_eq (tgt := 54) hx hb dX3_isThere_37 (by decide) (fun c_12 => ?_) (fun c_12 => ?_)
      · refine lv_iconst (v := 0) hx hb dX3_isThere_54 (by decide) ?_
        exact W.zret (v := 0) hx hb hr rfl (fun t ht hW => ⟨0, rfl, by simp [zi, m_there, p_tail, c_10, c_11, c_12], ht⟩) (fun _ h => nomatch h) dX3_isThere_55
      · refine lv_aload_n hx hb dX3_isThere_40 rfl (lv_at hl 1 rfl) ?_
        refine va_get (D := D) (ci := 3) (v := .ref n1) (C := RX3) (T := TX3) (N := 13) hx hb hg inX3 hown hK hP 0 rfl rfl 3 (by decide) (hg _ fl_X3_13) (fun _ h9 => h9) hf3 dX3_isThere_41 ?_
        refine lv_iload hx hb dX3_isThere_44 (lv_at hl 0 rfl) ?_
        refine lv_bipush (v := 7) hx hb dX3_isThere_46 (by decide) ?_
        refine lv_iadd hx hb dX3_isThere_48 ?_
        rw [show (nI (8 * p9)) + (7 : Int32) = nI ((8 * p9) + 7) from nI_add (8 * p9) 7]
        refine va_iald (D := D) (n := 32) (f := f) hx hb hK hP 1 0 rfl rfl (vp_in_nI (show ((8 * p9) + 7) < 32 by omega) (by decide)) dX3_isThere_49 ?_
        rw [nI_clamp (show ((8 * p9) + 7) < 2 ^ 31 by omega)]
        refine lv_iload_n hx hb dX3_isThere_50 rfl (lv_at hl 4 rfl) ?_
        refine lv_icmp_gt (tgt := 56) hx hb dX3_isThere_51 (by decide) (fun c_13 => ?_) (fun c_13 => ?_)
        · exact K56 (by simp [zi, c_10, c_11, c_12, c_13])
        · refine lv_iconst (v := 0) hx hb dX3_isThere_54 (by decide) ?_
          exact W.zret (v := 0) hx hb hr rfl (fun t ht hW => ⟨0, rfl, by simp [zi, m_there, p_tail, c_10, c_11, c_12, c_13], ht⟩) (fun _ h => nomatch h) dX3_isThere_55
    · refine lv_aload_n hx hb dX3_isThere_20 rfl (lv_at hl 1 rfl) ?_
      refine va_get (D := D) (ci := 3) (v := .ref n1) (C := RX3) (T := TX3) (N := 13) hx hb hg inX3 hown hK hP 0 rfl rfl 3 (by decide) (hg _ fl_X3_13) (fun _ h9 => h9) hf3 dX3_isThere_21 ?_
      refine lv_iload hx hb dX3_isThere_24 (lv_at hl 0 rfl) ?_
      refine lv_bipush (v := 7) hx hb dX3_isThere_26 (by decide) ?_
      refine lv_iadd hx hb dX3_isThere_28 ?_
      rw [show (nI (8 * p9)) + (7 : Int32) = nI ((8 * p9) + 7) from nI_add (8 * p9) 7]
      refine va_iald (D := D) (n := 32) (f := f) hx hb hK hP 1 0 rfl rfl (vp_in_nI (show ((8 * p9) + 7) < 32 by omega) (by decide)) dX3_isThere_29 ?_
      rw [nI_clamp (show ((8 * p9) + 7) < 2 ^ 31 by omega)]
      refine lv_iload_n hx hb dX3_isThere_30 rfl (lv_at hl 3 rfl) ?_
      refine lv_icmp_lt (tgt := 56) hx hb dX3_isThere_31 (by decide) (fun c_14 => ?_) (fun c_14 => ?_)
      · exact K56 (by simp [zi, c_10, c_11, c_14])
      · refine lv_iload_n hx hb dX3_isThere_34 rfl (lv_at hl 4 rfl) ?_
        refine lv_bipush (v := 9) hx hb dX3_isThere_35 (by decide) ?_
        refine lv_icmp_eq (tgt := 54) hx hb dX3_isThere_37 (by decide) (fun c_15 => ?_) (fun c_15 => ?_)
        · refine lv_iconst (v := 0) hx hb dX3_isThere_54 (by decide) ?_
          exact W.zret (v := 0) hx hb hr rfl (fun t ht hW => ⟨0, rfl, by simp [zi, m_there, p_tail, c_10, c_11, c_14, c_15], ht⟩) (fun _ h => nomatch h) dX3_isThere_55
        · refine lv_aload_n hx hb dX3_isThere_40 rfl (lv_at hl 1 rfl) ?_
          refine va_get (D := D) (ci := 3) (v := .ref n1) (C := RX3) (T := TX3) (N := 13) hx hb hg inX3 hown hK hP 0 rfl rfl 3 (by decide) (hg _ fl_X3_13) (fun _ h9 => h9) hf3 dX3_isThere_41 ?_
          refine lv_iload hx hb dX3_isThere_44 (lv_at hl 0 rfl) ?_
          refine lv_bipush (v := 7) hx hb dX3_isThere_46 (by decide) ?_
          refine lv_iadd hx hb dX3_isThere_48 ?_
          rw [show (nI (8 * p9)) + (7 : Int32) = nI ((8 * p9) + 7) from nI_add (8 * p9) 7]
          refine va_iald (D := D) (n := 32) (f := f) hx hb hK hP 1 0 rfl rfl (vp_in_nI (show ((8 * p9) + 7) < 32 by omega) (by decide)) dX3_isThere_49 ?_
          rw [nI_clamp (show ((8 * p9) + 7) < 2 ^ 31 by omega)]
          refine lv_iload_n hx hb dX3_isThere_50 rfl (lv_at hl 4 rfl) ?_
          refine lv_icmp_gt (tgt := 56) hx hb dX3_isThere_51 (by decide) (fun c_16 => ?_) (fun c_16 => ?_)
          · exact K56 (by simp [zi, c_10, c_11, c_14, c_15, c_16])
          · refine lv_iconst (v := 0) hx hb dX3_isThere_54 (by decide) ?_
            exact W.zret (v := 0) hx hb hr rfl (fun t ht hW => ⟨0, rfl, by simp [zi, m_there, p_tail, c_10, c_11, c_14, c_15, c_16], ht⟩) (fun _ h => nomatch h) dX3_isThere_55
set_option maxHeartbeats 4000000 in
set_option maxRecDepth 100000 in
theorem c_X3_pieceAt (l : Launch) (D : va_G) (cI cL cQ : ClassId) (h q1 : Nat) (fs : List Value) (hf2 : fs[2]? = some (.ref q1)) (cnt : Nat) (hf1 : fs[1]? = some (.int (nI cnt))) (hc : cnt ≤ 3) (pl : Nat → Int32) (x : Int32) : Met l yX3_pieceAt wsX3_pieceAt { frames := 0, cells := 0, slots := 0, locals := 0 } (va_Pc [.ref h, .int x] (pu_B D (ty3 cI cL cQ) [(h, .inr (3, fs)), (q1, .inl (cI, 3, .inl pl))])) (vp_Si (fun r => r = nI (m_cnt pl x cnt 4 0))) 0 0 (fun _ => False) := by
  refine Met.ofW (cc := cX3_pieceAt) (maxL := 3) (ret := (some .int)) (by decide) rfl ?_
  intro p e s m args below meth c s₁ B hml hv
  obtain ⟨rfl, hK, hP⟩ := hv
  have hx := B.exec
  have hb := B.bytes
  have hr := B.returns
  have hts := atoms_spec (ws := wsX3_pieceAt) B.pre
  have hg : ∀ w ∈ gw, w.before ([.ref h, .int x] : List Value).toArray s = true := fun w h => hts w (List.mem_cons_of_mem _ h)
  have hown : s.vm.findClass RX3 = some m.cls := findClass_of_methodNamed B.named
  have hlocks := B.notSynchronized
  have hl := lv_entry ([.ref h, .int x]) (n := 3) (Nat.le_of_ble_eq_true rfl)
  rw [lg_entry_eq]
  generalize (lg_sl ([.ref h, .int x]) ++ List.replicate (3 - (lg_sl ([.ref h, .int x])).length) Slot.unset).toArray = ls at hl ⊢
  have hl : lv_has ls 3 [(0, .ref h), (1, .int x)] := hl
  refine lv_iconst (v := 0) hx hb dX3_pieceAt_0 (by decide) ?_
  refine lv_istore_n (lv' := [(2, .int 0), (0, .ref h), (1, .int x)]) hx hb dX3_pieceAt_1 rfl hl (by decide) rfl (fun ls hl => ?_)
  have L2 : ∀ (n9 : Nat) (i : Nat), (i ≤ cnt) → (m_cnt pl x cnt (4 - i) i = m_cnt pl x cnt 4 0) → (cnt - i < n9) → ∀ (ls : Array Slot), lv_has ls 3 [(2, .int (nI i)), (0, .ref h), (1, .int x)] → W p l e (headSpec wsX3_pieceAt { frames := 0, cells := 0, slots := 0, locals := 0 }).room s m ([.ref h, .int x] : List Value).toArray below meth c s.heap [] 0 0 (MQ below (vp_Si (fun r => r = nI (m_cnt pl x cnt 4 0))) ([.ref h, .int x] : List Value).toArray s 0 0 (fun _ => False)) (F0 m 2 ls []) := by
    intro n9
    induction n9 with
    | zero => intro i hi hk h9; exact absurd h9 (by omega)
    | succ n9 ih =>
      intro i hi hk h9 ls hl
      refine lv_iload_n hx hb dX3_pieceAt_2 rfl (lv_at hl 0 rfl) ?_
      refine lv_aload_n hx hb dX3_pieceAt_3 rfl (lv_at hl 1 rfl) ?_
      refine va_get (D := D) (ci := 3) (v := .int (nI cnt)) (C := RX3) (T := TX3) (N := 13) hx hb hg inX3 hown hK hP 0 rfl rfl 1 (by decide) (hg _ fl_X3_32) (fun _ h9 => h9) hf1 dX3_pieceAt_4 ?_
      refine lv_icmp_ge (tgt := 28) hx hb dX3_pieceAt_7 (by decide) (fun c_1 => ?_) (fun c_1 => ?_)
      · replace c_1 : cnt ≤ i := (nI_leI (a := cnt) (b := i) (by omega) (by omega)).mp c_1
        refine lv_iload_n hx hb dX3_pieceAt_28 rfl (lv_at hl 0 rfl) ?_
        exact W.iret (v := nI i) hx hb hr (fun t ht hW => ⟨(nI i), rfl, by rw [← hk]; obtain ⟨j, hj⟩ : ∃ j, 4 - i = j + 1 := ⟨3 - i, by omega⟩; rw [hj, m_cnt, if_neg (fun h9 => absurd h9.1 (by omega))], ht⟩) (fun _ h => nomatch h) dX3_pieceAt_29
      · replace c_1 : ¬ cnt ≤ i := fun h => c_1 ((nI_leI (a := cnt) (b := i) (by omega) (by omega)).mpr h)
        refine lv_iconst (v := 2) hx hb dX3_pieceAt_10 (by decide) ?_
        refine lv_aload_n hx hb dX3_pieceAt_11 rfl (lv_at hl 1 rfl) ?_
        refine va_get (D := D) (ci := 3) (v := .ref q1) (C := RX3) (T := TX3) (N := 13) hx hb hg inX3 hown hK hP 0 rfl rfl 2 (by decide) (hg _ fl_X3_7) (fun _ h9 => h9) hf2 dX3_pieceAt_12 ?_
        refine lv_iload_n hx hb dX3_pieceAt_15 rfl (lv_at hl 0 rfl) ?_
        refine va_iald (D := D) (n := 3) (f := pl) hx hb hK hP 1 0 rfl rfl (vp_in_nI (show i < 3 by omega) (by decide)) dX3_pieceAt_16 ?_
        rw [nI_clamp (show i < 2 ^ 31 by omega)]
        refine lv_imul hx hb dX3_pieceAt_17 ?_
        refine lv_iload_n hx hb dX3_pieceAt_18 rfl (lv_at hl 2 rfl) ?_
        refine lv_icmp_ge (tgt := 28) hx hb dX3_pieceAt_19 (by decide) (fun c_2 => ?_) (fun c_2 => ?_)
        · refine lv_iload_n hx hb dX3_pieceAt_28 rfl (lv_at hl 0 rfl) ?_
          exact W.iret (v := nI i) hx hb hr (fun t ht hW => ⟨(nI i), rfl, by rw [← hk]; obtain ⟨j, hj⟩ : ∃ j, 4 - i = j + 1 := ⟨3 - i, by omega⟩; rw [hj, m_cnt, if_neg (fun h9 => absurd h9.2 (Int32.not_lt.mpr c_2))], ht⟩) (fun _ h => nomatch h) dX3_pieceAt_29
        · refine lv_iinc (v := nI (i + 1)) (lv' := [(2, .int (nI (i + 1))), (0, .ref h), (1, .int x)]) hx hb dX3_pieceAt_22 hl (k := 0) rfl (nI_1 i) (by decide) rfl (fun ls hl => ?_)
          refine lv_goto (tgt := 2) hx hb dX3_pieceAt_25 (by decide) ?_
          exact ih (i + 1) (by omega) (by rw [← hk]; obtain ⟨j, hj⟩ : ∃ j, 4 - i = j + 1 := ⟨3 - i, by omega⟩; rw [hj, show 4 - (i + 1) = j by omega, m_cnt, if_pos ⟨by omega, Int32.not_le.mp c_2⟩])  (by omega) ls (lv_sub hl [0, 1, 2] rfl)
  exact L2 ((cnt - 0) + 1) 0 (Nat.zero_le _) (rfl)  (Nat.lt_succ_self _) ls (lv_sub hl [0, 1, 2] rfl)
end
section
/-! worlds of any cells, by places: what a store leaves; the worlds of the class and of the reference -/
theorem st_at {ws : va_W} {p : Nat} {x : Nat × va_E} (h : ws[p]? = some x) (y : Nat × va_E) : (ws.set p y)[p]? = some y := by
  have hp : p < ws.length := (List.getElem?_eq_some_iff.mp h).1
  simp [hp]
theorem st_ne {ws : va_W} {p q : Nat} {x y : Nat × va_E} (h : ws[q]? = some x) (hpq : p ≠ q) : (ws.set p y)[q]? = some x := by
  rw [List.getElem?_set_ne hpq]; exact h
theorem pc_cg {cA : ClassId} {n : Nat} {f g : Nat → Int32} (h : ∀ j, j < n → f j = g j) : vp_cell cA (n, .inl f) = vp_cell cA (n, .inl g) := by
  rw [vp_cell_i, vp_cell_i, arrV, arrV]
  congr 1
  apply Array.ext_getElem?
  intro j
  rcases Nat.lt_or_ge j n with hj | hj
  · simp [hj, h j hj]
  · simp [hj]
theorem va_P.cg {D : va_G} {cl : List vw_C} {ws : va_W} {H : Heap} {p a n : Nat} {cA : ClassId} {f g : Nat → Int32} (hP : va_P D cl ws H) (hp : ws[p]? = some (a, .inl (cA, n, .inl f))) (h : ∀ j, j < n → f j = g j) : va_P D cl (ws.set p (a, .inl (cA, n, .inl g))) H := by
  intro k q hk
  have hl : p < ws.length := (List.getElem?_eq_some_iff.mp hp).1
  by_cases e : p = k
  · subst e
    rw [st_at hp] at hk
    cases hk
    have h1 := hP p _ hp
    show H[a]? = some (vp_cell cA (n, .inl g))
    rw [← pc_cg h]
    exact h1
  · rw [List.getElem?_set_ne e] at hk
    exact hP k q hk
/-- the class's cells: the object, places, the row of pieces, the sum, its logarithms, the pieces each with its numbers -/
abbrev xw (cI cQ : ClassId) (a : Nat → Nat) (pl : Nat → Int32) (pq nq : Nat → Nat) (nm : Nat → Nat → Int32) (ab : Int64) (lg : Nat → Int32) (cnt kn : Int32) : va_W :=
  [(a 0, .inr (2, [.ref (a 1), .ref (a 2), .ref (a 3), .int cnt, .int kn])), (a 1, .inl (cI, 3, .inl pl)), (a 2, .inl (cQ, 4, .inr (.inr (.inr (.inr (fun j => some (pq j))))))), (a 3, .inr (1, [.long ab, .ref (a 4)])), (a 4, .inl (cI, 5, .inl lg)),
    (pq 0, .inr (0, [.ref (nq 0)])), (nq 0, .inl (cI, 8, .inl (nm 0))), (pq 1, .inr (0, [.ref (nq 1)])), (nq 1, .inl (cI, 8, .inl (nm 1))), (pq 2, .inr (0, [.ref (nq 2)])), (nq 2, .inl (cI, 8, .inl (nm 2))), (pq 3, .inr (0, [.ref (nq 3)])), (nq 3, .inl (cI, 8, .inl (nm 3)))]
theorem xw_p {cI cQ : ClassId} {a : Nat → Nat} {pl : Nat → Int32} {pq nq : Nat → Nat} {nm : Nat → Nat → Int32} {ab : Int64} {lg : Nat → Int32} {cnt kn : Int32} {fr : va_W} {k : Nat} (hk : k < 4) : (xw cI cQ a pl pq nq nm ab lg cnt kn ++ fr)[5 + 2 * k]? = some (pq k, .inr (0, [.ref (nq k)])) := by
  rcases (show k = 0 ∨ k = 1 ∨ k = 2 ∨ k = 3 by omega) with rfl | rfl | rfl | rfl <;> rfl
theorem xw_n {cI cQ : ClassId} {a : Nat → Nat} {pl : Nat → Int32} {pq nq : Nat → Nat} {nm : Nat → Nat → Int32} {ab : Int64} {lg : Nat → Int32} {cnt kn : Int32} {fr : va_W} {k : Nat} (hk : k < 4) : (xw cI cQ a pl pq nq nm ab lg cnt kn ++ fr)[6 + 2 * k]? = some (nq k, .inl (cI, 8, .inl (nm k))) := by
  rcases (show k = 0 ∨ k = 1 ∨ k = 2 ∨ k = 3 by omega) with rfl | rfl | rfl | rfl <;> rfl
theorem xw_s {cI cQ : ClassId} {a : Nat → Nat} {pl : Nat → Int32} {pq nq : Nat → Nat} {nm : Nat → Nat → Int32} {ab : Int64} {lg : Nat → Int32} {cnt kn : Int32} {fr : va_W} {k : Nat} {g : Nat → Int32} (hk : k < 4) : (xw cI cQ a pl pq nq nm ab lg cnt kn ++ fr).set (6 + 2 * k) (nq k, .inl (cI, 8, .inl g)) = xw cI cQ a pl pq nq (va_up nm k g) ab lg cnt kn ++ fr := by
  rcases (show k = 0 ∨ k = 1 ∨ k = 2 ∨ k = 3 by omega) with rfl | rfl | rfl | rfl <;> rfl
/-- the reference's cells -/
abbrev mw (cI : ClassId) (b : Nat → Nat) (cod cu : Int32) (pl nm od op : Nat → Int32) (kn : Int32) (kU kD : Int64) (kl : Nat → Int32) (up dn : Int64) (lg : Nat → Int32) : va_W :=
  [(b 0, .inr (3, [.int cod, .int cu, .ref (b 1), .ref (b 2), .ref (b 3), .ref (b 4), .int kn, .long kU, .long kD, .ref (b 5), .long up, .long dn, .ref (b 6)])), (b 1, .inl (cI, 3, .inl pl)), (b 2, .inl (cI, 32, .inl nm)), (b 3, .inl (cI, 32, .inl od)), (b 4, .inl (cI, 3, .inl op)), (b 5, .inl (cI, 5, .inl kl)), (b 6, .inl (cI, 5, .inl lg))]
theorem st_id {ws : va_W} {p : Nat} {x : Nat × va_E} (h : ws[p]? = some x) : ws.set p x = ws := by
  apply List.ext_getElem?
  intro k
  by_cases e : p = k
  · subst e; rw [st_at h, h]
  · rw [List.getElem?_set_ne e]
theorem zi_fit (b : Bool) : fits .boolean (.int (zi b)) = true := by cases b <;> rfl
theorem gp_blind {A : Nat → Prop} {D : va_G} {tys : List (ClassId × FieldType)} {ws : va_W} {av : List Value} : FrameBlind (va_Pc av (fun U => gl_G A U U.heap ∧ pu_B D tys ws U)) := fun _ U _ _ q => ⟨q.1, q.2.1.call, va_K.moved (Vm.Alike.refl U.vm) q.2.2.1, q.2.2.2⟩
end
section
set_option maxHeartbeats 4000000 in
set_option maxRecDepth 100000 in
theorem c_J7_fill (l : Launch) (A : Nat → Prop) (D : va_G) (cI cL cQ : ClassId) (ws : va_W) (p0 a n : Nat) (hn : n < 1000) (f : Nat → Int32) (v : Int32) (h1 : ws[p0]? = some (a, .inl (cI, n, .inl f))) : Met l yJ7_fill wsJ7_fill { frames := 0, cells := 0, slots := 0, locals := 0 } (va_Pc [.ref a, .int v] (wd_B D (ty3 cI cL cQ) A (ws))) (va_Qv (fun _ : Unit => True) (fun _ t => wd_E D (ty3 cI cL cQ) A (ws.set p0 (a, .inl (cI, n, .inl (fun _ => v)))) t) A) 0 0 A := by
  refine Met.ofW (cc := cJ7_fill) (maxL := 4) (ret := none) (by decide) rfl ?_
  intro p e s m args below meth c s₁ B hml hv
  obtain ⟨rfl, hG, hK, hP, hD, hA⟩ := hv
  have hx := B.exec
  have hb := B.bytes
  have hr := B.returns
  have hts := atoms_spec (ws := wsJ7_fill) B.pre
  have hg : ∀ w ∈ gw, w.before ([.ref a, .int v] : List Value).toArray s = true := fun w h => hts w (List.mem_cons_of_mem _ h)
  have hown : s.vm.findClass RJ7 = some m.cls := findClass_of_methodNamed B.named
  have hlocks := B.notSynchronized
  have hS : va_S A s.heap s.heap [] := va_S.rf
  have hl := lv_entry ([.ref a, .int v]) (n := 4) (Nat.le_of_ble_eq_true rfl)
  rw [lg_entry_eq]
  generalize (lg_sl ([.ref a, .int v]) ++ List.replicate (4 - (lg_sl ([.ref a, .int v])).length) Slot.unset).toArray = ls at hl ⊢
  have hl : lv_has ls 4 [(0, .ref a), (1, .int v)] := hl
  refine lv_iconst (v := 0) hx hb dJ7_fill_0 (by decide) ?_
  refine lv_istore_n (lv' := [(2, .int 0), (0, .ref a), (1, .int v)]) hx hb dJ7_fill_1 rfl hl (by decide) rfl (fun ls hl => ?_)
  refine lv_aload_n hx hb dJ7_fill_2 rfl (lv_at hl 1 rfl) ?_
  refine va_alen (D := D) (v := nI n) hx hb hK hP p0 0 h1 rfl rfl dJ7_fill_3 ?_
  refine lv_istore_n (lv' := [(3, .int (nI n)), (2, .int 0), (0, .ref a), (1, .int v)]) hx hb dJ7_fill_4 rfl hl (by decide) rfl (fun ls hl => ?_)
  rw [← st_id h1] at hP hD
  have L5 : ∀ (n9 : Nat) (i : Nat) (g : Nat → Int32) (H : Heap) (locs : List Loc), (i ≤ n) → (∀ j, j < i → g j = v) → va_P D vwCl (ws.set p0 (a, .inl (cI, n, .inl g))) H → va_D A (ws.set p0 (a, .inl (cI, n, .inl g))) → va_S A s.heap H locs → (n - i < n9) → ∀ (ls : Array Slot), lv_has ls 4 [(2, .int (nI i)), (3, .int (nI n)), (0, .ref a), (1, .int v)] → W p l e (headSpec wsJ7_fill { frames := 0, cells := 0, slots := 0, locals := 0 }).room s m ([.ref a, .int v] : List Value).toArray below meth c H locs 0 0 (MQ below (va_Qv (fun _ : Unit => True) (fun _ t => wd_E D (ty3 cI cL cQ) A (ws.set p0 (a, .inl (cI, n, .inl (fun _ => v)))) t) A) ([.ref a, .int v] : List Value).toArray s 0 0 A) (F0 m 5 ls []) := by
    clear hP hD hS
    intro n9
    induction n9 with
    | zero => intro i g H locs hi hgv hP hD hS h9; exact absurd h9 (by omega)
    | succ n9 ih =>
      intro i g H locs hi hgv hP hD hS h9 ls hl
      refine lv_iload_n hx hb dJ7_fill_5 rfl (lv_at hl 0 rfl) ?_
      refine lv_iload_n hx hb dJ7_fill_6 rfl (lv_at hl 1 rfl) ?_
      refine lv_icmp_ge (tgt := 20) hx hb dJ7_fill_7 (by decide) (fun c_1 => ?_) (fun c_1 => ?_)
      · replace c_1 : n ≤ i := (nI_leI (a := n) (b := i) (by omega) (by omega)).mp c_1
        have hP := hP.cg (g := fun _ => v) (st_at h1 _) (fun j hj => hgv j (by omega))
        rw [List.set_set] at hP
        have hD : va_D A (ws.set p0 (a, .inl (cI, n, .inl (fun _ => v)))) := by
          have hD2 := hD.set (e := .inl (cI, n, .inl (fun _ => v))) (st_at h1 _)
          rw [List.set_set] at hD2; exact hD2
        exact W.vret hx hb hr (fun t ht hW => ⟨⟨(), rfl, trivial, wd_E.at hK hP hD ht hW⟩, hS.F ht⟩) hS.2.2 dJ7_fill_20
      · replace c_1 : ¬ n ≤ i := fun h => c_1 ((nI_leI (a := n) (b := i) (by omega) (by omega)).mpr h)
        refine lv_aload_n hx hb dJ7_fill_10 rfl (lv_at hl 2 rfl) ?_
        refine lv_iload_n hx hb dJ7_fill_11 rfl (lv_at hl 0 rfl) ?_
        refine lv_iload_n hx hb dJ7_fill_12 rfl (lv_at hl 3 rfl) ?_
        refine va_iast (D := D) (n := n) (f := g) (x := v) hx hb hK hP hD hS p0 0 (st_at h1 _) rfl (vp_in_nI (show i < n by omega) (by omega)) dJ7_fill_13 (fun H locs hP hD hS => ?_)
        rw [nI_clamp (show i < 2 ^ 31 by omega)] at hP hD
        rw [List.set_set] at hP hD
        have hP : va_P D vwCl (ws.set p0 (a, .inl (cI, n, .inl (upd g i v)))) H := hP
        have hD : va_D A (ws.set p0 (a, .inl (cI, n, .inl (upd g i v)))) := hD
        refine lv_iinc (v := nI (i + 1)) (lv' := [(2, .int (nI (i + 1))), (3, .int (nI n)), (0, .ref a), (1, .int v)]) hx hb dJ7_fill_14 hl (k := 0) rfl (nI_1 i) (by decide) rfl (fun ls hl => ?_)
        refine lv_goto (tgt := 5) hx hb dJ7_fill_17 (by decide) ?_
        exact ih (i + 1) (upd g i v) _ _ (by omega) (fun j hj => by unfold upd; split; rfl; exact hgv j (by omega)) hP hD hS (by omega) ls (lv_sub hl [0, 1, 2, 3] rfl)
  exact L5 ((n - 0) + 1) 0 f _ _ (Nat.zero_le _) (fun j hj => absurd hj (Nat.not_lt_zero j)) hP hD hS (Nat.lt_succ_self _) ls (lv_sub hl [1, 0, 2, 3] rfl)
set_option maxHeartbeats 4000000 in
set_option maxRecDepth 100000 in
theorem c_X0_wipe (l : Launch) (A : Nat → Prop) (D : va_G) (cI cL cQ : ClassId) (ws : va_W) (p1 p2 h n : Nat) (f : Nat → Int32) (h1 : ws[p1]? = some (h, .inr (0, [.ref n]))) (h2 : ws[p2]? = some (n, .inl (cI, 8, .inl f))) : Met l yX0_wipe wsX0_wipe { frames := 1, cells := 0, slots := 0, locals := 23 } (va_Pc [.ref h] (wd_B D (ty3 cI cL cQ) A (ws))) (va_Qv (fun _ : Unit => True) (fun _ t => wd_E D (ty3 cI cL cQ) A (ws.set p2 (n, .inl (cI, 8, .inl (fun _ => 0)))) t) A) 0 0 A := by
  refine Met.ofW (cc := cX0_wipe) (maxL := 1) (ret := none) (by decide) rfl ?_
  intro p e s m args below meth c s₁ B hml hv
  obtain ⟨rfl, hG, hK, hP, hD, hA⟩ := hv
  have hx := B.exec
  have hb := B.bytes
  have hr := B.returns
  have hts := atoms_spec (ws := wsX0_wipe) B.pre
  have hg : ∀ w ∈ gw, w.before ([.ref h] : List Value).toArray s = true := fun w h => hts w (List.mem_cons_of_mem _ h)
  have hown : s.vm.findClass RX0 = some m.cls := findClass_of_methodNamed B.named
  have hlocks := B.notSynchronized
  have hS : va_S A s.heap s.heap [] := va_S.rf
  have hl := lv_entry ([.ref h]) (n := 1) (Nat.le_of_ble_eq_true rfl)
  rw [lg_entry_eq]
  generalize (lg_sl ([.ref h]) ++ List.replicate (1 - (lg_sl ([.ref h])).length) Slot.unset).toArray = ls at hl ⊢
  have hl : lv_has ls 1 [(0, .ref h)] := hl
  refine lv_aload_n hx hb dX0_wipe_0 rfl (lv_at hl 0 rfl) ?_
  refine va_get (D := D) (ci := 0) (v := .ref n) (C := RX0) (T := TX0) (N := 1) hx hb hg inX0 hown hK hP p1 h1 rfl 0 (by decide) (hg _ fl_X0_9) (fun _ h9 => h9) rfl dX0_wipe_1 ?_
  refine lv_iconst (v := 0) hx hb dX0_wipe_4 (by decide) ?_
  refine va_callv (va_runS (As := [.ref n, .int 0]) (rest := []) ⟨hx, hb, hml, hown, hg⟩ (c_J7_fill l A D cI cL cQ ws p2 n 8 (by decide) f 0 h2) (va_cwS 2 hg (gw_S ml_X0_15 sm_J7_fill ini_J7 co_J7_fill) rfl rfl rfl (by decide +kernel) ⟨Nat.le_of_ble_eq_true rfl, Nat.le_of_ble_eq_true rfl⟩) ⟨wd_B.blind, (fun U hU hW => ⟨rfl, wd_B.at hG hK hP hD hS hA hU hW⟩)⟩ rfl rfl hl.1 rfl (lv_room (Nat.le_of_ble_eq_true rfl)) dX0_wipe_5 ⟨Nat.le_of_ble_eq_true rfl, Nat.le_of_ble_eq_true rfl⟩) hS (fun q _ h => h) (fun q h => h) (fun u t H1 locs ht hvm hr_1 hB hz1 hk1 hS => ?_)
  obtain ⟨hK, hP, hD⟩ := hB.back ht hvm
  generalize H1 = H at hP hS ⊢
  have hP : va_P D vwCl (ws.set p2 (n, .inl (cI, 8, .inl (fun _ => 0)))) H := hP
  have hD : va_D A (ws.set p2 (n, .inl (cI, 8, .inl (fun _ => 0)))) := hD
  exact W.vret hx hb hr (fun t ht hW => ⟨⟨(), rfl, trivial, wd_E.at hK hP hD ht hW⟩, hS.F ht⟩) hS.2.2 dX0_wipe_8
set_option maxHeartbeats 4000000 in
set_option maxRecDepth 100000 in
theorem c_X0_become (l : Launch) (A : Nat → Prop) (D : va_G) (cI cL cQ : ClassId) (ws : va_W) (p1 p2 h n : Nat) (f : Nat → Int32) (h1 : ws[p1]? = some (h, .inr (0, [.ref n]))) (h2 : ws[p2]? = some (n, .inl (cI, 8, .inl f))) (p3 p4 hb2 n2 : Nat) (g : Nat → Int32) (h3 : ws[p3]? = some (hb2, .inr (0, [.ref n2]))) (h4 : ws[p4]? = some (n2, .inl (cI, 8, .inl g))) : Met l yX0_become wsX0_become { frames := 1, cells := 0, slots := 0, locals := 18 } (va_Pc [.ref h, .ref hb2] (wd_B D (ty3 cI cL cQ) A (ws))) (va_Qv (fun _ : Unit => True) (fun _ t => wd_E D (ty3 cI cL cQ) A (ws.set p2 (n, .inl (cI, 8, .inl g))) t) A) 0 0 A := by
  refine Met.ofW (cc := cX0_become) (maxL := 2) (ret := none) (by decide) rfl ?_
  intro p e s m args below meth c s₁ B hml hv
  obtain ⟨rfl, hG, hK, hP, hD, hA⟩ := hv
  have hx := B.exec
  have hb := B.bytes
  have hr := B.returns
  have hts := atoms_spec (ws := wsX0_become) B.pre
  have hg : ∀ w ∈ gw, w.before ([.ref h, .ref hb2] : List Value).toArray s = true := fun w h => hts w (List.mem_cons_of_mem _ h)
  have hown : s.vm.findClass RX0 = some m.cls := findClass_of_methodNamed B.named
  have hlocks := B.notSynchronized
  have hS : va_S A s.heap s.heap [] := va_S.rf
  have hl := lv_entry ([.ref h, .ref hb2]) (n := 2) (Nat.le_of_ble_eq_true rfl)
  rw [lg_entry_eq]
  generalize (lg_sl ([.ref h, .ref hb2]) ++ List.replicate (2 - (lg_sl ([.ref h, .ref hb2])).length) Slot.unset).toArray = ls at hl ⊢
  have hl : lv_has ls 2 [(0, .ref h), (1, .ref hb2)] := hl
  refine lv_aload_n hx hb dX0_become_0 rfl (lv_at hl 1 rfl) ?_
  refine va_get (D := D) (ci := 0) (v := .ref n2) (C := RX0) (T := TX0) (N := 1) hx hb hg inX0 hown hK hP p3 h3 rfl 0 (by decide) (hg _ fl_X0_9) (fun _ h9 => h9) rfl dX0_become_1 ?_
  refine lv_iconst (v := 0) hx hb dX0_become_4 (by decide) ?_
  refine lv_aload_n hx hb dX0_become_5 rfl (lv_at hl 0 rfl) ?_
  refine va_get (D := D) (ci := 0) (v := .ref n) (C := RX0) (T := TX0) (N := 1) hx hb hg inX0 hown hK hP p1 h1 rfl 0 (by decide) (hg _ fl_X0_9) (fun _ h9 => h9) rfl dX0_become_6 ?_
  refine lv_iconst (v := 0) hx hb dX0_become_9 (by decide) ?_
  refine lv_bipush (v := 8) hx hb dX0_become_10 (by decide) ?_
  refine va_copyi (D := D) (n0 := 8) (n1 := 8) (f := g) (g := f) (ty := .int) hx hb (by rw [hml]; exact hl.1.symm) hown (hg _ ml_X0_21) (hg _ na_arraycopy) (hg _ sm_arraycopy) (hg _ ini_J10) hK hP hD hS p4 p2 0 0 h4 h2 rfl rfl rfl (by decide) (by decide) (by decide) (by decide) (by decide) (fun i _ => rfl) (Nat.le_of_ble_eq_true rfl) (Nat.le_of_ble_eq_true rfl) dX0_become_12 (fun H locs hP hD hS => ?_)
  rw [show (0 : Int32).toNatClampNeg = 0 from by decide, show (8 : Int32).toNatClampNeg = 8 from by decide] at hP hD
  have hP := hP.cg (g := g) (st_at h2 _) (fun j hj => by rw [pk_cpy_in (Nat.zero_le j) (by omega)]; congr 1; omega)
  have hD := hD.set (e := .inl (cI, 8, .inl g)) (st_at h2 _)
  rw [List.set_set] at hP hD
  exact W.vret hx hb hr (fun t ht hW => ⟨⟨(), rfl, trivial, wd_E.at hK hP hD ht hW⟩, hS.F ht⟩) hS.2.2 dX0_become_15
set_option maxHeartbeats 4000000 in
set_option maxRecDepth 100000 in
theorem c_X0_turnRound (l : Launch) (A : Nat → Prop) (D : va_G) (cI cL cQ : ClassId) (ws : va_W) (p1 p2 h n : Nat) (f : Nat → Int32) (h1 : ws[p1]? = some (h, .inr (0, [.ref n]))) (h2 : ws[p2]? = some (n, .inl (cI, 8, .inl f))) : Met l yX0_turnRound wsX0_turnRound { frames := 0, cells := 0, slots := 0, locals := 0 } (va_Pc [.ref h] (wd_B D (ty3 cI cL cQ) A (ws))) (va_Qv (fun _ : Unit => True) (fun _ t => wd_E D (ty3 cI cL cQ) A (ws.set p2 (n, .inl (cI, 8, .inl (fun j => f j * gl_sign j)))) t) A) 0 0 A := by
  refine Met.ofW (cc := cX0_turnRound) (maxL := 2) (ret := none) (by decide) rfl ?_
  intro p e s m args below meth c s₁ B hml hv
  obtain ⟨rfl, hG, hK, hP, hD, hA⟩ := hv
  have hx := B.exec
  have hb := B.bytes
  have hr := B.returns
  have hts := atoms_spec (ws := wsX0_turnRound) B.pre
  have hg : ∀ w ∈ gw, w.before ([.ref h] : List Value).toArray s = true := fun w h => hts w (List.mem_cons_of_mem _ h)
  have hown : s.vm.findClass RX0 = some m.cls := findClass_of_methodNamed B.named
  have hlocks := B.notSynchronized
  have hS : va_S A s.heap s.heap [] := va_S.rf
  have hl := lv_entry ([.ref h]) (n := 2) (Nat.le_of_ble_eq_true rfl)
  rw [lg_entry_eq]
  generalize (lg_sl ([.ref h]) ++ List.replicate (2 - (lg_sl ([.ref h])).length) Slot.unset).toArray = ls at hl ⊢
  have hl : lv_has ls 2 [(0, .ref h)] := hl
  obtain ⟨tM, hzM, htM⟩ := hG.2.2.1
  have hne : p2 ≠ p1 := fun e => by rw [e, h1] at h2; cases h2
  refine lv_iconst (v := 0) hx hb dX0_turnRound_0 (by decide) ?_
  refine lv_istore_n (lv' := [(1, .int 0), (0, .ref h)]) hx hb dX0_turnRound_1 rfl hl (by decide) rfl (fun ls hl => ?_)
  rw [← st_id h2] at hP hD
  have L2 : ∀ (n9 : Nat) (i : Nat) (g : Nat → Int32) (H : Heap) (locs : List Loc), (i ≤ 8) → (∀ j, j < 8 → g j = if j < i then f j * gl_sign j else f j) → va_P D vwCl (ws.set p2 (n, .inl (cI, 8, .inl g))) H → va_D A (ws.set p2 (n, .inl (cI, 8, .inl g))) → va_S A s.heap H locs → (8 - i < n9) → ∀ (ls : Array Slot), lv_has ls 2 [(1, .int (nI i)), (0, .ref h)] → W p l e (headSpec wsX0_turnRound { frames := 0, cells := 0, slots := 0, locals := 0 }).room s m ([.ref h] : List Value).toArray below meth c H locs 0 0 (MQ below (va_Qv (fun _ : Unit => True) (fun _ t => wd_E D (ty3 cI cL cQ) A (ws.set p2 (n, .inl (cI, 8, .inl (fun j => f j * gl_sign j)))) t) A) ([.ref h] : List Value).toArray s 0 0 A) (F0 m 2 ls []) := by
    clear hP hD hS
    intro n9
    induction n9 with
    | zero => intro i g H locs hi hgv hP hD hS h9; exact absurd h9 (by omega)
    | succ n9 ih =>
      intro i g H locs hi hgv hP hD hS h9 ls hl
      refine lv_iload_n hx hb dX0_turnRound_2 rfl (lv_at hl 0 rfl) ?_
      refine lv_bipush (v := 8) hx hb dX0_turnRound_3 (by decide) ?_
      refine lv_icmp_ge (tgt := 28) hx hb dX0_turnRound_5 (by decide) (fun c_1 => ?_) (fun c_1 => ?_)
      · replace c_1 : 8 ≤ i := (nI_leI (a := 8) (b := i) (by omega) (by omega)).mp c_1
        have hP := hP.cg (g := fun j => f j * gl_sign j) (st_at h2 _) (fun j hj => by rw [hgv j hj, if_pos (by omega)])
        have hD := hD.set (e := .inl (cI, 8, .inl (fun j => f j * gl_sign j))) (st_at h2 _)
        rw [List.set_set] at hP hD
        exact W.vret hx hb hr (fun t ht hW => ⟨⟨(), rfl, trivial, wd_E.at hK hP hD ht hW⟩, hS.F ht⟩) hS.2.2 dX0_turnRound_28
      · replace c_1 : ¬ 8 ≤ i := fun h => c_1 ((nI_leI (a := 8) (b := i) (by omega) (by omega)).mpr h)
        refine lv_aload_n hx hb dX0_turnRound_8 rfl (lv_at hl 1 rfl) ?_
        refine va_get (D := D) (ci := 0) (v := .ref n) (C := RX0) (T := TX0) (N := 1) hx hb hg inX0 hown hK hP p1 (st_ne h1 (by assumption)) rfl 0 (by decide) (hg _ fl_X0_9) (fun _ h9 => h9) rfl dX0_turnRound_9 ?_
        refine lv_iload_n hx hb dX0_turnRound_12 rfl (lv_at hl 0 rfl) ?_
        refine lv_dup2_11 hx hb dX0_turnRound_13 rfl rfl ?_
        refine va_iald (D := D) (n := 8) (f := g) hx hb hK hP p2 0 (st_at h2 _) rfl (vp_in_nI (show i < 8 by omega) (by decide)) dX0_turnRound_14 ?_
        rw [nI_clamp (show i < 2 ^ 31 by omega)]
        refine va_getsN (C := RX2) (n := "MIRROR_SIGNS") (d := "[I") (v := .ref tM) hx hb hzM hS hown (hG.nest fn_X0_27) (fun _ h9 => h9) dX0_turnRound_15 ?_
        refine lv_iload_n hx hb dX0_turnRound_18 rfl (lv_at hl 0 rfl) ?_
        refine va_ti (N := 8) (v := .int (gl_sign i)) hx hb htM hS (vp_in_nI (show i < 8 by omega) (by decide)) (by rw [nI_clamp (show i < 2 ^ 31 by omega)]) dX0_turnRound_19 ?_
        refine lv_imul hx hb dX0_turnRound_20 ?_
        refine lv_topi (fun v_2 ev_2 => ?_)
        refine va_iast (D := D) (n := 8) (f := g) (x := v_2) hx hb hK hP hD hS p2 0 (st_at h2 _) rfl (vp_in_nI (show i < 8 by omega) (by decide)) dX0_turnRound_21 (fun H locs hP hD hS => ?_)
        rw [nI_clamp (show i < 2 ^ 31 by omega)] at hP hD
        rw [List.set_set] at hP hD
        have hP : va_P D vwCl (ws.set p2 (n, .inl (cI, 8, .inl (upd g i v_2)))) H := hP
        have hD : va_D A (ws.set p2 (n, .inl (cI, 8, .inl (upd g i v_2)))) := hD
        refine lv_iinc (v := nI (i + 1)) (lv' := [(1, .int (nI (i + 1))), (0, .ref h)]) hx hb dX0_turnRound_22 hl (k := 0) rfl (nI_1 i) (by decide) rfl (fun ls hl => ?_)
        refine lv_goto (tgt := 2) hx hb dX0_turnRound_25 (by decide) ?_
        exact ih (i + 1) (upd g i v_2) _ _ (by omega) (fun j hj => by unfold upd; by_cases e : j = i; (subst e; rw [if_pos rfl, if_pos (by omega), ev_2, hgv j hj, if_neg (by omega)]); (rw [if_neg e, hgv j hj]; by_cases e2 : j < i; (rw [if_pos e2, if_pos (by omega)]); (rw [if_neg e2, if_neg (by omega)]))) hP hD hS (by omega) ls (lv_sub hl [0, 1] rfl)
  exact L2 ((8 - 0) + 1) 0 f _ _ (Nat.zero_le _) (fun j hj => by rw [if_neg (by omega)]) hP hD hS (Nat.lt_succ_self _) ls (lv_sub hl [0, 1] rfl)
end
section
set_option maxHeartbeats 4000000 in
set_option maxRecDepth 100000 in
theorem c_X1_wipe (l : Launch) (A : Nat → Prop) (D : va_G) (cI cL cQ : ClassId) (ws : va_W) (p1 p2 h g1 : Nat) (ab : Int64) (lg : Nat → Int32) (h1 : ws[p1]? = some (h, .inr (1, [.long ab, .ref g1]))) (h2 : ws[p2]? = some (g1, .inl (cI, 5, .inl lg))) : Met l yX1_wipe wsX1_wipe { frames := 1, cells := 0, slots := 0, locals := 23 } (va_Pc [.ref h] (wd_B D (ty3 cI cL cQ) A (ws))) (va_Qv (fun _ : Unit => True) (fun _ t => wd_E D (ty3 cI cL cQ) A ((ws.set p1 (h, .inr (1, [.long 0, .ref g1]))).set p2 (g1, .inl (cI, 5, .inl (fun _ => 0)))) t) A) 0 0 A := by
  refine Met.ofW (cc := cX1_wipe) (maxL := 1) (ret := none) (by decide) rfl ?_
  intro p e s m args below meth c s₁ B hml hv
  obtain ⟨rfl, hG, hK, hP, hD, hA⟩ := hv
  have hx := B.exec
  have hb := B.bytes
  have hr := B.returns
  have hts := atoms_spec (ws := wsX1_wipe) B.pre
  have hg : ∀ w ∈ gw, w.before ([.ref h] : List Value).toArray s = true := fun w h => hts w (List.mem_cons_of_mem _ h)
  have hown : s.vm.findClass RX1 = some m.cls := findClass_of_methodNamed B.named
  have hlocks := B.notSynchronized
  have hS : va_S A s.heap s.heap [] := va_S.rf
  have hl := lv_entry ([.ref h]) (n := 1) (Nat.le_of_ble_eq_true rfl)
  rw [lg_entry_eq]
  generalize (lg_sl ([.ref h]) ++ List.replicate (1 - (lg_sl ([.ref h])).length) Slot.unset).toArray = ls at hl ⊢
  have hl : lv_has ls 1 [(0, .ref h)] := hl
  have hne12 : p1 ≠ p2 := fun e => by rw [e, h2] at h1; cases h1
  have hne21 : p2 ≠ p1 := fun e => hne12 e.symm
  refine lv_aload_n hx hb dX1_wipe_0 rfl (lv_at hl 0 rfl) ?_
  refine lv_lconst (v := 0) hx hb dX1_wipe_1 (by decide) ?_
  refine va_put (D := D) (ci := 1) (v := .long 0) (ty := .long) (C := RX1) (T := TX1) (N := 2) hx hb hg inX1 tyX1 tyX1_ok nmX1 hown hK hP hD hS p1 h1 rfl 0 (by decide) (hg _ fl_X1_9) (fun _ h9 => h9) rfl (by decide +kernel) rfl rfl (Nat.le_of_ble_eq_true rfl) dX1_wipe_2 (fun H locs hP hD hS => ?_)
  have hP : va_P D vwCl (ws.set p1 (h, .inr (1, [.long 0, .ref g1]))) H := hP
  have hD : va_D A (ws.set p1 (h, .inr (1, [.long 0, .ref g1]))) := hD
  refine lv_aload_n hx hb dX1_wipe_5 rfl (lv_at hl 0 rfl) ?_
  refine va_get (D := D) (ci := 1) (v := .ref g1) (C := RX1) (T := TX1) (N := 2) hx hb hg inX1 hown hK hP p1 (st_at h1 _) rfl 1 (by decide) (hg _ fl_X1_19) (fun _ h9 => h9) rfl dX1_wipe_6 ?_
  refine lv_iconst (v := 0) hx hb dX1_wipe_9 (by decide) ?_
  refine va_callv (va_runS (As := [.ref g1, .int 0]) (rest := []) ⟨hx, hb, hml, hown, hg⟩ (c_J7_fill l A D cI cL cQ (ws.set p1 (h, .inr (1, [.long 0, .ref g1]))) p2 g1 5 (by decide) lg 0 (st_ne h2 hne12)) (va_cwS 2 hg (gw_S ml_X1_22 sm_J7_fill ini_J7 co_J7_fill) rfl rfl rfl (by decide +kernel) ⟨Nat.le_of_ble_eq_true rfl, Nat.le_of_ble_eq_true rfl⟩) ⟨wd_B.blind, (fun U hU hW => ⟨rfl, wd_B.at hG hK hP hD hS hA hU hW⟩)⟩ rfl rfl hl.1 rfl (lv_room (Nat.le_of_ble_eq_true rfl)) dX1_wipe_10 ⟨Nat.le_of_ble_eq_true rfl, Nat.le_of_ble_eq_true rfl⟩) hS (fun q _ h => h) (fun q h => h) (fun u t H1 locs ht hvm hr_1 hB hz1 hk1 hS => ?_)
  obtain ⟨hK, hP, hD⟩ := hB.back ht hvm
  generalize H1 = H at hP hS ⊢
  have hP : va_P D vwCl ((ws.set p1 (h, .inr (1, [.long 0, .ref g1]))).set p2 (g1, .inl (cI, 5, .inl (fun _ => 0)))) H := hP
  have hD : va_D A ((ws.set p1 (h, .inr (1, [.long 0, .ref g1]))).set p2 (g1, .inl (cI, 5, .inl (fun _ => 0)))) := hD
  exact W.vret hx hb hr (fun t ht hW => ⟨⟨(), rfl, trivial, wd_E.at hK hP hD ht hW⟩, hS.F ht⟩) hS.2.2 dX1_wipe_13
set_option maxHeartbeats 4000000 in
set_option maxRecDepth 100000 in
theorem c_X1_addLogarithm (l : Launch) (A : Nat → Prop) (D : va_G) (cI cL cQ : ClassId) (ws : va_W) (p1 p2 h g1 : Nat) (ab : Int64) (lg : Nat → Int32) (h1 : ws[p1]? = some (h, .inr (1, [.long ab, .ref g1]))) (h2 : ws[p2]? = some (g1, .inl (cI, 5, .inl lg))) (n o : Int32) : Met l yX1_addLogarithm wsX1_addLogarithm { frames := 1, cells := 0, slots := 0, locals := 23 } (va_Pc [.ref h, .int n, .int o] (wd_B D (ty3 cI cL cQ) A (ws))) (va_Qv (fun _ : Unit => True) (fun _ t => wd_E D (ty3 cI cL cQ) A (ws.set p2 (g1, .inl (cI, 5, .inl (fun j => lg j + o * nI (x_ti (gl_prime j) 3 n))))) t) A) 0 0 A := by
  refine Met.ofW (cc := cX1_addLogarithm) (maxL := 4) (ret := none) (by decide) rfl ?_
  intro p e s m args below meth c s₁ B hml hv
  obtain ⟨rfl, hG, hK, hP, hD, hA⟩ := hv
  have hx := B.exec
  have hb := B.bytes
  have hr := B.returns
  have hts := atoms_spec (ws := wsX1_addLogarithm) B.pre
  have hg : ∀ w ∈ gw, w.before ([.ref h, .int n, .int o] : List Value).toArray s = true := fun w h => hts w (List.mem_cons_of_mem _ h)
  have hown : s.vm.findClass RX1 = some m.cls := findClass_of_methodNamed B.named
  have hlocks := B.notSynchronized
  have hS : va_S A s.heap s.heap [] := va_S.rf
  have hl := lv_entry ([.ref h, .int n, .int o]) (n := 4) (Nat.le_of_ble_eq_true rfl)
  rw [lg_entry_eq]
  generalize (lg_sl ([.ref h, .int n, .int o]) ++ List.replicate (4 - (lg_sl ([.ref h, .int n, .int o])).length) Slot.unset).toArray = ls at hl ⊢
  have hl : lv_has ls 4 [(0, .ref h), (1, .int n), (2, .int o)] := hl
  obtain ⟨tP, hzP, htP⟩ := hG.2.1
  have hne12 : p1 ≠ p2 := fun e => by rw [e, h2] at h1; cases h1
  have hne21 : p2 ≠ p1 := fun e => hne12 e.symm
  refine lv_iconst (v := 0) hx hb dX1_addLogarithm_0 (by decide) ?_
  refine lv_istore_n (lv' := [(3, .int 0), (0, .ref h), (1, .int n), (2, .int o)]) hx hb dX1_addLogarithm_1 rfl hl (by decide) rfl (fun ls hl => ?_)
  rw [← st_id h2] at hP hD
  have L2 : ∀ (n9 : Nat) (i : Nat) (g : Nat → Int32) (H : Heap) (locs : List Loc), (i ≤ 5) → (∀ j, j < 5 → g j = if j < i then (fun j => lg j + o * nI (x_ti (gl_prime j) 3 n)) j else lg j) → va_P D vwCl (ws.set p2 (g1, .inl (cI, 5, .inl g))) H → va_D A (ws.set p2 (g1, .inl (cI, 5, .inl g))) → va_S A s.heap H locs → (5 - i < n9) → ∀ (ls : Array Slot), lv_has ls 4 [(3, .int (nI i)), (0, .ref h), (1, .int n), (2, .int o)] → W p l e (headSpec wsX1_addLogarithm { frames := 1, cells := 0, slots := 0, locals := 23 }).room s m ([.ref h, .int n, .int o] : List Value).toArray below meth c H locs 0 0 (MQ below (va_Qv (fun _ : Unit => True) (fun _ t => wd_E D (ty3 cI cL cQ) A (ws.set p2 (g1, .inl (cI, 5, .inl (fun j => lg j + o * nI (x_ti (gl_prime j) 3 n))))) t) A) ([.ref h, .int n, .int o] : List Value).toArray s 0 0 A) (F0 m 2 ls []) := by
    clear hP hD hS
    intro n9
    induction n9 with
    | zero => intro i g H locs hi hgv hP hD hS h9; exact absurd h9 (by omega)
    | succ n9 ih =>
      intro i g H locs hi hgv hP hD hS h9 ls hl
      refine lv_iload_n hx hb dX1_addLogarithm_2 rfl (lv_at hl 0 rfl) ?_
      refine va_getsN (C := RX2) (n := "PRIMES") (d := "[I") (v := .ref tP) hx hb hzP hS hown (hG.nest fn_X1_15) (fun _ h9 => h9) dX1_addLogarithm_3 ?_
      refine va_tlen (v := 5) hx hb htP hS rfl dX1_addLogarithm_6 ?_
      refine lv_icmp_ge (tgt := 36) hx hb dX1_addLogarithm_7 (by decide) (fun c_1 => ?_) (fun c_1 => ?_)
      · replace c_1 : 5 ≤ i := (nI_leI (a := 5) (b := i) (by omega) (by omega)).mp c_1
        have hP := hP.cg (g := (fun j => lg j + o * nI (x_ti (gl_prime j) 3 n))) (st_at h2 _) (fun j hj => by rw [hgv j hj, if_pos (by omega)])
        have hD := hD.set (e := .inl (cI, 5, .inl (fun j => lg j + o * nI (x_ti (gl_prime j) 3 n)))) (st_at h2 _)
        rw [List.set_set] at hP hD
        exact W.vret hx hb hr (fun t ht hW => ⟨⟨(), rfl, trivial, wd_E.at hK hP hD ht hW⟩, hS.F ht⟩) hS.2.2 dX1_addLogarithm_36
      · replace c_1 : ¬ 5 ≤ i := fun h => c_1 ((nI_leI (a := 5) (b := i) (by omega) (by omega)).mpr h)
        refine lv_aload_n hx hb dX1_addLogarithm_10 rfl (lv_at hl 1 rfl) ?_
        refine va_get (D := D) (ci := 1) (v := .ref g1) (C := RX1) (T := TX1) (N := 2) hx hb hg inX1 hown hK hP p1 (st_ne h1 (by assumption)) rfl 1 (by decide) (hg _ fl_X1_19) (fun _ h9 => h9) rfl dX1_addLogarithm_11 ?_
        refine lv_iload_n hx hb dX1_addLogarithm_14 rfl (lv_at hl 0 rfl) ?_
        refine lv_dup2_11 hx hb dX1_addLogarithm_15 rfl rfl ?_
        refine va_iald (D := D) (n := 5) (f := g) hx hb hK hP p2 0 (st_at h2 _) rfl (vp_in_nI (show i < 5 by omega) (by decide)) dX1_addLogarithm_16 ?_
        rw [nI_clamp (show i < 2 ^ 31 by omega)]
        refine lv_iload_n hx hb dX1_addLogarithm_17 rfl (lv_at hl 3 rfl) ?_
        refine va_getsN (C := RX2) (n := "PRIMES") (d := "[I") (v := .ref tP) hx hb hzP hS hown (hG.nest fn_X1_15) (fun _ h9 => h9) dX1_addLogarithm_18 ?_
        refine lv_iload_n hx hb dX1_addLogarithm_21 rfl (lv_at hl 0 rfl) ?_
        refine va_ti (N := 5) (v := .int (gl_prime i)) hx hb htP hS (vp_in_nI (show i < 5 by omega) (by decide)) (by rw [nI_clamp (show i < 2 ^ 31 by omega)]) dX1_addLogarithm_22 ?_
        refine lv_iload_n hx hb dX1_addLogarithm_23 rfl (lv_at hl 2 rfl) ?_
        refine vp_callSi (va_Run.run (va_runSN (As := [.int (gl_prime i), .int n]) (rest := [.int o, .int (g i), .int (nI i), .ref g1]) ⟨hx, hb, hml, hown, hg⟩ (c_X2_timesIn l (gl_prime i) n) ⟨va_cnB 2 hg (gw_C co_X2_timesIn) rfl rfl rfl (hG.1 _ mn_X1_59) (hg _ ini_X2) (by decide +kernel) ⟨Nat.le_of_ble_eq_true rfl, Nat.le_of_ble_eq_true rfl⟩, hg _ sm_X2_timesIn, trivial⟩ ⟨tt_blind, (fun U hU hW => ⟨rfl, trivial⟩)⟩ rfl rfl hl.1 rfl (lv_room (Nat.le_of_ble_eq_true rfl)) dX1_addLogarithm_24 ⟨Nat.le_of_ble_eq_true rfl, Nat.le_of_ble_eq_true rfl⟩)) (fun r_2 hr_2 => ?_)
        subst hr_2
        refine lv_imul hx hb dX1_addLogarithm_27 ?_
        refine lv_iadd hx hb dX1_addLogarithm_28 ?_
        refine lv_topi (fun v_3 ev_3 => ?_)
        refine va_iast (D := D) (n := 5) (f := g) (x := v_3) hx hb hK hP hD hS p2 0 (st_at h2 _) rfl (vp_in_nI (show i < 5 by omega) (by decide)) dX1_addLogarithm_29 (fun H locs hP hD hS => ?_)
        rw [nI_clamp (show i < 2 ^ 31 by omega)] at hP hD
        rw [List.set_set] at hP hD
        have hP : va_P D vwCl (ws.set p2 (g1, .inl (cI, 5, .inl (upd g i v_3)))) H := hP
        have hD : va_D A (ws.set p2 (g1, .inl (cI, 5, .inl (upd g i v_3)))) := hD
        refine lv_iinc (v := nI (i + 1)) (lv' := [(3, .int (nI (i + 1))), (0, .ref h), (1, .int n), (2, .int o)]) hx hb dX1_addLogarithm_30 hl (k := 0) rfl (nI_1 i) (by decide) rfl (fun ls hl => ?_)
        refine lv_goto (tgt := 2) hx hb dX1_addLogarithm_33 (by decide) ?_
        exact ih (i + 1) (upd g i v_3) _ _ (by omega) (fun j hj => by unfold upd; by_cases e : j = i; (subst e; rw [if_pos rfl, if_pos (by omega), ev_3, hgv j hj, if_neg (by omega)]); (rw [if_neg e, hgv j hj]; by_cases e2 : j < i; (rw [if_pos e2, if_pos (by omega)]); (rw [if_neg e2, if_neg (by omega)]))) hP hD hS (by omega) ls (lv_sub hl [0, 1, 2, 3] rfl)
  exact L2 ((5 - 0) + 1) 0 lg _ _ (Nat.zero_le _) (fun j hj => by rw [if_neg (by omega)]) hP hD hS (Nat.lt_succ_self _) ls (lv_sub hl [0, 1, 2, 3] rfl)
def i_abs (v : Int32) : Int32 := if 0 ≤ v then v else 0 - v
def s_ab (f : Nat → Int32) (x z : Int32) (ab : Int64) : Int64 := if x_less x then ab else if p_pole f && !decide (x - f 7 = 0) then ab + z.toInt64 * p_12 f x.toInt64 * 128066400 - (z * f 5).toInt64 * (1536796800 / (x - f 7).toInt64) - (z * f 6).toInt64 * (1536796800 / (2 * (x - f 7) * (x - f 7)).toInt64) else ab + z.toInt64 * p_12 f x.toInt64 * 128066400
def s_lg (f : Nat → Int32) (x z : Int32) (lg : Nat → Int32) (j : Nat) : Int32 := if !x_less x && p_pole f && !decide (x - f 7 = 0) then lg j + z * f 4 * nI (x_ti (gl_prime j) 3 (i_abs (x - f 7))) else lg j
theorem i2l_0 {x : Int32} (h : ¬ x = 0) : ¬ x.toInt64 = 0 := by
  intro e
  apply h
  have h2 := congrArg Int64.toInt e
  rw [Int32.toInt_toInt64] at h2
  exact Int32.toInt_inj.mp (by rw [h2]; rfl)
theorem va_P2 {D : va_G} {cl : List vw_C} {ws : va_W} {H : Heap} {i j : Nat} {x y : Nat × va_E} (hP : va_P D cl ws H) (hi : ws[i]? = some x) (hj : ws[j]? = some y) : va_P D cl [x, y] H := by
  intro k q hk
  match k, hk with
  | 0, hk => cases hk; exact hP i _ hi
  | 1, hk => cases hk; exact hP j _ hj
  | k + 2, hk => simp at hk
set_option maxHeartbeats 4000000 in
set_option maxRecDepth 100000 in
theorem c_X1_addPrimitive (l : Launch) (A : Nat → Prop) (D : va_G) (cI cL cQ : ClassId) (ws : va_W) (p1 p2 h g1 : Nat) (ab : Int64) (lg : Nat → Int32) (h1 : ws[p1]? = some (h, .inr (1, [.long ab, .ref g1]))) (h2 : ws[p2]? = some (g1, .inl (cI, 5, .inl lg))) (p3 p4 hp np : Nat) (f : Nat → Int32) (h3 : ws[p3]? = some (hp, .inr (0, [.ref np]))) (h4 : ws[p4]? = some (np, .inl (cI, 8, .inl f))) (x z : Int32) (hd : ¬ x - f 7 = 0 → ¬ 2 * (x - f 7) * (x - f 7) = 0) : Met l yX1_addPrimitive wsX1_addPrimitive { frames := 2, cells := 0, slots := 0, locals := 46 } (va_Pc [.ref h, .ref hp, .int x, .int z] (wd_B D (ty3 cI cL cQ) A (ws))) (va_Qv (fun _ : Unit => True) (fun _ t => wd_E D (ty3 cI cL cQ) A ((ws.set p1 (h, .inr (1, [.long (s_ab f x z ab), .ref g1]))).set p2 (g1, .inl (cI, 5, .inl (s_lg f x z lg)))) t) A) 0 0 A := by
  refine Met.ofW (cc := cX1_addPrimitive) (maxL := 5) (ret := none) (by decide) rfl ?_
  intro p e s m args below meth c s₁ B hml hv
  obtain ⟨rfl, hG, hK, hP, hD, hA⟩ := hv
  have hx := B.exec
  have hb := B.bytes
  have hr := B.returns
  have hts := atoms_spec (ws := wsX1_addPrimitive) B.pre
  have hg : ∀ w ∈ gw, w.before ([.ref h, .ref hp, .int x, .int z] : List Value).toArray s = true := fun w h => hts w (List.mem_cons_of_mem _ h)
  have hown : s.vm.findClass RX1 = some m.cls := findClass_of_methodNamed B.named
  have hlocks := B.notSynchronized
  have hS : va_S A s.heap s.heap [] := va_S.rf
  have hl := lv_entry ([.ref h, .ref hp, .int x, .int z]) (n := 5) (Nat.le_of_ble_eq_true rfl)
  rw [lg_entry_eq]
  generalize (lg_sl ([.ref h, .ref hp, .int x, .int z]) ++ List.replicate (5 - (lg_sl ([.ref h, .ref hp, .int x, .int z])).length) Slot.unset).toArray = ls at hl ⊢
  have hl : lv_has ls 5 [(0, .ref h), (1, .ref hp), (2, .int x), (3, .int z)] := hl
  have hne12 : p1 ≠ p2 := fun e => by rw [e, h2] at h1; cases h1
  have hne21 : p2 ≠ p1 := fun e => hne12 e.symm
  have hne13 : p1 ≠ p3 := fun e => by rw [e, h3] at h1; cases h1
  have hne14 : p1 ≠ p4 := fun e => by rw [e, h4] at h1; cases h1
  refine lv_iload_n hx hb dX1_addPrimitive_0 rfl (lv_at hl 2 rfl) ?_
  refine vp_callSi (va_Run.run (va_runSN (As := [.int x]) (rest := []) ⟨hx, hb, hml, hown, hg⟩ (c_X2_isEndless l x) ⟨va_cnB 1 hg (gw_C co_X2_isEndless) rfl rfl rfl (hG.1 _ mn_X1_28) (hg _ ini_X2) (by decide +kernel) ⟨Nat.le_of_ble_eq_true rfl, Nat.le_of_ble_eq_true rfl⟩, hg _ sm_X2_isEndless, trivial⟩ ⟨tt_blind, (fun U hU hW => ⟨rfl, trivial⟩)⟩ rfl rfl hl.1 rfl (lv_room (Nat.le_of_ble_eq_true rfl)) dX1_addPrimitive_1 ⟨Nat.le_of_ble_eq_true rfl, Nat.le_of_ble_eq_true rfl⟩)) (fun r_1 hr_1 => ?_)
  subst hr_1
  refine lv_if_eq (tgt := 8) hx hb dX1_addPrimitive_4 (by decide) (fun c_2 => ?_) (fun c_2 => ?_)
  · replace c_2 := zi_0 c_2
    refine lv_aload_n hx hb dX1_addPrimitive_8 rfl (lv_at hl 0 rfl) ?_
    refine lv_dup hx hb dX1_addPrimitive_9 rfl ?_
    refine va_get (D := D) (ci := 1) (v := .long ab) (C := RX1) (T := TX1) (N := 2) hx hb hg inX1 hown hK hP p1 h1 rfl 0 (by decide) (hg _ fl_X1_9) (fun _ h9 => h9) rfl dX1_addPrimitive_10 ?_
    refine lv_iload_n hx hb dX1_addPrimitive_13 rfl (lv_at hl 3 rfl) ?_
    refine lv_i2l hx hb dX1_addPrimitive_14 rfl ?_
    refine lv_aload_n hx hb dX1_addPrimitive_15 rfl (lv_at hl 1 rfl) ?_
    refine lv_iload_n hx hb dX1_addPrimitive_16 rfl (lv_at hl 2 rfl) ?_
    refine lv_i2l hx hb dX1_addPrimitive_17 rfl ?_
    refine vp_callSl (va_Run.run (va_runVN (As := [.long x.toInt64]) (rest := [.long z.toInt64, .long ab, .ref h]) ⟨hx, hb, hml, hown, hg⟩ (c_X0_twelfthsOfPowersPrimitive l D cI cL cQ hp np f x.toInt64) ⟨va_cnB 1 hg (gw_C co_X0_twelfthsOfPowersPrimitive) rfl rfl rfl (hG.1 _ mn_X1_32) (hg _ ini_X0) (by decide +kernel) ⟨Nat.le_of_ble_eq_true rfl, Nat.le_of_ble_eq_true rfl⟩, hg _ im_X0_twelfthsOfPowersPrimitive, hg _ se_X0_twelfthsOfPowersPrimitive⟩ ⟨pu_B.blind, va_recv hK hP (ci := 0) (q0 := p3) rfl h3, (fun U hU hW => ⟨rfl, pu_B.at hK (va_P2 hP h3 h4) hU hW⟩)⟩ rfl rfl hl.1 rfl (lv_room (Nat.le_of_ble_eq_true rfl)) dX1_addPrimitive_18 ⟨Nat.le_of_ble_eq_true rfl, Nat.le_of_ble_eq_true rfl⟩)) (fun r_3 hr_3 => ?_)
    subst hr_3
    refine lv_lmul hx hb dX1_addPrimitive_21 ?_
    refine lv_ldc2 (v := 128066400) hx hb hown (hg _ kl_X1_38) dX1_addPrimitive_22 ?_
    refine lv_lmul hx hb dX1_addPrimitive_25 ?_
    refine lv_ladd hx hb dX1_addPrimitive_26 ?_
    refine lv_topl (fun v_4 ev_4 => ?_)
    refine va_put (D := D) (ci := 1) (v := .long v_4) (ty := .long) (C := RX1) (T := TX1) (N := 2) hx hb hg inX1 tyX1 tyX1_ok nmX1 hown hK hP hD hS p1 h1 rfl 0 (by decide) (hg _ fl_X1_9) (fun _ h9 => h9) rfl (by decide +kernel) rfl rfl (Nat.le_of_ble_eq_true rfl) dX1_addPrimitive_27 (fun H locs hP hD hS => ?_)
    have hP : va_P D vwCl (ws.set p1 (h, .inr (1, [.long v_4, .ref g1]))) H := hP
    have hD : va_D A (ws.set p1 (h, .inr (1, [.long v_4, .ref g1]))) := hD
    refine lv_iload_n hx hb dX1_addPrimitive_30 rfl (lv_at hl 2 rfl) ?_
    refine lv_aload_n hx hb dX1_addPrimitive_31 rfl (lv_at hl 1 rfl) ?_
    refine va_getN (D := D) (ci := 0) (v := .ref np) (C := RX0) (T := TX0) (N := 1) hx hb hg inX0 hown hK hP p3 (st_ne h3 (by assumption)) rfl 0 (by decide) (hG.nest fn_X1_40) (fun _ h9 => h9) rfl dX1_addPrimitive_32 ?_
    refine lv_bipush (v := 7) hx hb dX1_addPrimitive_35 (by decide) ?_
    refine va_iald (D := D) (n := 8) (f := f) hx hb hK hP p4 0 (st_ne h4 (by assumption)) rfl (vp_in_nI (show 7 < 8 by decide) (by decide)) dX1_addPrimitive_37 ?_
    rw [show (7 : Int32).toNatClampNeg = 7 from by decide]
    refine lv_isub hx hb dX1_addPrimitive_38 ?_
    refine lv_topi (fun v_5 ev_5 => ?_)
    refine lv_istore (lv' := [(4, .int v_5), (0, .ref h), (1, .ref hp), (2, .int x), (3, .int z)]) hx hb dX1_addPrimitive_39 hl (by decide) rfl (fun ls hl => ?_)
    refine lv_aload_n hx hb dX1_addPrimitive_41 rfl (lv_at hl 2 rfl) ?_
    refine vp_callSi (va_Run.run (va_runVN (As := []) (rest := []) ⟨hx, hb, hml, hown, hg⟩ (c_X0_hasPole l D cI cL cQ hp np f) ⟨va_cnB 0 hg (gw_C co_X0_hasPole) rfl rfl rfl (hG.1 _ mn_X1_43) (hg _ ini_X0) (by decide +kernel) ⟨Nat.le_of_ble_eq_true rfl, Nat.le_of_ble_eq_true rfl⟩, hg _ im_X0_hasPole, hg _ se_X0_hasPole⟩ ⟨pu_B.blind, va_recv hK hP (ci := 0) (q0 := p3) rfl (st_ne h3 (by assumption)), (fun U hU hW => ⟨rfl, pu_B.at hK (va_P2 hP (st_ne h3 (by assumption)) (st_ne h4 (by assumption))) hU hW⟩)⟩ rfl rfl hl.1 rfl (lv_room (Nat.le_of_ble_eq_true rfl)) dX1_addPrimitive_42 ⟨Nat.le_of_ble_eq_true rfl, Nat.le_of_ble_eq_true rfl⟩)) (fun r_6 hr_6 => ?_)
    subst hr_6
    refine lv_if_eq (tgt := 128) hx hb dX1_addPrimitive_45 (by decide) (fun c_7 => ?_) (fun c_7 => ?_)
    · replace c_7 := zi_0 c_7
      have e0 : (p_pole f && !decide (x - f 7 = 0)) = false := by rw [c_7]; rfl
      have e1 : s_ab f x z ab = v_4 := by rw [s_ab, if_neg (by rw [c_2]; decide), if_neg (by rw [e0]; decide), ev_4]
      have e2 : s_lg f x z lg = lg := by funext j; rw [s_lg, Bool.and_assoc, e0, Bool.and_false]; rfl
      rw [e1, e2, st_id (st_ne h2 hne12)]
      exact W.vret hx hb hr (fun t ht hW => ⟨⟨(), rfl, trivial, wd_E.at hK hP hD ht hW⟩, hS.F ht⟩) hS.2.2 dX1_addPrimitive_128
    · replace c_7 := zi_n0 c_7
      refine lv_iload hx hb dX1_addPrimitive_48 (lv_at hl 0 rfl) ?_
      refine lv_if_eq (tgt := 128) hx hb dX1_addPrimitive_50 (by decide) (fun c_8 => ?_) (fun c_8 => ?_)
      · have e0 : (p_pole f && !decide (x - f 7 = 0)) = false := by rw [← ev_5, decide_eq_true c_8]; simp
        have e1 : s_ab f x z ab = v_4 := by rw [s_ab, if_neg (by rw [c_2]; decide), if_neg (by rw [e0]; decide), ev_4]
        have e2 : s_lg f x z lg = lg := by funext j; rw [s_lg, Bool.and_assoc, e0, Bool.and_false]; rfl
        rw [e1, e2, st_id (st_ne h2 hne12)]
        exact W.vret hx hb hr (fun t ht hW => ⟨⟨(), rfl, trivial, wd_E.at hK hP hD ht hW⟩, hS.F ht⟩) hS.2.2 dX1_addPrimitive_128
      · have hd9 : ¬ 2 * v_5 * v_5 = 0 := by rw [ev_5]; exact hd (by rw [← ev_5]; assumption)
        refine lv_aload_n hx hb dX1_addPrimitive_53 rfl (lv_at hl 1 rfl) ?_
        refine lv_dup hx hb dX1_addPrimitive_54 rfl ?_
        refine va_get (D := D) (ci := 1) (v := .long v_4) (C := RX1) (T := TX1) (N := 2) hx hb hg inX1 hown hK hP p1 (st_at h1 _) rfl 0 (by decide) (hg _ fl_X1_9) (fun _ h9 => h9) rfl dX1_addPrimitive_55 ?_
        refine lv_iload_n hx hb dX1_addPrimitive_58 rfl (lv_at hl 4 rfl) ?_
        refine lv_aload_n hx hb dX1_addPrimitive_59 rfl (lv_at hl 2 rfl) ?_
        refine va_getN (D := D) (ci := 0) (v := .ref np) (C := RX0) (T := TX0) (N := 1) hx hb hg inX0 hown hK hP p3 (st_ne h3 (by assumption)) rfl 0 (by decide) (hG.nest fn_X1_40) (fun _ h9 => h9) rfl dX1_addPrimitive_60 ?_
        refine lv_iconst (v := 5) hx hb dX1_addPrimitive_63 (by decide) ?_
        refine va_iald (D := D) (n := 8) (f := f) hx hb hK hP p4 0 (st_ne h4 (by assumption)) rfl (vp_in_nI (show 5 < 8 by decide) (by decide)) dX1_addPrimitive_64 ?_
        rw [show (5 : Int32).toNatClampNeg = 5 from by decide]
        refine lv_imul hx hb dX1_addPrimitive_65 ?_
        refine lv_i2l hx hb dX1_addPrimitive_66 rfl ?_
        refine lv_ldc2 (v := 1536796800) hx hb hown (hg _ kl_X1_47) dX1_addPrimitive_67 ?_
        refine lv_iload hx hb dX1_addPrimitive_70 (lv_at hl 0 rfl) ?_
        refine lv_i2l hx hb dX1_addPrimitive_72 rfl ?_
        refine lv_ldiv hx hb dX1_addPrimitive_73 (i2l_0 (by assumption)) ?_
        refine lv_lmul hx hb dX1_addPrimitive_74 ?_
        refine lv_lsub hx hb dX1_addPrimitive_75 ?_
        refine lv_topl (fun v_9 ev_9 => ?_)
        refine va_put (D := D) (ci := 1) (v := .long v_9) (ty := .long) (C := RX1) (T := TX1) (N := 2) hx hb hg inX1 tyX1 tyX1_ok nmX1 hown hK hP hD hS p1 (st_at h1 _) rfl 0 (by decide) (hg _ fl_X1_9) (fun _ h9 => h9) rfl (by decide +kernel) rfl rfl (Nat.le_of_ble_eq_true rfl) dX1_addPrimitive_76 (fun H locs hP hD hS => ?_)
        rw [List.set_set] at hP hD
        have hP : va_P D vwCl (ws.set p1 (h, .inr (1, [.long v_9, .ref g1]))) H := hP
        have hD : va_D A (ws.set p1 (h, .inr (1, [.long v_9, .ref g1]))) := hD
        refine lv_aload_n hx hb dX1_addPrimitive_79 rfl (lv_at hl 1 rfl) ?_
        refine lv_dup hx hb dX1_addPrimitive_80 rfl ?_
        refine va_get (D := D) (ci := 1) (v := .long v_9) (C := RX1) (T := TX1) (N := 2) hx hb hg inX1 hown hK hP p1 (st_at h1 _) rfl 0 (by decide) (hg _ fl_X1_9) (fun _ h9 => h9) rfl dX1_addPrimitive_81 ?_
        refine lv_iload_n hx hb dX1_addPrimitive_84 rfl (lv_at hl 4 rfl) ?_
        refine lv_aload_n hx hb dX1_addPrimitive_85 rfl (lv_at hl 2 rfl) ?_
        refine va_getN (D := D) (ci := 0) (v := .ref np) (C := RX0) (T := TX0) (N := 1) hx hb hg inX0 hown hK hP p3 (st_ne h3 (by assumption)) rfl 0 (by decide) (hG.nest fn_X1_40) (fun _ h9 => h9) rfl dX1_addPrimitive_86 ?_
        refine lv_bipush (v := 6) hx hb dX1_addPrimitive_89 (by decide) ?_
        refine va_iald (D := D) (n := 8) (f := f) hx hb hK hP p4 0 (st_ne h4 (by assumption)) rfl (vp_in_nI (show 6 < 8 by decide) (by decide)) dX1_addPrimitive_91 ?_
        rw [show (6 : Int32).toNatClampNeg = 6 from by decide]
        refine lv_imul hx hb dX1_addPrimitive_92 ?_
        refine lv_i2l hx hb dX1_addPrimitive_93 rfl ?_
        refine lv_ldc2 (v := 1536796800) hx hb hown (hg _ kl_X1_47) dX1_addPrimitive_94 ?_
        refine lv_iconst (v := 2) hx hb dX1_addPrimitive_97 (by decide) ?_
        refine lv_iload hx hb dX1_addPrimitive_98 (lv_at hl 0 rfl) ?_
        refine lv_imul hx hb dX1_addPrimitive_100 ?_
        refine lv_iload hx hb dX1_addPrimitive_101 (lv_at hl 0 rfl) ?_
        refine lv_imul hx hb dX1_addPrimitive_103 ?_
        refine lv_i2l hx hb dX1_addPrimitive_104 rfl ?_
        refine lv_ldiv hx hb dX1_addPrimitive_105 (i2l_0 hd9) ?_
        refine lv_lmul hx hb dX1_addPrimitive_106 ?_
        refine lv_lsub hx hb dX1_addPrimitive_107 ?_
        refine lv_topl (fun v_10 ev_10 => ?_)
        refine va_put (D := D) (ci := 1) (v := .long v_10) (ty := .long) (C := RX1) (T := TX1) (N := 2) hx hb hg inX1 tyX1 tyX1_ok nmX1 hown hK hP hD hS p1 (st_at h1 _) rfl 0 (by decide) (hg _ fl_X1_9) (fun _ h9 => h9) rfl (by decide +kernel) rfl rfl (Nat.le_of_ble_eq_true rfl) dX1_addPrimitive_108 (fun H locs hP hD hS => ?_)
        rw [List.set_set] at hP hD
        have hP : va_P D vwCl (ws.set p1 (h, .inr (1, [.long v_10, .ref g1]))) H := hP
        have hD : va_D A (ws.set p1 (h, .inr (1, [.long v_10, .ref g1]))) := hD
        refine lv_aload_n hx hb dX1_addPrimitive_111 rfl (lv_at hl 1 rfl) ?_
        refine lv_iload hx hb dX1_addPrimitive_112 (lv_at hl 0 rfl) ?_
        refine va_mabs hx hb (by rw [hml]; exact hl.1.symm) hown (hg _ ml_X1_49) (hg _ sm_Mabs) (hg _ ini_J9) (hg _ co_Mabs) (Nat.le_of_ble_eq_true rfl) (Nat.le_of_ble_eq_true rfl) (Nat.le_of_ble_eq_true rfl) (Nat.le_of_ble_eq_true rfl) dX1_addPrimitive_114 ?_
        refine lv_iload_n hx hb dX1_addPrimitive_117 rfl (lv_at hl 4 rfl) ?_
        refine lv_aload_n hx hb dX1_addPrimitive_118 rfl (lv_at hl 2 rfl) ?_
        refine va_getN (D := D) (ci := 0) (v := .ref np) (C := RX0) (T := TX0) (N := 1) hx hb hg inX0 hown hK hP p3 (st_ne h3 (by assumption)) rfl 0 (by decide) (hG.nest fn_X1_40) (fun _ h9 => h9) rfl dX1_addPrimitive_119 ?_
        refine lv_iconst (v := 4) hx hb dX1_addPrimitive_122 (by decide) ?_
        refine va_iald (D := D) (n := 8) (f := f) hx hb hK hP p4 0 (st_ne h4 (by assumption)) rfl (vp_in_nI (show 4 < 8 by decide) (by decide)) dX1_addPrimitive_123 ?_
        rw [show (4 : Int32).toNatClampNeg = 4 from by decide]
        refine lv_imul hx hb dX1_addPrimitive_124 ?_
        refine va_callv (va_runV (As := [.int (if 0 ≤ v_5 then v_5 else 0 - v_5), .int (z * (f 4))]) (rest := []) ⟨hx, hb, hml, hown, hg⟩ (c_X1_addLogarithm l A D cI cL cQ (ws.set p1 (h, .inr (1, [.long v_10, .ref g1]))) p1 p2 h g1 v_10 lg (st_at h1 _) (st_ne h2 hne12) (i_abs v_5) (z * f 4)) (cwV 2 hg (gw_V ml_X1_55 im_X1_addLogarithm se_X1_addLogarithm ini_X1 co_X1_addLogarithm) rfl rfl rfl (by decide +kernel) ⟨Nat.le_of_ble_eq_true rfl, Nat.le_of_ble_eq_true rfl⟩) ⟨wd_B.blind, va_recv hK hP (ci := 1) (q0 := p1) rfl (st_at h1 _), (fun U hU hW => ⟨rfl, wd_B.at hG hK hP hD hS hA hU hW⟩)⟩ rfl rfl hl.1 rfl (lv_room (Nat.le_of_ble_eq_true rfl)) dX1_addPrimitive_125 ⟨Nat.le_of_ble_eq_true rfl, Nat.le_of_ble_eq_true rfl⟩) hS (fun q _ h => h) (fun q h => h) (fun u t H1 locs ht hvm hr_11 hB hz1 hk1 hS => ?_)
        obtain ⟨hK, hP, hD⟩ := hB.back ht hvm
        generalize H1 = H at hP hS ⊢
        have hP : va_P D vwCl ((ws.set p1 (h, .inr (1, [.long v_10, .ref g1]))).set p2 (g1, .inl (cI, 5, .inl (fun j => lg j + z * f 4 * nI (x_ti (gl_prime j) 3 (i_abs v_5)))))) H := hP
        have hD : va_D A ((ws.set p1 (h, .inr (1, [.long v_10, .ref g1]))).set p2 (g1, .inl (cI, 5, .inl (fun j => lg j + z * f 4 * nI (x_ti (gl_prime j) 3 (i_abs v_5)))))) := hD
        have e0 : (p_pole f && !decide (x - f 7 = 0)) = true := by rw [← ev_5, c_7, decide_eq_false c_8]; rfl
        have e1 : s_ab f x z ab = v_10 := by rw [s_ab, if_neg (by rw [c_2]; decide), if_pos e0, ev_10, ev_9, ev_5, ev_4]
        have e2 : s_lg f x z lg = fun j => lg j + z * f 4 * nI (x_ti (gl_prime j) 3 (i_abs v_5)) := by funext j; rw [s_lg, Bool.and_assoc, e0, c_2, ev_5]; rfl
        rw [e1, e2]
        exact W.vret hx hb hr (fun t ht hW => ⟨⟨(), rfl, trivial, wd_E.at hK hP hD ht hW⟩, hS.F ht⟩) hS.2.2 dX1_addPrimitive_128
  · replace c_2 := zi_n0 c_2
    have e1 : s_ab f x z ab = ab := by rw [s_ab, if_pos c_2]
    have e2 : s_lg f x z lg = lg := by funext j; simp [s_lg, c_2]
    rw [e1, e2, st_id h1, st_id h2]
    exact W.vret hx hb hr (fun t ht hW => ⟨⟨(), rfl, trivial, wd_E.at hK hP hD ht hW⟩, hS.F ht⟩) hS.2.2 dX1_addPrimitive_7
end
section
theorem va_P4 {D : va_G} {cl : List vw_C} {ws : va_W} {H : Heap} {i j k n : Nat} {x y z w : Nat × va_E} (hP : va_P D cl ws H) (hi : ws[i]? = some x) (hj : ws[j]? = some y) (hk : ws[k]? = some z) (hn : ws[n]? = some w) : va_P D cl [x, y, z, w] H := by
  intro o q ho
  match o, ho with
  | 0, ho => cases ho; exact hP i _ hi
  | 1, ho => cases ho; exact hP j _ hj
  | 2, ho => cases ho; exact hP k _ hk
  | 3, ho => cases ho; exact hP n _ hn
  | o + 4, ho => simp at ho
def x_mir (pl : Nat → Int32) (nm : Nat → Nat → Int32) (cnt : Nat) (z : Int32) : Nat → Bool
  | 0 => true
  | n + 1 => x_mir pl nm cnt z n && p_mir (nm (x_cnt pl (nI n) cnt)) (nm (x_cnt pl (-nI n - 1) cnt)) z
theorem x_mir_f {pl : Nat → Int32} {nm : Nat → Nat → Int32} {cnt : Nat} {z : Int32} {i : Nat} (h : p_mir (nm (x_cnt pl (nI i) cnt)) (nm (x_cnt pl (-nI i - 1) cnt)) z = false) : ∀ n, i < n → x_mir pl nm cnt z n = false
  | 0, hn => absurd hn (Nat.not_lt_zero i)
  | n + 1, hn => by
    rw [x_mir]
    rcases Nat.lt_or_ge i n with h1 | h1
    · rw [x_mir_f h n h1]; rfl
    · rw [show n = i by omega, h, Bool.and_false]
def x_sym (pl : Nat → Int32) (nm : Nat → Nat → Int32) (cnt : Nat) : Int32 := if x_mir pl nm cnt 1 7 && x_mir pl nm cnt (-1) 7 then 2 else if x_mir pl nm cnt 1 7 then 1 else if x_mir pl nm cnt (-1) 7 then -1 else 0
set_option maxHeartbeats 4000000 in
set_option maxRecDepth 100000 in
theorem c_X2_cuts (l : Launch) (A : Nat → Prop) (D : va_G) (cI cL cQ : ClassId) (fr : va_W) (a : Nat → Nat) (pl : Nat → Int32) (pq nq : Nat → Nat) (nm : Nat → Nat → Int32) (ab : Int64) (lg : Nat → Int32) (cnt : Nat) (hc : cnt ≤ 3) (kn : Int32) : Met l yX2_cuts wsX2_cuts { frames := 0, cells := 0, slots := 0, locals := 0 } (va_Pc [.ref (a 0)] (fun U => gl_G A U U.heap ∧ pu_B D (ty3 cI cL cQ) (xw cI cQ a pl pq nq nm ab lg (nI cnt) kn ++ fr) U)) (vp_Si (fun r => r = nI cnt)) 0 0 (fun _ => False) := by
  refine Met.ofW (cc := cX2_cuts) (maxL := 1) (ret := (some .int)) (by decide) rfl ?_
  intro p e s m args below meth c s₁ B hml hv
  obtain ⟨rfl, hG, hK, hP⟩ := hv
  have hx := B.exec
  have hb := B.bytes
  have hr := B.returns
  have hts := atoms_spec (ws := wsX2_cuts) B.pre
  have hg : ∀ w ∈ gw, w.before ([.ref (a 0)] : List Value).toArray s = true := fun w h => hts w (List.mem_cons_of_mem _ h)
  have hown : s.vm.findClass RX2 = some m.cls := findClass_of_methodNamed B.named
  have hlocks := B.notSynchronized
  have hl := lv_entry ([.ref (a 0)]) (n := 1) (Nat.le_of_ble_eq_true rfl)
  rw [lg_entry_eq]
  generalize (lg_sl ([.ref (a 0)]) ++ List.replicate (1 - (lg_sl ([.ref (a 0)])).length) Slot.unset).toArray = ls at hl ⊢
  have hl : lv_has ls 1 [(0, .ref (a 0))] := hl
  refine lv_aload_n hx hb dX2_cuts_0 rfl (lv_at hl 0 rfl) ?_
  refine va_get (D := D) (ci := 2) (v := .int (nI cnt)) (C := RX2) (T := TX2) (N := 5) hx hb hg inX2 hown hK hP 0 rfl rfl 3 (by decide) (hg _ fl_X2_26) (fun _ h9 => h9) rfl dX2_cuts_1 ?_
  exact W.iret (v := nI cnt) hx hb hr (fun t ht hW => ⟨(nI cnt), rfl, rfl, ht⟩) (fun _ h => nomatch h) dX2_cuts_4
set_option maxHeartbeats 4000000 in
set_option maxRecDepth 100000 in
theorem c_X2_isMirrored (l : Launch) (A : Nat → Prop) (D : va_G) (cI cL cQ : ClassId) (fr : va_W) (a : Nat → Nat) (pl : Nat → Int32) (pq nq : Nat → Nat) (nm : Nat → Nat → Int32) (ab : Int64) (lg : Nat → Int32) (cnt : Nat) (hc : cnt ≤ 3) (kn : Int32) (z : Int32) : Met l yX2_isMirrored wsX2_isMirrored { frames := 2, cells := 0, slots := 0, locals := 43 } (va_Pc [.ref (a 0), .int z] (fun U => gl_G A U U.heap ∧ pu_B D (ty3 cI cL cQ) (xw cI cQ a pl pq nq nm ab lg (nI cnt) kn ++ fr) U)) (vp_Si (fun r => r = zi (x_mir pl nm cnt z 7))) 0 0 (fun _ => False) := by
  refine Met.ofW (cc := cX2_isMirrored) (maxL := 3) (ret := (some .boolean)) (by decide) rfl ?_
  intro p e s m args below meth c s₁ B hml hv
  obtain ⟨rfl, hG, hK, hP⟩ := hv
  have hx := B.exec
  have hb := B.bytes
  have hr := B.returns
  have hts := atoms_spec (ws := wsX2_isMirrored) B.pre
  have hg : ∀ w ∈ gw, w.before ([.ref (a 0), .int z] : List Value).toArray s = true := fun w h => hts w (List.mem_cons_of_mem _ h)
  have hown : s.vm.findClass RX2 = some m.cls := findClass_of_methodNamed B.named
  have hlocks := B.notSynchronized
  have hl := lv_entry ([.ref (a 0), .int z]) (n := 3) (Nat.le_of_ble_eq_true rfl)
  rw [lg_entry_eq]
  generalize (lg_sl ([.ref (a 0), .int z]) ++ List.replicate (3 - (lg_sl ([.ref (a 0), .int z])).length) Slot.unset).toArray = ls at hl ⊢
  have hl : lv_has ls 3 [(0, .ref (a 0)), (1, .int z)] := hl
  have hS : va_S A s.heap s.heap [] := va_S.rf
  refine lv_iconst (v := 0) hx hb dX2_isMirrored_0 (by decide) ?_
  refine lv_istore_n (lv' := [(2, .int 0), (0, .ref (a 0)), (1, .int z)]) hx hb dX2_isMirrored_1 rfl hl (by decide) rfl (fun ls hl => ?_)
  have L2 : ∀ (n9 : Nat) (i : Nat), (i ≤ 7) → (x_mir pl nm cnt z i = true) → (7 - i < n9) → ∀ (ls : Array Slot), lv_has ls 3 [(2, .int (nI i)), (0, .ref (a 0)), (1, .int z)] → W p l e (headSpec wsX2_isMirrored { frames := 2, cells := 0, slots := 0, locals := 43 }).room s m ([.ref (a 0), .int z] : List Value).toArray below meth c s.heap [] 0 0 (MQ below (vp_Si (fun r => r = zi (x_mir pl nm cnt z 7))) ([.ref (a 0), .int z] : List Value).toArray s 0 0 (fun _ => False)) (F0 m 2 ls []) := by
    intro n9
    induction n9 with
    | zero => intro i hi hk h9; exact absurd h9 (by omega)
    | succ n9 ih =>
      intro i hi hk h9 ls hl
      refine lv_iload_n hx hb dX2_isMirrored_2 rfl (lv_at hl 0 rfl) ?_
      refine lv_bipush (v := 6) hx hb dX2_isMirrored_3 (by decide) ?_
      refine lv_icmp_gt (tgt := 46) hx hb dX2_isMirrored_5 (by decide) (fun c_1 => ?_) (fun c_1 => ?_)
      · replace c_1 : 6 < i := (nI_ltI (a := 6) (b := i) (by omega) (by omega)).mp c_1
        refine lv_iconst (v := 1) hx hb dX2_isMirrored_46 (by decide) ?_
        exact W.zret (v := 1) hx hb hr rfl (fun t ht hW => ⟨1, rfl, by rw [show (7 : Nat) = i by omega, hk]; rfl, ht⟩) (fun _ h => nomatch h) dX2_isMirrored_47
      · replace c_1 : ¬ 6 < i := fun h => c_1 ((nI_ltI (a := 6) (b := i) (by omega) (by omega)).mpr h)
        refine lv_aload_n hx hb dX2_isMirrored_8 rfl (lv_at hl 1 rfl) ?_
        refine va_get (D := D) (ci := 2) (v := .ref (a 2)) (C := RX2) (T := TX2) (N := 5) hx hb hg inX2 hown hK hP 0 rfl rfl 1 (by decide) (hg _ fl_X2_15) (fun _ h9 => h9) rfl dX2_isMirrored_9 ?_
        refine lv_aload_n hx hb dX2_isMirrored_12 rfl (lv_at hl 1 rfl) ?_
        refine lv_iload_n hx hb dX2_isMirrored_13 rfl (lv_at hl 0 rfl) ?_
        have hq_2 := x_cnt_le pl (nI i) cnt
        refine vp_callSi (W.runV (As := [.int (nI i)]) (rest := [.ref (a 2)]) ⟨hx, hb, hml, hown, hg⟩ (c_X2_pieceAt l D cI cL cQ (a 0) (a 1) [.ref (a 1), .ref (a 2), .ref (a 3), .int (nI cnt), .int kn] rfl cnt rfl hc pl (nI i)) (cwV 1 hg (gw_V ml_X2_55 im_X2_pieceAt se_X2_pieceAt ini_X2 co_X2_pieceAt) rfl rfl rfl (by decide +kernel) ⟨Nat.le_of_ble_eq_true rfl, Nat.le_of_ble_eq_true rfl⟩) ⟨pu_B.blind, va_recv hK hP (ci := 2) (q0 := 0) rfl rfl, (fun U hU hW => ⟨rfl, pu_B.at hK (va_P2 hP (i := 0) (j := 1) rfl rfl) hU hW⟩)⟩ rfl rfl hl.1 rfl (lv_room (Nat.le_of_ble_eq_true rfl)) dX2_isMirrored_14 ⟨Nat.le_of_ble_eq_true rfl, Nat.le_of_ble_eq_true rfl⟩) (fun r_3 hr_3 => ?_)
        subst hr_3
        refine va_aldq (D := D) (n := 4) (f := (fun j => some (pq j))) hx hb hK hP 2 2 rfl rfl (vp_in_nI (show (x_cnt pl (nI i) cnt) < 4 by omega) (by decide)) dX2_isMirrored_17 ?_
        rw [nI_clamp (show (x_cnt pl (nI i) cnt) < 2 ^ 31 by omega)]
        refine W.eq (g2 := F0 m 18 ls [.ref (pq (x_cnt pl (nI i) cnt))]) rfl ?_
        refine lv_aload_n hx hb dX2_isMirrored_18 rfl (lv_at hl 1 rfl) ?_
        refine va_get (D := D) (ci := 2) (v := .ref (a 2)) (C := RX2) (T := TX2) (N := 5) hx hb hg inX2 hown hK hP 0 rfl rfl 1 (by decide) (hg _ fl_X2_15) (fun _ h9 => h9) rfl dX2_isMirrored_19 ?_
        refine lv_aload_n hx hb dX2_isMirrored_22 rfl (lv_at hl 1 rfl) ?_
        refine lv_iload_n hx hb dX2_isMirrored_23 rfl (lv_at hl 0 rfl) ?_
        refine lv_ineg hx hb dX2_isMirrored_24 ?_
        refine lv_iconst (v := 1) hx hb dX2_isMirrored_25 (by decide) ?_
        refine lv_isub hx hb dX2_isMirrored_26 ?_
        have hq_4 := x_cnt_le pl ((-nI i) - 1) cnt
        refine vp_callSi (W.runV (As := [.int ((-nI i) - 1)]) (rest := [.ref (a 2), .ref (pq (x_cnt pl (nI i) cnt))]) ⟨hx, hb, hml, hown, hg⟩ (c_X2_pieceAt l D cI cL cQ (a 0) (a 1) [.ref (a 1), .ref (a 2), .ref (a 3), .int (nI cnt), .int kn] rfl cnt rfl hc pl ((-nI i) - 1)) (cwV 1 hg (gw_V ml_X2_55 im_X2_pieceAt se_X2_pieceAt ini_X2 co_X2_pieceAt) rfl rfl rfl (by decide +kernel) ⟨Nat.le_of_ble_eq_true rfl, Nat.le_of_ble_eq_true rfl⟩) ⟨pu_B.blind, va_recv hK hP (ci := 2) (q0 := 0) rfl rfl, (fun U hU hW => ⟨rfl, pu_B.at hK (va_P2 hP (i := 0) (j := 1) rfl rfl) hU hW⟩)⟩ rfl rfl hl.1 rfl (lv_room (Nat.le_of_ble_eq_true rfl)) dX2_isMirrored_27 ⟨Nat.le_of_ble_eq_true rfl, Nat.le_of_ble_eq_true rfl⟩) (fun r_5 hr_5 => ?_)
        subst hr_5
        refine va_aldq (D := D) (n := 4) (f := (fun j => some (pq j))) hx hb hK hP 2 2 rfl rfl (vp_in_nI (show (x_cnt pl ((-nI i) - 1) cnt) < 4 by omega) (by decide)) dX2_isMirrored_30 ?_
        rw [nI_clamp (show (x_cnt pl ((-nI i) - 1) cnt) < 2 ^ 31 by omega)]
        refine W.eq (g2 := F0 m 31 ls [.ref (pq (x_cnt pl ((-nI i) - 1) cnt)), .ref (pq (x_cnt pl (nI i) cnt))]) rfl ?_
        refine lv_iload_n hx hb dX2_isMirrored_31 rfl (lv_at hl 2 rfl) ?_
        refine vp_callSi (va_Run.run (va_runVN (As := [.ref (pq (x_cnt pl ((-nI i) - 1) cnt)), .int z]) (rest := []) ⟨hx, hb, hml, hown, hg⟩ (c_X0_mirrors l A D cI cL cQ (pq (x_cnt pl (nI i) cnt)) (nq (x_cnt pl (nI i) cnt)) (pq (x_cnt pl ((-nI i) - 1) cnt)) (nq (x_cnt pl ((-nI i) - 1) cnt)) (nm (x_cnt pl (nI i) cnt)) (nm (x_cnt pl ((-nI i) - 1) cnt)) z) ⟨va_cnB 2 hg (gw_C co_X0_mirrors) rfl rfl rfl (hG.1 _ mn_X2_161) (hg _ ini_X0) (by decide +kernel) ⟨Nat.le_of_ble_eq_true rfl, Nat.le_of_ble_eq_true rfl⟩, hg _ im_X0_mirrors, hg _ se_X0_mirrors⟩ ⟨gp_blind, va_recv hK hP (ci := 0) (q0 := 5 + 2 * (x_cnt pl (nI i) cnt)) rfl (xw_p (by omega)), (fun U hU hW => ⟨rfl, hG.warm hS hU hW, pu_B.at hK (va_P4 hP (xw_p (k := (x_cnt pl (nI i) cnt)) (by omega)) (xw_n (k := (x_cnt pl (nI i) cnt)) (by omega)) (xw_p (k := (x_cnt pl ((-nI i) - 1) cnt)) (by omega)) (xw_n (k := (x_cnt pl ((-nI i) - 1) cnt)) (by omega))) hU hW⟩)⟩ rfl rfl hl.1 rfl (lv_room (Nat.le_of_ble_eq_true rfl)) dX2_isMirrored_32 ⟨Nat.le_of_ble_eq_true rfl, Nat.le_of_ble_eq_true rfl⟩)) (fun r_6 hr_6 => ?_)
        subst hr_6
        refine lv_if_ne (tgt := 40) hx hb dX2_isMirrored_35 (by decide) (fun c_7 => ?_) (fun c_7 => ?_)
        · replace c_7 := zi_n0 c_7
          refine lv_iinc (v := nI (i + 1)) (lv' := [(2, .int (nI (i + 1))), (0, .ref (a 0)), (1, .int z)]) hx hb dX2_isMirrored_40 hl (k := 0) rfl (nI_1 i) (by decide) rfl (fun ls hl => ?_)
          refine lv_goto (tgt := 2) hx hb dX2_isMirrored_43 (by decide) ?_
          exact ih (i + 1) (by omega) (by rw [x_mir, hk, c_7]; rfl)  (by omega) ls (lv_sub hl [0, 1, 2] rfl)
        · replace c_7 := zi_0 c_7
          refine lv_iconst (v := 0) hx hb dX2_isMirrored_38 (by decide) ?_
          exact W.zret (v := 0) hx hb hr rfl (fun t ht hW => ⟨0, rfl, by rw [x_mir_f c_7 7 (by omega)]; rfl, ht⟩) (fun _ h => nomatch h) dX2_isMirrored_39
  exact L2 (7 + 1) 0 (Nat.zero_le _) (rfl)  (Nat.lt_succ_self _) ls (lv_sub hl [0, 1, 2] rfl)
set_option maxHeartbeats 4000000 in
set_option maxRecDepth 100000 in
theorem c_X2_symmetry (l : Launch) (A : Nat → Prop) (D : va_G) (cI cL cQ : ClassId) (fr : va_W) (a : Nat → Nat) (pl : Nat → Int32) (pq nq : Nat → Nat) (nm : Nat → Nat → Int32) (ab : Int64) (lg : Nat → Int32) (cnt : Nat) (hc : cnt ≤ 3) (kn : Int32) : Met l yX2_symmetry wsX2_symmetry { frames := 3, cells := 0, slots := 0, locals := 65 } (va_Pc [.ref (a 0)] (fun U => gl_G A U U.heap ∧ pu_B D (ty3 cI cL cQ) (xw cI cQ a pl pq nq nm ab lg (nI cnt) kn ++ fr) U)) (vp_Si (fun r => r = x_sym pl nm cnt)) 0 0 (fun _ => False) := by
  refine Met.ofW (cc := cX2_symmetry) (maxL := 3) (ret := (some .int)) (by decide) rfl ?_
  intro p e s m args below meth c s₁ B hml hv
  obtain ⟨rfl, hG, hK, hP⟩ := hv
  have hx := B.exec
  have hb := B.bytes
  have hr := B.returns
  have hts := atoms_spec (ws := wsX2_symmetry) B.pre
  have hg : ∀ w ∈ gw, w.before ([.ref (a 0)] : List Value).toArray s = true := fun w h => hts w (List.mem_cons_of_mem _ h)
  have hown : s.vm.findClass RX2 = some m.cls := findClass_of_methodNamed B.named
  have hlocks := B.notSynchronized
  have hl := lv_entry ([.ref (a 0)]) (n := 3) (Nat.le_of_ble_eq_true rfl)
  rw [lg_entry_eq]
  generalize (lg_sl ([.ref (a 0)]) ++ List.replicate (3 - (lg_sl ([.ref (a 0)])).length) Slot.unset).toArray = ls at hl ⊢
  have hl : lv_has ls 3 [(0, .ref (a 0))] := hl
  have hS : va_S A s.heap s.heap [] := va_S.rf
  refine lv_aload_n hx hb dX2_symmetry_0 rfl (lv_at hl 0 rfl) ?_
  refine lv_iconst (v := 1) hx hb dX2_symmetry_1 (by decide) ?_
  refine vp_callSi (W.runV (As := [.int 1]) (rest := []) ⟨hx, hb, hml, hown, hg⟩ (c_X2_isMirrored l A D cI cL cQ fr a pl pq nq nm ab lg cnt hc kn 1) (cwV 1 hg (gw_V ml_X2_138 im_X2_isMirrored se_X2_isMirrored ini_X2 co_X2_isMirrored) rfl rfl rfl (by decide +kernel) ⟨Nat.le_of_ble_eq_true rfl, Nat.le_of_ble_eq_true rfl⟩) ⟨gp_blind, va_recv hK hP (ci := 2) (q0 := 0) rfl rfl, (fun U hU hW => ⟨rfl, hG.warm hS hU hW, pu_B.at hK hP hU hW⟩)⟩ rfl rfl hl.1 rfl (lv_room (Nat.le_of_ble_eq_true rfl)) dX2_symmetry_2 ⟨Nat.le_of_ble_eq_true rfl, Nat.le_of_ble_eq_true rfl⟩) (fun r_1 hr_1 => ?_)
  subst hr_1
  refine lv_istore_n (lv' := [(1, .int (zi (x_mir pl nm cnt 1 7))), (0, .ref (a 0))]) hx hb dX2_symmetry_5 rfl hl (by decide) rfl (fun ls hl => ?_)
  refine lv_aload_n hx hb dX2_symmetry_6 rfl (lv_at hl 1 rfl) ?_
  refine lv_iconst (v := (-1)) hx hb dX2_symmetry_7 (by decide) ?_
  refine vp_callSi (W.runV (As := [.int (-1)]) (rest := []) ⟨hx, hb, hml, hown, hg⟩ (c_X2_isMirrored l A D cI cL cQ fr a pl pq nq nm ab lg cnt hc kn (-1)) (cwV 1 hg (gw_V ml_X2_138 im_X2_isMirrored se_X2_isMirrored ini_X2 co_X2_isMirrored) rfl rfl rfl (by decide +kernel) ⟨Nat.le_of_ble_eq_true rfl, Nat.le_of_ble_eq_true rfl⟩) ⟨gp_blind, va_recv hK hP (ci := 2) (q0 := 0) rfl rfl, (fun U hU hW => ⟨rfl, hG.warm hS hU hW, pu_B.at hK hP hU hW⟩)⟩ rfl rfl hl.1 rfl (lv_room (Nat.le_of_ble_eq_true rfl)) dX2_symmetry_8 ⟨Nat.le_of_ble_eq_true rfl, Nat.le_of_ble_eq_true rfl⟩) (fun r_2 hr_2 => ?_)
  subst hr_2
  refine lv_istore_n (lv' := [(2, .int (zi (x_mir pl nm cnt (-1) 7))), (1, .int (zi (x_mir pl nm cnt 1 7))), (0, .ref (a 0))]) hx hb dX2_symmetry_11 rfl hl (by decide) rfl (fun ls hl => ?_)
  refine lv_iload_n hx hb dX2_symmetry_12 rfl (lv_at hl 1 rfl) ?_
  refine lv_if_eq (tgt := 22) hx hb dX2_symmetry_13 (by decide) (fun c_3 => ?_) (fun c_3 => ?_)
  · replace c_3 := zi_0 c_3
    refine lv_iload_n hx hb dX2_symmetry_22 rfl (lv_at hl 1 rfl) ?_
    refine lv_if_eq (tgt := 30) hx hb dX2_symmetry_23 (by decide) (fun c_4 => ?_) (fun c_4 => ?_)
    · replace c_4 := zi_0 c_4
      refine lv_iload_n hx hb dX2_symmetry_30 rfl (lv_at hl 0 rfl) ?_
      refine lv_if_eq (tgt := 38) hx hb dX2_symmetry_31 (by decide) (fun c_5 => ?_) (fun c_5 => ?_)
      · replace c_5 := zi_0 c_5
        refine lv_iconst (v := 0) hx hb dX2_symmetry_38 (by decide) ?_
        exact W.iret (v := 0) hx hb hr (fun t ht hW => ⟨0, rfl, by first | (simp [x_sym, c_3, c_4, c_5]; done) | exact absurd (c_3.symm.trans c_4) (by decide) | exact absurd (c_3.symm.trans c_5) (by decide) | exact absurd (c_4.symm.trans c_5) (by decide), ht⟩) (fun _ h => nomatch h) dX2_symmetry_39
      · replace c_5 := zi_n0 c_5
        refine lv_iconst (v := (-1)) hx hb dX2_symmetry_34 (by decide) ?_
        refine lv_goto (tgt := 39) hx hb dX2_symmetry_35 (by decide) ?_
        exact W.iret (v := (-1)) hx hb hr (fun t ht hW => ⟨(-1), rfl, by first | (simp [x_sym, c_3, c_4, c_5]; done) | exact absurd (c_3.symm.trans c_4) (by decide) | exact absurd (c_3.symm.trans c_5) (by decide) | exact absurd (c_4.symm.trans c_5) (by decide), ht⟩) (fun _ h => nomatch h) dX2_symmetry_39
    · replace c_4 := zi_n0 c_4
      refine lv_iconst (v := 1) hx hb dX2_symmetry_26 (by decide) ?_
      refine lv_goto (tgt := 39) hx hb dX2_symmetry_27 (by decide) ?_
      exact W.iret (v := 1) hx hb hr (fun t ht hW => ⟨1, rfl, by first | (simp [x_sym, c_3, c_4]; done) | exact absurd (c_3.symm.trans c_4) (by decide), ht⟩) (fun _ h => nomatch h) dX2_symmetry_39
  · replace c_3 := zi_n0 c_3
    refine lv_iload_n hx hb dX2_symmetry_16 rfl (lv_at hl 0 rfl) ?_
    refine lv_if_eq (tgt := 22) hx hb dX2_symmetry_17 (by decide) (fun c_6 => ?_) (fun c_6 => ?_)
    · replace c_6 := zi_0 c_6
      refine lv_iload_n hx hb dX2_symmetry_22 rfl (lv_at hl 1 rfl) ?_
      refine lv_if_eq (tgt := 30) hx hb dX2_symmetry_23 (by decide) (fun c_7 => ?_) (fun c_7 => ?_)
      · replace c_7 := zi_0 c_7
        refine lv_iload_n hx hb dX2_symmetry_30 rfl (lv_at hl 0 rfl) ?_
        refine lv_if_eq (tgt := 38) hx hb dX2_symmetry_31 (by decide) (fun c_8 => ?_) (fun c_8 => ?_)
        · replace c_8 := zi_0 c_8
          refine lv_iconst (v := 0) hx hb dX2_symmetry_38 (by decide) ?_
          exact W.iret (v := 0) hx hb hr (fun t ht hW => ⟨0, rfl, by first | (simp [x_sym, c_3, c_6, c_7, c_8]; done) | exact absurd (c_3.symm.trans c_6) (by decide) | exact absurd (c_3.symm.trans c_7) (by decide) | exact absurd (c_3.symm.trans c_8) (by decide) | exact absurd (c_6.symm.trans c_7) (by decide) | exact absurd (c_6.symm.trans c_8) (by decide) | exact absurd (c_7.symm.trans c_8) (by decide), ht⟩) (fun _ h => nomatch h) dX2_symmetry_39
        · replace c_8 := zi_n0 c_8
          refine lv_iconst (v := (-1)) hx hb dX2_symmetry_34 (by decide) ?_
          refine lv_goto (tgt := 39) hx hb dX2_symmetry_35 (by decide) ?_
          exact W.iret (v := (-1)) hx hb hr (fun t ht hW => ⟨(-1), rfl, by first | (simp [x_sym, c_3, c_6, c_7, c_8]; done) | exact absurd (c_3.symm.trans c_6) (by decide) | exact absurd (c_3.symm.trans c_7) (by decide) | exact absurd (c_3.symm.trans c_8) (by decide) | exact absurd (c_6.symm.trans c_7) (by decide) | exact absurd (c_6.symm.trans c_8) (by decide) | exact absurd (c_7.symm.trans c_8) (by decide), ht⟩) (fun _ h => nomatch h) dX2_symmetry_39
      · replace c_7 := zi_n0 c_7
        refine lv_iconst (v := 1) hx hb dX2_symmetry_26 (by decide) ?_
        refine lv_goto (tgt := 39) hx hb dX2_symmetry_27 (by decide) ?_
        exact W.iret (v := 1) hx hb hr (fun t ht hW => ⟨1, rfl, by first | (simp [x_sym, c_3, c_6, c_7]; done) | exact absurd (c_3.symm.trans c_6) (by decide) | exact absurd (c_3.symm.trans c_7) (by decide) | exact absurd (c_6.symm.trans c_7) (by decide), ht⟩) (fun _ h => nomatch h) dX2_symmetry_39
    · replace c_6 := zi_n0 c_6
      refine lv_iconst (v := 2) hx hb dX2_symmetry_20 (by decide) ?_
      exact W.iret (v := 2) hx hb hr (fun t ht hW => ⟨2, rfl, by first | (simp [x_sym, c_3, c_6]; done) | exact absurd (c_3.symm.trans c_6) (by decide), ht⟩) (fun _ h => nomatch h) dX2_symmetry_21
set_option maxHeartbeats 4000000 in
set_option maxRecDepth 100000 in
theorem c_X2_clear (l : Launch) (A : Nat → Prop) (D : va_G) (cI cL cQ : ClassId) (fr : va_W) (a : Nat → Nat) (pl : Nat → Int32) (pq nq : Nat → Nat) (nm : Nat → Nat → Int32) (ab : Int64) (lg : Nat → Int32) (cnt : Nat) (hc : cnt ≤ 3) (kn : Int32) : Met l yX2_clear wsX2_clear { frames := 2, cells := 0, slots := 0, locals := 43 } (va_Pc [.ref (a 0)] (wd_B D (ty3 cI cL cQ) A (xw cI cQ a pl pq nq nm ab lg (nI cnt) kn ++ fr))) (va_Qv (fun _ : Unit => True) (fun _ t => wd_E D (ty3 cI cL cQ) A (xw cI cQ a pl pq nq (va_up nm 0 (fun _ => 0)) ab lg 0 0 ++ fr) t) A) 0 0 A := by
  refine Met.ofW (cc := cX2_clear) (maxL := 1) (ret := none) (by decide) rfl ?_
  intro p e s m args below meth c s₁ B hml hv
  obtain ⟨rfl, hG, hK, hP, hD, hA⟩ := hv
  have hx := B.exec
  have hb := B.bytes
  have hr := B.returns
  have hts := atoms_spec (ws := wsX2_clear) B.pre
  have hg : ∀ w ∈ gw, w.before ([.ref (a 0)] : List Value).toArray s = true := fun w h => hts w (List.mem_cons_of_mem _ h)
  have hown : s.vm.findClass RX2 = some m.cls := findClass_of_methodNamed B.named
  have hlocks := B.notSynchronized
  have hS : va_S A s.heap s.heap [] := va_S.rf
  have hl := lv_entry ([.ref (a 0)]) (n := 1) (Nat.le_of_ble_eq_true rfl)
  rw [lg_entry_eq]
  generalize (lg_sl ([.ref (a 0)]) ++ List.replicate (1 - (lg_sl ([.ref (a 0)])).length) Slot.unset).toArray = ls at hl ⊢
  have hl : lv_has ls 1 [(0, .ref (a 0))] := hl
  refine lv_aload_n hx hb dX2_clear_0 rfl (lv_at hl 0 rfl) ?_
  refine lv_iconst (v := 0) hx hb dX2_clear_1 (by decide) ?_
  refine va_put (D := D) (ci := 2) (v := .int 0) (ty := .int) (C := RX2) (T := TX2) (N := 5) hx hb hg inX2 tyX2 tyX2_ok nmX2 hown hK hP hD hS 0 rfl rfl 3 (by decide) (hg _ fl_X2_26) (fun _ h9 => h9) rfl (by decide +kernel) rfl rfl (Nat.le_of_ble_eq_true rfl) dX2_clear_2 (fun H locs hP hD hS => ?_)
  have hP : va_P D vwCl (xw cI cQ a pl pq nq nm ab lg 0 kn ++ fr) H := hP
  have hD : va_D A (xw cI cQ a pl pq nq nm ab lg 0 kn ++ fr) := hD
  refine lv_aload_n hx hb dX2_clear_5 rfl (lv_at hl 0 rfl) ?_
  refine lv_iconst (v := 0) hx hb dX2_clear_6 (by decide) ?_
  refine va_put (D := D) (ci := 2) (v := .int 0) (ty := .boolean) (C := RX2) (T := TX2) (N := 5) hx hb hg inX2 tyX2 tyX2_ok nmX2 hown hK hP hD hS 0 rfl rfl 4 (by decide) (hg _ fl_X2_30) (fun _ h9 => h9) rfl (by decide +kernel) rfl rfl (Nat.le_of_ble_eq_true rfl) dX2_clear_7 (fun H locs hP hD hS => ?_)
  have hP : va_P D vwCl (xw cI cQ a pl pq nq nm ab lg 0 0 ++ fr) H := hP
  have hD : va_D A (xw cI cQ a pl pq nq nm ab lg 0 0 ++ fr) := hD
  refine lv_aload_n hx hb dX2_clear_10 rfl (lv_at hl 0 rfl) ?_
  refine va_get (D := D) (ci := 2) (v := .ref (a 2)) (C := RX2) (T := TX2) (N := 5) hx hb hg inX2 hown hK hP 0 rfl rfl 1 (by decide) (hg _ fl_X2_15) (fun _ h9 => h9) rfl dX2_clear_11 ?_
  refine lv_iconst (v := 0) hx hb dX2_clear_14 (by decide) ?_
  refine va_aldq (D := D) (n := 4) (f := (fun j => some (pq j))) hx hb hK hP 2 2 rfl rfl (vp_in_nI (show 0 < 4 by decide) (by decide)) dX2_clear_15 ?_
  refine W.eq (g2 := F0 m 16 ls [.ref (pq 0)]) rfl ?_
  refine va_callv (va_runVN (As := []) (rest := []) ⟨hx, hb, hml, hown, hg⟩ (c_X0_wipe l A D cI cL cQ (xw cI cQ a pl pq nq nm ab lg 0 0 ++ fr) 5 6 (pq 0) (nq 0) (nm 0) rfl rfl) ⟨va_cnB 0 hg (gw_C co_X0_wipe) rfl rfl rfl (hG.1 _ mn_X2_141) (hg _ ini_X0) (by decide +kernel) ⟨Nat.le_of_ble_eq_true rfl, Nat.le_of_ble_eq_true rfl⟩, hg _ im_X0_wipe, hg _ se_X0_wipe⟩ ⟨wd_B.blind, va_recv hK hP (ci := 0) (q0 := 5) rfl rfl, (fun U hU hW => ⟨rfl, wd_B.at hG hK hP hD hS hA hU hW⟩)⟩ rfl rfl hl.1 rfl (lv_room (Nat.le_of_ble_eq_true rfl)) dX2_clear_16 ⟨Nat.le_of_ble_eq_true rfl, Nat.le_of_ble_eq_true rfl⟩) hS (fun q _ h => h) (fun q h => h) (fun u t H1 locs ht hvm hr_1 hB hz1 hk1 hS => ?_)
  obtain ⟨hK, hP, hD⟩ := hB.back ht hvm
  generalize H1 = H at hP hS ⊢
  have hP : va_P D vwCl (xw cI cQ a pl pq nq (va_up nm 0 (fun _ => 0)) ab lg 0 0 ++ fr) H := hP
  have hD : va_D A (xw cI cQ a pl pq nq (va_up nm 0 (fun _ => 0)) ab lg 0 0 ++ fr) := hD
  exact W.vret hx hb hr (fun t ht hW => ⟨⟨(), rfl, trivial, wd_E.at hK hP hD ht hW⟩, hS.F ht⟩) hS.2.2 dX2_clear_19
def in9 (v : Int32) : Prop := -9 ≤ v.toInt ∧ v.toInt ≤ 9
def in6 (v : Int32) : Prop := -6 ≤ v.toInt ∧ v.toInt ≤ 6
theorem d_ok {x y : Int32} (hx : in9 x) (hy : in6 y) : ¬ x - y = 0 → ¬ 2 * (x - y) * (x - y) = 0 := by
  intro h0 h
  have e : (x - y).toInt = x.toInt - y.toInt := by
    rw [Int32.toInt_sub, ma_I] <;> (unfold in9 in6 at *; omega)
  have hd : (x - y).toInt ≠ 0 := fun h2 => h0 (Int32.toInt_inj.mp (by rw [h2]; rfl))
  generalize x - y = d at *
  have h1 : -15 ≤ d.toInt := by unfold in9 in6 at *; omega
  have h2 : d.toInt ≤ 15 := by unfold in9 in6 at *; omega
  have h3 := congrArg Int32.toInt h
  have hz : (0 : Int32).toInt = 0 := rfl
  have h2' : (2 : Int32).toInt = 2 := rfl
  rw [Int32.toInt_mul, Int32.toInt_mul, h2', hz, ma_I (a := 2 * d.toInt) (by omega) (by omega)] at h3
  have hb : 0 < d.toInt * d.toInt ∧ d.toInt * d.toInt ≤ 225 := by
    have : (d.toInt = -15 ∨ d.toInt = -14 ∨ d.toInt = -13 ∨ d.toInt = -12 ∨ d.toInt = -11 ∨ d.toInt = -10 ∨ d.toInt = -9 ∨ d.toInt = -8 ∨ d.toInt = -7 ∨ d.toInt = -6 ∨ d.toInt = -5 ∨ d.toInt = -4 ∨ d.toInt = -3 ∨ d.toInt = -2 ∨ d.toInt = -1 ∨ d.toInt = 1 ∨ d.toInt = 2 ∨ d.toInt = 3 ∨ d.toInt = 4 ∨ d.toInt = 5 ∨ d.toInt = 6 ∨ d.toInt = 7 ∨ d.toInt = 8 ∨ d.toInt = 9 ∨ d.toInt = 10 ∨ d.toInt = 11 ∨ d.toInt = 12 ∨ d.toInt = 13 ∨ d.toInt = 14 ∨ d.toInt = 15) := by omega
    rcases this with h | h | h | h | h | h | h | h | h | h | h | h | h | h | h | h | h | h | h | h | h | h | h | h | h | h | h | h | h | h <;> rw [h] <;> decide
  rw [Int.mul_assoc, ma_I (by omega) (by omega)] at h3
  omega
def a_st (l : Int32) (pl : Nat → Int32) (i : Nat) : Int32 := if l < x_left pl i then x_left pl i else l
def a_en (r : Int32) (pl : Nat → Int32) (cnt i : Nat) : Int32 := if x_right pl cnt i < r then x_right pl cnt i else r
def a_fold (l r z : Int32) (pl : Nat → Int32) (nm : Nat → Nat → Int32) (cnt : Nat) : Nat → Option (Int64 × (Nat → Int32))
  | 0 => some (0, fun _ => 0)
  | i + 1 => match a_fold l r z pl nm cnt i with
    | none => none
    | some u => if a_st l pl i < a_en r pl cnt i then (if p_div (nm i) (a_st l pl i) (a_en r pl cnt i) then none else some (s_ab (nm i) (a_st l pl i) (-z) (s_ab (nm i) (a_en r pl cnt i) z u.1), s_lg (nm i) (a_st l pl i) (-z) (s_lg (nm i) (a_en r pl cnt i) z u.2))) else some u
theorem a_none {l r z : Int32} {pl : Nat → Int32} {nm : Nat → Nat → Int32} {cnt i : Nat} (h : a_fold l r z pl nm cnt i = none) : ∀ n, i ≤ n → a_fold l r z pl nm cnt n = none
  | 0, hn => by rw [← show i = 0 by omega, h]
  | n + 1, hn => by
    rcases Nat.lt_or_ge i (n + 1) with h1 | h1
    · rw [a_fold, a_none h n (by omega)]
    · rw [← show i = n + 1 by omega, h]
theorem a_st9 {l : Int32} {pl : Nat → Int32} {cnt i : Nat} (hl : in9 l) (hp : ∀ j, j < cnt → in9 (pl j)) (hi : i ≤ cnt) : in9 (a_st l pl i) := by
  unfold a_st x_left
  split <;> split <;> first | exact hl | exact hp _ (by omega) | (constructor <;> decide)
theorem a_en9 {r : Int32} {pl : Nat → Int32} {cnt i : Nat} (hr : in9 r) (hp : ∀ j, j < cnt → in9 (pl j)) : in9 (a_en r pl cnt i) := by
  unfold a_en x_right
  split <;> split <;> first | exact hr | exact hp _ (by omega) | (constructor <;> decide)
set_option maxHeartbeats 4000000 in
set_option maxRecDepth 100000 in
theorem c_X2_addParts (l : Launch) (A : Nat → Prop) (D : va_G) (cI cL cQ : ClassId) (fr : va_W) (a : Nat → Nat) (pl : Nat → Int32) (pq nq : Nat → Nat) (nm : Nat → Nat → Int32) (ab : Int64) (lg : Nat → Int32) (cnt : Nat) (hc : cnt ≤ 3) (kn : Int32) (l9 r9 z : Int32) (hl9 : in9 l9) (hr9 : in9 r9) (hp9 : ∀ j, j < cnt → in9 (pl j)) (hn6 : ∀ j, j ≤ cnt → in6 (nm j 7)) : Met l yX2_addParts wsX2_addParts { frames := 3, cells := 0, slots := 0, locals := 70 } (va_Pc [.ref (a 0), .int l9, .int r9, .int z] (wd_B D (ty3 cI cL cQ) A (xw cI cQ a pl pq nq nm ab lg (nI cnt) kn ++ fr))) (va_Qi (fun r (u : Int64 × (Nat → Int32)) => (a_fold l9 r9 z pl nm cnt (cnt + 1) = some u ∧ r = 1) ∨ (a_fold l9 r9 z pl nm cnt (cnt + 1) = none ∧ r = 0)) (fun u t => wd_E D (ty3 cI cL cQ) A (xw cI cQ a pl pq nq nm u.1 u.2 (nI cnt) kn ++ fr) t) A) 0 0 A := by
  refine Met.ofW (cc := cX2_addParts) (maxL := 7) (ret := (some .boolean)) (by decide) rfl ?_
  intro p e s m args below meth c s₁ B hml hv
  obtain ⟨rfl, hG, hK, hP, hD, hA⟩ := hv
  have hx := B.exec
  have hb := B.bytes
  have hr := B.returns
  have hts := atoms_spec (ws := wsX2_addParts) B.pre
  have hg : ∀ w ∈ gw, w.before ([.ref (a 0), .int l9, .int r9, .int z] : List Value).toArray s = true := fun w h => hts w (List.mem_cons_of_mem _ h)
  have hown : s.vm.findClass RX2 = some m.cls := findClass_of_methodNamed B.named
  have hlocks := B.notSynchronized
  have hS : va_S A s.heap s.heap [] := va_S.rf
  have hl := lv_entry ([.ref (a 0), .int l9, .int r9, .int z]) (n := 7) (Nat.le_of_ble_eq_true rfl)
  rw [lg_entry_eq]
  generalize (lg_sl ([.ref (a 0), .int l9, .int r9, .int z]) ++ List.replicate (7 - (lg_sl ([.ref (a 0), .int l9, .int r9, .int z])).length) Slot.unset).toArray = ls at hl ⊢
  have hl : lv_has ls 7 [(0, .ref (a 0)), (1, .int l9), (2, .int r9), (3, .int z)] := hl
  refine lv_aload_n hx hb dX2_addParts_0 rfl (lv_at hl 0 rfl) ?_
  refine va_get (D := D) (ci := 2) (v := .ref (a 3)) (C := RX2) (T := TX2) (N := 5) hx hb hg inX2 hown hK hP 0 rfl rfl 2 (by decide) (hg _ fl_X2_22) (fun _ h9 => h9) rfl dX2_addParts_1 ?_
  refine va_callv (va_runVN (As := []) (rest := []) ⟨hx, hb, hml, hown, hg⟩ (c_X1_wipe l A D cI cL cQ (xw cI cQ a pl pq nq nm ab lg (nI cnt) kn ++ fr) 3 4 (a 3) (a 4) ab lg rfl rfl) ⟨va_cnB 0 hg (gw_C co_X1_wipe) rfl rfl rfl (hG.1 _ mn_X2_147) (hg _ ini_X1) (by decide +kernel) ⟨Nat.le_of_ble_eq_true rfl, Nat.le_of_ble_eq_true rfl⟩, hg _ im_X1_wipe, hg _ se_X1_wipe⟩ ⟨wd_B.blind, va_recv hK hP (ci := 1) (q0 := 3) rfl rfl, (fun U hU hW => ⟨rfl, wd_B.at hG hK hP hD hS hA hU hW⟩)⟩ rfl rfl hl.1 rfl (lv_room (Nat.le_of_ble_eq_true rfl)) dX2_addParts_4 ⟨Nat.le_of_ble_eq_true rfl, Nat.le_of_ble_eq_true rfl⟩) hS (fun q _ h => h) (fun q h => h) (fun u t H1 locs ht hvm hr_1 hB hz1 hk1 hS => ?_)
  obtain ⟨hK, hP, hD⟩ := hB.back ht hvm
  generalize H1 = H at hP hS ⊢
  have hP : va_P D vwCl (xw cI cQ a pl pq nq nm 0 (fun _ => 0) (nI cnt) kn ++ fr) H := hP
  have hD : va_D A (xw cI cQ a pl pq nq nm 0 (fun _ => 0) (nI cnt) kn ++ fr) := hD
  refine lv_iconst (v := 0) hx hb dX2_addParts_7 (by decide) ?_
  refine lv_istore (lv' := [(4, .int 0), (0, .ref (a 0)), (1, .int l9), (2, .int r9), (3, .int z)]) hx hb dX2_addParts_8 hl (by decide) rfl (fun ls hl => ?_)
  have L10 : ∀ (n9 : Nat) (i : Nat) (ab2 : Int64) (lg2 : Nat → Int32) (H : Heap) (locs : List Loc), (i ≤ cnt + 1) → (a_fold l9 r9 z pl nm cnt i = some (ab2, lg2)) → va_P D vwCl (xw cI cQ a pl pq nq nm ab2 lg2 (nI cnt) kn ++ fr) H → va_D A (xw cI cQ a pl pq nq nm ab2 lg2 (nI cnt) kn ++ fr) → va_S A s.heap H locs → (cnt + 1 - i < n9) → ∀ (ls : Array Slot), lv_has ls 7 [(4, .int (nI i)), (0, .ref (a 0)), (1, .int l9), (2, .int r9), (3, .int z)] → W p l e (headSpec wsX2_addParts { frames := 3, cells := 0, slots := 0, locals := 70 }).room s m ([.ref (a 0), .int l9, .int r9, .int z] : List Value).toArray below meth c H locs 0 0 (MQ below (va_Qi (fun r (u : Int64 × (Nat → Int32)) => (a_fold l9 r9 z pl nm cnt (cnt + 1) = some u ∧ r = 1) ∨ (a_fold l9 r9 z pl nm cnt (cnt + 1) = none ∧ r = 0)) (fun u t => wd_E D (ty3 cI cL cQ) A (xw cI cQ a pl pq nq nm u.1 u.2 (nI cnt) kn ++ fr) t) A) ([.ref (a 0), .int l9, .int r9, .int z] : List Value).toArray s 0 0 A) (F0 m 10 ls []) := by
    clear hP hD hS
    intro n9
    induction n9 with
    | zero => intro i ab2 lg2 H locs hi hk hP hD hS h9; exact absurd h9 (by omega)
    | succ n9 ih =>
      intro i ab2 lg2 H locs hi hk hP hD hS h9 ls hl
      refine lv_iload hx hb dX2_addParts_10 (lv_at hl 0 rfl) ?_
      refine lv_aload_n hx hb dX2_addParts_12 rfl (lv_at hl 1 rfl) ?_
      refine va_get (D := D) (ci := 2) (v := .int (nI cnt)) (C := RX2) (T := TX2) (N := 5) hx hb hg inX2 hown hK hP 0 rfl rfl 3 (by decide) (hg _ fl_X2_26) (fun _ h9 => h9) rfl dX2_addParts_13 ?_
      refine lv_icmp_gt (tgt := 110) hx hb dX2_addParts_16 (by decide) (fun c_2 => ?_) (fun c_2 => ?_)
      · replace c_2 : cnt < i := (nI_ltI (a := cnt) (b := i) (by omega) (by omega)).mp c_2
        refine lv_iconst (v := 1) hx hb dX2_addParts_110 (by decide) ?_
        exact W.zret (v := 1) hx hb hr rfl (fun t ht hW => ⟨⟨1, (ab2, lg2), rfl, Or.inl ⟨by rw [show cnt + 1 = i by omega, hk], rfl⟩, wd_E.at hK hP hD ht hW⟩, hS.F ht⟩) hS.2.2 dX2_addParts_111
      · replace c_2 : ¬ cnt < i := fun h => c_2 ((nI_ltI (a := cnt) (b := i) (by omega) (by omega)).mpr h)
        refine lv_iload_n hx hb dX2_addParts_19 rfl (lv_at hl 2 rfl) ?_
        refine lv_aload_n hx hb dX2_addParts_20 rfl (lv_at hl 1 rfl) ?_
        refine lv_iload hx hb dX2_addParts_21 (lv_at hl 0 rfl) ?_
        refine vp_callSi (W.runV (As := [.int (nI i)]) (rest := [.int l9]) ⟨hx, hb, hml, hown, hg⟩ (c_X2_leftBorder l D cI cL cQ (a 0) (a 1) [.ref (a 1), .ref (a 2), .ref (a 3), .int (nI cnt), .int kn] rfl cnt rfl hc pl i (by omega)) (cwV 1 hg (gw_V ml_X2_148 im_X2_leftBorder se_X2_leftBorder ini_X2 co_X2_leftBorder) rfl rfl rfl (by decide +kernel) ⟨Nat.le_of_ble_eq_true rfl, Nat.le_of_ble_eq_true rfl⟩) ⟨pu_B.blind, va_recv hK hP (ci := 2) (q0 := 0) rfl rfl, (fun U hU hW => ⟨rfl, pu_B.at hK (va_P2 hP (i := 0) (j := 1) rfl rfl) hU hW⟩)⟩ rfl rfl hl.1 rfl (lv_room (Nat.le_of_ble_eq_true rfl)) dX2_addParts_23 ⟨Nat.le_of_ble_eq_true rfl, Nat.le_of_ble_eq_true rfl⟩) (fun r_3 hr_3 => ?_)
        subst hr_3
        refine va_mmax hx hb (by rw [hml]; exact hl.1.symm) hown (hg _ ml_X2_113) (hg _ sm_Mmax) (hg _ ini_J9) (hg _ co_Mmax) (Nat.le_of_ble_eq_true rfl) (Nat.le_of_ble_eq_true rfl) (Nat.le_of_ble_eq_true rfl) (Nat.le_of_ble_eq_true rfl) dX2_addParts_26 ?_
        refine lv_topi (fun v_4 ev_4 => ?_)
        refine lv_istore (lv' := [(5, .int v_4), (4, .int (nI i)), (0, .ref (a 0)), (1, .int l9), (2, .int r9), (3, .int z)]) hx hb dX2_addParts_29 hl (by decide) rfl (fun ls hl => ?_)
        refine lv_iload_n hx hb dX2_addParts_31 rfl (lv_at hl 4 rfl) ?_
        refine lv_aload_n hx hb dX2_addParts_32 rfl (lv_at hl 2 rfl) ?_
        refine lv_iload hx hb dX2_addParts_33 (lv_at hl 1 rfl) ?_
        refine vp_callSi (W.runV (As := [.int (nI i)]) (rest := [.int r9]) ⟨hx, hb, hml, hown, hg⟩ (c_X2_rightBorder l D cI cL cQ (a 0) (a 1) [.ref (a 1), .ref (a 2), .ref (a 3), .int (nI cnt), .int kn] rfl cnt rfl hc pl i (by omega)) (cwV 1 hg (gw_V ml_X2_151 im_X2_rightBorder se_X2_rightBorder ini_X2 co_X2_rightBorder) rfl rfl rfl (by decide +kernel) ⟨Nat.le_of_ble_eq_true rfl, Nat.le_of_ble_eq_true rfl⟩) ⟨pu_B.blind, va_recv hK hP (ci := 2) (q0 := 0) rfl rfl, (fun U hU hW => ⟨rfl, pu_B.at hK (va_P2 hP (i := 0) (j := 1) rfl rfl) hU hW⟩)⟩ rfl rfl hl.1 rfl (lv_room (Nat.le_of_ble_eq_true rfl)) dX2_addParts_35 ⟨Nat.le_of_ble_eq_true rfl, Nat.le_of_ble_eq_true rfl⟩) (fun r_5 hr_5 => ?_)
        subst hr_5
        refine va_mmin hx hb (by rw [hml]; exact hl.1.symm) hown (hg _ ml_X2_107) (hg _ sm_Mmin) (hg _ ini_J9) (hg _ co_Mmin) (Nat.le_of_ble_eq_true rfl) (Nat.le_of_ble_eq_true rfl) (Nat.le_of_ble_eq_true rfl) (Nat.le_of_ble_eq_true rfl) dX2_addParts_38 ?_
        refine lv_topi (fun v_6 ev_6 => ?_)
        refine lv_istore (lv' := [(6, .int v_6), (5, .int v_4), (4, .int (nI i)), (0, .ref (a 0)), (1, .int l9), (2, .int r9), (3, .int z)]) hx hb dX2_addParts_41 hl (by decide) rfl (fun ls hl => ?_)
        refine lv_iload hx hb dX2_addParts_43 (lv_at hl 1 rfl) ?_
        refine lv_iload hx hb dX2_addParts_45 (lv_at hl 0 rfl) ?_
        refine lv_icmp_ge (tgt := 104) hx hb dX2_addParts_47 (by decide) (fun c_7 => ?_) (fun c_7 => ?_)
        · refine lv_iinc (v := nI (i + 1)) (lv' := [(4, .int (nI (i + 1))), (6, .int v_6), (5, .int v_4), (0, .ref (a 0)), (1, .int l9), (2, .int r9), (3, .int z)]) hx hb dX2_addParts_104 hl (k := 2) rfl (nI_1 i) (by decide) rfl (fun ls hl => ?_)
          refine lv_goto (tgt := 10) hx hb dX2_addParts_107 (by decide) ?_
          exact ih (i + 1) ab2 lg2 _ _ (by omega) (by have ea : v_4 = a_st l9 pl i := ev_4; have eb : v_6 = a_en r9 pl cnt i := ev_6; rw [a_fold, hk]; simp only [← ea, ← eb]; rw [if_neg (Int32.not_lt.mpr c_7)]) hP hD hS (by omega) ls (lv_sub hl [0, 3, 4, 5, 6] rfl)
        · refine lv_aload_n hx hb dX2_addParts_50 rfl (lv_at hl 3 rfl) ?_
          refine va_get (D := D) (ci := 2) (v := .ref (a 2)) (C := RX2) (T := TX2) (N := 5) hx hb hg inX2 hown hK hP 0 rfl rfl 1 (by decide) (hg _ fl_X2_15) (fun _ h9 => h9) rfl dX2_addParts_51 ?_
          refine lv_iload hx hb dX2_addParts_54 (lv_at hl 2 rfl) ?_
          refine va_aldq (D := D) (n := 4) (f := (fun j => some (pq j))) hx hb hK hP 2 2 rfl rfl (vp_in_nI (show i < 4 by omega) (by decide)) dX2_addParts_56 ?_
          rw [nI_clamp (show i < 2 ^ 31 by omega)]
          refine W.eq (g2 := F0 m 57 ls [.ref (pq i)]) rfl ?_
          refine lv_iload hx hb dX2_addParts_57 (lv_at hl 1 rfl) ?_
          refine lv_iload hx hb dX2_addParts_59 (lv_at hl 0 rfl) ?_
          refine vp_callSi (va_Run.run (va_runVN (As := [.int v_4, .int v_6]) (rest := []) ⟨hx, hb, hml, hown, hg⟩ (c_X0_diverges l A D cI cL cQ (pq i) (nq i) (nm i) v_4 v_6) ⟨va_cnB 2 hg (gw_C co_X0_diverges) rfl rfl rfl (hG.1 _ mn_X2_154) (hg _ ini_X0) (by decide +kernel) ⟨Nat.le_of_ble_eq_true rfl, Nat.le_of_ble_eq_true rfl⟩, hg _ im_X0_diverges, hg _ se_X0_diverges⟩ ⟨gp_blind, va_recv hK hP (ci := 0) (q0 := 5 + 2 * i) rfl (xw_p (by omega)), (fun U hU hW => ⟨rfl, hG.warm hS hU hW, pu_B.at hK (va_P2 hP (xw_p (k := i) (by omega)) (xw_n (k := i) (by omega))) hU hW⟩)⟩ rfl rfl hl.1 rfl (lv_room (Nat.le_of_ble_eq_true rfl)) dX2_addParts_61 ⟨Nat.le_of_ble_eq_true rfl, Nat.le_of_ble_eq_true rfl⟩)) (fun r_8 hr_8 => ?_)
          subst hr_8
          refine lv_if_eq (tgt := 69) hx hb dX2_addParts_64 (by decide) (fun c_9 => ?_) (fun c_9 => ?_)
          · replace c_9 := zi_0 c_9
            refine lv_aload_n hx hb dX2_addParts_69 rfl (lv_at hl 3 rfl) ?_
            refine va_get (D := D) (ci := 2) (v := .ref (a 3)) (C := RX2) (T := TX2) (N := 5) hx hb hg inX2 hown hK hP 0 rfl rfl 2 (by decide) (hg _ fl_X2_22) (fun _ h9 => h9) rfl dX2_addParts_70 ?_
            refine lv_aload_n hx hb dX2_addParts_73 rfl (lv_at hl 3 rfl) ?_
            refine va_get (D := D) (ci := 2) (v := .ref (a 2)) (C := RX2) (T := TX2) (N := 5) hx hb hg inX2 hown hK hP 0 rfl rfl 1 (by decide) (hg _ fl_X2_15) (fun _ h9 => h9) rfl dX2_addParts_74 ?_
            refine lv_iload hx hb dX2_addParts_77 (lv_at hl 2 rfl) ?_
            refine va_aldq (D := D) (n := 4) (f := (fun j => some (pq j))) hx hb hK hP 2 2 rfl rfl (vp_in_nI (show i < 4 by omega) (by decide)) dX2_addParts_79 ?_
            rw [nI_clamp (show i < 2 ^ 31 by omega)]
            refine W.eq (g2 := F0 m 80 ls [.ref (pq i), .ref (a 3)]) rfl ?_
            refine lv_iload hx hb dX2_addParts_80 (lv_at hl 0 rfl) ?_
            refine lv_iload_n hx hb dX2_addParts_82 rfl (lv_at hl 6 rfl) ?_
            refine va_callv (va_runVN (As := [.ref (pq i), .int v_6, .int z]) (rest := []) ⟨hx, hb, hml, hown, hg⟩ (c_X1_addPrimitive l A D cI cL cQ (xw cI cQ a pl pq nq nm ab2 lg2 (nI cnt) kn ++ fr) 3 4 (a 3) (a 4) ab2 lg2 rfl rfl (5 + 2 * i) (6 + 2 * i) (pq i) (nq i) (nm i) (xw_p (by omega)) (xw_n (by omega)) v_6 z (d_ok (by rw [ev_6]; exact a_en9 hr9 hp9) (hn6 i (by omega)))) ⟨va_cnB 3 hg (gw_C co_X1_addPrimitive) rfl rfl rfl (hG.1 _ mn_X2_157) (hg _ ini_X1) (by decide +kernel) ⟨Nat.le_of_ble_eq_true rfl, Nat.le_of_ble_eq_true rfl⟩, hg _ im_X1_addPrimitive, hg _ se_X1_addPrimitive⟩ ⟨wd_B.blind, va_recv hK hP (ci := 1) (q0 := 3) rfl rfl, (fun U hU hW => ⟨rfl, wd_B.at hG hK hP hD hS hA hU hW⟩)⟩ rfl rfl hl.1 rfl (lv_room (Nat.le_of_ble_eq_true rfl)) dX2_addParts_83 ⟨Nat.le_of_ble_eq_true rfl, Nat.le_of_ble_eq_true rfl⟩) hS (fun q _ h => h) (fun q h => h) (fun u t H1 locs ht hvm hr_10 hB hz1 hk1 hS => ?_)
            obtain ⟨hK, hP, hD⟩ := hB.back ht hvm
            generalize H1 = H at hP hS ⊢
            have hP : va_P D vwCl (xw cI cQ a pl pq nq nm (s_ab (nm i) v_6 z ab2) (s_lg (nm i) v_6 z lg2) (nI cnt) kn ++ fr) H := hP
            have hD : va_D A (xw cI cQ a pl pq nq nm (s_ab (nm i) v_6 z ab2) (s_lg (nm i) v_6 z lg2) (nI cnt) kn ++ fr) := hD
            refine lv_aload_n hx hb dX2_addParts_86 rfl (lv_at hl 3 rfl) ?_
            refine va_get (D := D) (ci := 2) (v := .ref (a 3)) (C := RX2) (T := TX2) (N := 5) hx hb hg inX2 hown hK hP 0 rfl rfl 2 (by decide) (hg _ fl_X2_22) (fun _ h9 => h9) rfl dX2_addParts_87 ?_
            refine lv_aload_n hx hb dX2_addParts_90 rfl (lv_at hl 3 rfl) ?_
            refine va_get (D := D) (ci := 2) (v := .ref (a 2)) (C := RX2) (T := TX2) (N := 5) hx hb hg inX2 hown hK hP 0 rfl rfl 1 (by decide) (hg _ fl_X2_15) (fun _ h9 => h9) rfl dX2_addParts_91 ?_
            refine lv_iload hx hb dX2_addParts_94 (lv_at hl 2 rfl) ?_
            refine va_aldq (D := D) (n := 4) (f := (fun j => some (pq j))) hx hb hK hP 2 2 rfl rfl (vp_in_nI (show i < 4 by omega) (by decide)) dX2_addParts_96 ?_
            rw [nI_clamp (show i < 2 ^ 31 by omega)]
            refine W.eq (g2 := F0 m 97 ls [.ref (pq i), .ref (a 3)]) rfl ?_
            refine lv_iload hx hb dX2_addParts_97 (lv_at hl 1 rfl) ?_
            refine lv_iload_n hx hb dX2_addParts_99 rfl (lv_at hl 6 rfl) ?_
            refine lv_ineg hx hb dX2_addParts_100 ?_
            refine va_callv (va_runVN (As := [.ref (pq i), .int v_4, .int (-z)]) (rest := []) ⟨hx, hb, hml, hown, hg⟩ (c_X1_addPrimitive l A D cI cL cQ (xw cI cQ a pl pq nq nm (s_ab (nm i) v_6 z ab2) (s_lg (nm i) v_6 z lg2) (nI cnt) kn ++ fr) 3 4 (a 3) (a 4) (s_ab (nm i) v_6 z ab2) (s_lg (nm i) v_6 z lg2) rfl rfl (5 + 2 * i) (6 + 2 * i) (pq i) (nq i) (nm i) (xw_p (by omega)) (xw_n (by omega)) v_4 (-z) (d_ok (by rw [ev_4]; exact a_st9 hl9 hp9 (by omega)) (hn6 i (by omega)))) ⟨va_cnB 3 hg (gw_C co_X1_addPrimitive) rfl rfl rfl (hG.1 _ mn_X2_157) (hg _ ini_X1) (by decide +kernel) ⟨Nat.le_of_ble_eq_true rfl, Nat.le_of_ble_eq_true rfl⟩, hg _ im_X1_addPrimitive, hg _ se_X1_addPrimitive⟩ ⟨wd_B.blind, va_recv hK hP (ci := 1) (q0 := 3) rfl rfl, (fun U hU hW => ⟨rfl, wd_B.at hG hK hP hD hS hA hU hW⟩)⟩ rfl rfl hl.1 rfl (lv_room (Nat.le_of_ble_eq_true rfl)) dX2_addParts_101 ⟨Nat.le_of_ble_eq_true rfl, Nat.le_of_ble_eq_true rfl⟩) hS (fun q _ h => h) (fun q h => h) (fun u t H1 locs ht hvm hr_11 hB hz1 hk1 hS => ?_)
            obtain ⟨hK, hP, hD⟩ := hB.back ht hvm
            generalize H1 = H at hP hS ⊢
            have hP : va_P D vwCl (xw cI cQ a pl pq nq nm (s_ab (nm i) v_4 (-z) (s_ab (nm i) v_6 z ab2)) (s_lg (nm i) v_4 (-z) (s_lg (nm i) v_6 z lg2)) (nI cnt) kn ++ fr) H := hP
            have hD : va_D A (xw cI cQ a pl pq nq nm (s_ab (nm i) v_4 (-z) (s_ab (nm i) v_6 z ab2)) (s_lg (nm i) v_4 (-z) (s_lg (nm i) v_6 z lg2)) (nI cnt) kn ++ fr) := hD
            refine lv_iinc (v := nI (i + 1)) (lv' := [(4, .int (nI (i + 1))), (6, .int v_6), (5, .int v_4), (0, .ref (a 0)), (1, .int l9), (2, .int r9), (3, .int z)]) hx hb dX2_addParts_104 hl (k := 2) rfl (nI_1 i) (by decide) rfl (fun ls hl => ?_)
            refine lv_goto (tgt := 10) hx hb dX2_addParts_107 (by decide) ?_
            exact ih (i + 1) (s_ab (nm i) v_4 (-z) (s_ab (nm i) v_6 z ab2)) (s_lg (nm i) v_4 (-z) (s_lg (nm i) v_6 z lg2)) _ _ (by omega) (by have ea : v_4 = a_st l9 pl i := ev_4; have eb : v_6 = a_en r9 pl cnt i := ev_6; rw [a_fold, hk]; simp only [← ea, ← eb]; rw [if_pos (Int32.not_le.mp c_7), if_neg (by rw [c_9]; decide)]) hP hD hS (by omega) ls (lv_sub hl [0, 3, 4, 5, 6] rfl)
          · replace c_9 := zi_n0 c_9
            refine lv_iconst (v := 0) hx hb dX2_addParts_67 (by decide) ?_
            exact W.zret (v := 0) hx hb hr rfl (fun t ht hW => ⟨⟨0, (ab2, lg2), rfl, Or.inr ⟨a_none (i := i + 1) (by have ea : v_4 = a_st l9 pl i := ev_4; have eb : v_6 = a_en r9 pl cnt i := ev_6; rw [a_fold, hk]; simp only [← ea, ← eb]; rw [if_pos (Int32.not_le.mp c_7), if_pos c_9]) _ (by omega), rfl⟩, wd_E.at hK hP hD ht hW⟩, hS.F ht⟩) hS.2.2 dX2_addParts_68
  exact L10 ((cnt + 1) + 1) 0 0 (fun _ => 0) _ _ (Nat.zero_le _) (rfl) hP hD hS (Nat.lt_succ_self _) ls (lv_sub hl [0, 1, 2, 3, 4] rfl)
end
section
theorem xa_47 : ∀ w ∈ vx_atS RX2 47 "java/lang/IllegalArgumentException" ["java/lang/RuntimeException", "java/lang/Exception"], w ∈ gw ∨ w ∈ gn := by decide +kernel
theorem xg_47 : ∀ w ∈ Cond.classLink RX2 43 "java/lang/IllegalArgumentException" :: Cond.initialized "java/lang/IllegalArgumentException" :: vx_atS RX2 47 "java/lang/IllegalArgumentException" ["java/lang/RuntimeException", "java/lang/Exception"], vx_ot w = true := by decide +kernel
theorem xa_54 : ∀ w ∈ vx_atS RX2 54 "java/lang/IllegalStateException" ["java/lang/RuntimeException", "java/lang/Exception"], w ∈ gw ∨ w ∈ gn := by decide +kernel
theorem xg_54 : ∀ w ∈ Cond.classLink RX2 50 "java/lang/IllegalStateException" :: Cond.initialized "java/lang/IllegalStateException" :: vx_atS RX2 54 "java/lang/IllegalStateException" ["java/lang/RuntimeException", "java/lang/Exception"], vx_ot w = true := by decide +kernel
theorem xa_67 : ∀ w ∈ vx_atS RX2 67 "java/lang/IndexOutOfBoundsException" ["java/lang/RuntimeException", "java/lang/Exception"], w ∈ gw ∨ w ∈ gn := by decide +kernel
theorem xg_67 : ∀ w ∈ Cond.classLink RX2 63 "java/lang/IndexOutOfBoundsException" :: Cond.initialized "java/lang/IndexOutOfBoundsException" :: vx_atS RX2 67 "java/lang/IndexOutOfBoundsException" ["java/lang/RuntimeException", "java/lang/Exception"], vx_ot w = true := by decide +kernel
end
section
theorem wd_thr {D : va_G} {tys : List (ClassId × FieldType)} {A : Nat → Prop} {ws : va_W} {s : State} {H : Heap} {locs : List Loc} (hK : va_K D vwCl tys s) (hP : va_P D vwCl ws H) (hD : va_D A ws) (hS : va_S A s.heap H locs) (t : State) (hal : s.vm.Alike t.vm) (hsz : H.size ≤ t.heap.size) (hq : ∀ q : Nat, q < H.size → t.heap[q]? = H[q]?) : wd_E D tys A ws t ∧ va_F A s t :=
  ⟨⟨va_K.moved hal hK, va_P.kept hP (fun k q hk => hq _ (vx_lt hP hk)), hD⟩, ⟨Nat.le_trans hS.1 hsz, fun q h1 h2 => (hq q (Nat.lt_of_lt_of_le h1 hS.1)).trans (hS.2.1 q h1 h2)⟩⟩
def x_kc (k : Int32) (cnt : Nat) : Bool := decide (k < 0) || !decide (k < nI cnt)
def x_pc (k : Int32) (cnt : Nat) : Bool := decide (k < 0) || !decide (k ≤ nI cnt)
def x_nc (k : Int32) : Bool := decide (k < 0) || !decide (k < 8)
theorem x_kn {k : Int32} {cnt : Nat} (hc : cnt ≤ 3) (h1 : ¬ k < 0) (h2 : k < nI cnt) : ∃ j, j < cnt ∧ k = nI j := by
  rcases pk_ix k (show cnt < 2 ^ 31 by omega) with h | h | h
  · exact absurd h h1
  · exact absurd h2 (Int32.not_lt.mpr h)
  · exact h
theorem x_pn {k : Int32} {cnt : Nat} (hc : cnt ≤ 3) (h1 : ¬ k < 0) (h2 : k ≤ nI cnt) : ∃ j, j ≤ cnt ∧ k = nI j := by
  rcases pk_ix k (show cnt + 1 < 2 ^ 31 by omega) with h | h | ⟨j, hj, h⟩
  · exact absurd h h1
  · exfalso
    rw [Int32.le_iff_toInt_le, nI_toInt (by omega)] at h h2
    omega
  · exact ⟨j, by omega, h⟩
theorem x_nn {k : Int32} (h1 : ¬ k < 0) (h2 : k < 8) : ∃ j, j < 8 ∧ k = nI j := by
  rcases pk_ix k (show 8 < 2 ^ 31 by omega) with h | h | h
  · exact absurd h h1
  · exact absurd h2 (Int32.not_lt.mpr h)
  · exact h
set_option maxHeartbeats 4000000 in
set_option maxRecDepth 100000 in
theorem c_X2_place (l : Launch) (hlt : l.stackTraces = false) (A : Nat → Prop) (D : va_G) (cI cL cQ : ClassId) (fr : va_W) (a : Nat → Nat) (pl : Nat → Int32) (pq nq : Nat → Nat) (nm : Nat → Nat → Int32) (ab : Int64) (lg : Nat → Int32) (cnt : Nat) (hc : cnt ≤ 3) (kn : Int32) (k : Int32) : vx_Met l yX2_place wsX2_place { frames := 7, cells := 1, slots := 6, locals := 90 } (va_Pc [.ref (a 0), .int k] (wd_B D (ty3 cI cL cQ) A (xw cI cQ a pl pq nq nm ab lg (nI cnt) kn ++ fr))) (va_Qi (fun r (_ : Unit) => x_kc k cnt = false ∧ ∃ j, j < cnt ∧ k = nI j ∧ r = pl j) (fun _ t => wd_E D (ty3 cI cL cQ) A (xw cI cQ a pl pq nq nm ab lg (nI cnt) kn ++ fr) t) A) (vx_X (fun _ : Unit => True) (fun E _ t => (E = "java/lang/IndexOutOfBoundsException" ∧ x_kc k cnt = true) ∧ wd_E D (ty3 cI cL cQ) A (xw cI cQ a pl pq nq nm ab lg (nI cnt) kn ++ fr) t) A) 1 6 A := by
  refine vx_ofW (cc := cX2_place) (maxL := 2) (ret := (some .int)) (by decide) rfl ?_
  intro p e s m args below meth c s₁ B hml htab hv
  obtain ⟨rfl, hG, hK, hP, hD, hA⟩ := hv
  have hx := B.exec
  have hb := B.bytes
  have hr := B.returns
  have hts := atoms_spec (ws := wsX2_place) B.pre
  have hg : ∀ w ∈ gw, w.before ([.ref (a 0), .int k] : List Value).toArray s = true := fun w h => hts w (List.mem_cons_of_mem _ h)
  have hown : s.vm.findClass RX2 = some m.cls := findClass_of_methodNamed B.named
  have hlocks := B.notSynchronized
  have hS : va_S A s.heap s.heap [] := va_S.rf
  have hl := lv_entry ([.ref (a 0), .int k]) (n := 2) (Nat.le_of_ble_eq_true rfl)
  rw [lg_entry_eq]
  generalize (lg_sl ([.ref (a 0), .int k]) ++ List.replicate (2 - (lg_sl ([.ref (a 0), .int k])).length) Slot.unset).toArray = ls at hl ⊢
  have hl : lv_has ls 2 [(0, .ref (a 0)), (1, .int k)] := hl
  refine lv_iload_n hx hb dX2_place_0 rfl (lv_at hl 1 rfl) ?_
  refine lv_if_lt (tgt := 12) hx hb dX2_place_1 (by decide) (fun c_1 => ?_) (fun c_1 => ?_)
  · obtain ⟨sa, hsa⟩ := hG.2.2.2.1 (65, "no such cut") (by decide)
    exact vx_throwS (names := ["java/lang/RuntimeException", "java/lang/Exception"]) (A := A) (sa := sa) hx hb hlt hown (by decide) (by decide) (hg _ cl_X2_63) (hg _ ini_IndexOutOfBoundsException) hsa (fun w hw => (xa_67 w hw).elim (hg w) (fun h => hG.nest h)) xg_67 hG.2.2.2.2.1 hG.2.2.2.2.2.1 hS (hl.1.trans hml.symm) dX2_place_12 dX2_place_15 dX2_place_16 dX2_place_18 dX2_place_21 (fun x hx9 => (htab x hx9).elim) (Nat.le_of_ble_eq_true rfl) (Nat.le_of_ble_eq_true rfl) (Nat.le_of_ble_eq_true rfl) (Nat.le_of_ble_eq_true rfl) hlocks (fun t hal hsz hq => ⟨(), trivial, ⟨⟨rfl, by simp [x_kc, c_1]⟩, (wd_thr hK hP hD hS t hal hsz hq).1⟩, (wd_thr hK hP hD hS t hal hsz hq).2⟩) hS.2.2 (Nat.le_of_ble_eq_true rfl) (Nat.le_of_ble_eq_true rfl)
  · refine lv_iload_n hx hb dX2_place_4 rfl (lv_at hl 1 rfl) ?_
    refine lv_aload_n hx hb dX2_place_5 rfl (lv_at hl 0 rfl) ?_
    refine va_get (D := D) (ci := 2) (v := .int (nI cnt)) (C := RX2) (T := TX2) (N := 5) hx hb hg inX2 hown hK hP 0 rfl rfl 3 (by decide) (hg _ fl_X2_26) (fun _ h9 => h9) rfl dX2_place_6 ?_
    refine lv_icmp_lt (tgt := 22) hx hb dX2_place_9 (by decide) (fun c_2 => ?_) (fun c_2 => ?_)
    · have hj2 := c_1
      have hj3 := c_2
      obtain ⟨j, hj, rfl⟩ := x_kn hc c_1 c_2
      refine lv_aload_n hx hb dX2_place_22 rfl (lv_at hl 0 rfl) ?_
      refine va_get (D := D) (ci := 2) (v := .ref (a 1)) (C := RX2) (T := TX2) (N := 5) hx hb hg inX2 hown hK hP 0 rfl rfl 0 (by decide) (hg _ fl_X2_9) (fun _ h9 => h9) rfl dX2_place_23 ?_
      refine lv_iload_n hx hb dX2_place_26 rfl (lv_at hl 1 rfl) ?_
      refine va_iald (D := D) (n := 3) (f := pl) hx hb hK hP 1 0 rfl rfl (vp_in_nI (show j < 3 by omega) (by decide)) dX2_place_27 ?_
      rw [nI_clamp (show j < 2 ^ 31 by omega)]
      refine vx_ret ?_
      refine W.widen (k := 1) (n := 6) (Nat.zero_le _) (Nat.zero_le _) ?_
      exact W.iret (v := (pl j)) hx hb hr (fun t ht hW => ⟨⟨(pl j), (), rfl, ⟨by simp [x_kc, hj2, hj3], j, hj, rfl, rfl⟩, wd_E.at hK hP hD ht hW⟩, hS.F ht⟩) hS.2.2 dX2_place_28
    · obtain ⟨sa, hsa⟩ := hG.2.2.2.1 (65, "no such cut") (by decide)
      exact vx_throwS (names := ["java/lang/RuntimeException", "java/lang/Exception"]) (A := A) (sa := sa) hx hb hlt hown (by decide) (by decide) (hg _ cl_X2_63) (hg _ ini_IndexOutOfBoundsException) hsa (fun w hw => (xa_67 w hw).elim (hg w) (fun h => hG.nest h)) xg_67 hG.2.2.2.2.1 hG.2.2.2.2.2.1 hS (hl.1.trans hml.symm) dX2_place_12 dX2_place_15 dX2_place_16 dX2_place_18 dX2_place_21 (fun x hx9 => (htab x hx9).elim) (Nat.le_of_ble_eq_true rfl) (Nat.le_of_ble_eq_true rfl) (Nat.le_of_ble_eq_true rfl) (Nat.le_of_ble_eq_true rfl) hlocks (fun t hal hsz hq => ⟨(), trivial, ⟨⟨rfl, by simp [x_kc, c_1, c_2]⟩, (wd_thr hK hP hD hS t hal hsz hq).1⟩, (wd_thr hK hP hD hS t hal hsz hq).2⟩) hS.2.2 (Nat.le_of_ble_eq_true rfl) (Nat.le_of_ble_eq_true rfl)
set_option maxHeartbeats 4000000 in
set_option maxRecDepth 100000 in
theorem c_X2_at (l : Launch) (hlt : l.stackTraces = false) (A : Nat → Prop) (D : va_G) (cI cL cQ : ClassId) (fr : va_W) (a : Nat → Nat) (pl : Nat → Int32) (pq nq : Nat → Nat) (nm : Nat → Nat → Int32) (ab : Int64) (lg : Nat → Int32) (cnt : Nat) (hc : cnt ≤ 3) (kn : Int32) (k n : Int32) : vx_Met l yX2_at wsX2_at { frames := 7, cells := 1, slots := 6, locals := 90 } (va_Pc [.ref (a 0), .int k, .int n] (wd_B D (ty3 cI cL cQ) A (xw cI cQ a pl pq nq nm ab lg (nI cnt) kn ++ fr))) (va_Qi (fun r (_ : Unit) => x_pc k cnt = false ∧ x_nc n = false ∧ ∃ i j, i ≤ cnt ∧ j < 8 ∧ k = nI i ∧ n = nI j ∧ r = nm i j) (fun _ t => wd_E D (ty3 cI cL cQ) A (xw cI cQ a pl pq nq nm ab lg (nI cnt) kn ++ fr) t) A) (vx_X (fun _ : Unit => True) (fun E _ t => ((E = "java/lang/IndexOutOfBoundsException" ∧ x_pc k cnt = true) ∨ (E = "java/lang/IllegalArgumentException" ∧ x_pc k cnt = false ∧ x_nc n = true)) ∧ wd_E D (ty3 cI cL cQ) A (xw cI cQ a pl pq nq nm ab lg (nI cnt) kn ++ fr) t) A) 1 6 A := by
  refine vx_ofW (cc := cX2_at) (maxL := 3) (ret := (some .int)) (by decide) rfl ?_
  intro p e s m args below meth c s₁ B hml htab hv
  obtain ⟨rfl, hG, hK, hP, hD, hA⟩ := hv
  have hx := B.exec
  have hb := B.bytes
  have hr := B.returns
  have hts := atoms_spec (ws := wsX2_at) B.pre
  have hg : ∀ w ∈ gw, w.before ([.ref (a 0), .int k, .int n] : List Value).toArray s = true := fun w h => hts w (List.mem_cons_of_mem _ h)
  have hown : s.vm.findClass RX2 = some m.cls := findClass_of_methodNamed B.named
  have hlocks := B.notSynchronized
  have hS : va_S A s.heap s.heap [] := va_S.rf
  have hl := lv_entry ([.ref (a 0), .int k, .int n]) (n := 3) (Nat.le_of_ble_eq_true rfl)
  rw [lg_entry_eq]
  generalize (lg_sl ([.ref (a 0), .int k, .int n]) ++ List.replicate (3 - (lg_sl ([.ref (a 0), .int k, .int n])).length) Slot.unset).toArray = ls at hl ⊢
  have hl : lv_has ls 3 [(0, .ref (a 0)), (1, .int k), (2, .int n)] := hl
  refine lv_iload_n hx hb dX2_at_0 rfl (lv_at hl 1 rfl) ?_
  refine lv_if_lt (tgt := 12) hx hb dX2_at_1 (by decide) (fun c_1 => ?_) (fun c_1 => ?_)
  · obtain ⟨sa, hsa⟩ := hG.2.2.2.1 (68, "no such piece") (by decide)
    exact vx_throwS (names := ["java/lang/RuntimeException", "java/lang/Exception"]) (A := A) (sa := sa) hx hb hlt hown (by decide) (by decide) (hg _ cl_X2_63) (hg _ ini_IndexOutOfBoundsException) hsa (fun w hw => (xa_67 w hw).elim (hg w) (fun h => hG.nest h)) xg_67 hG.2.2.2.2.1 hG.2.2.2.2.2.1 hS (hl.1.trans hml.symm) dX2_at_12 dX2_at_15 dX2_at_16 dX2_at_18 dX2_at_21 (fun x hx9 => (htab x hx9).elim) (Nat.le_of_ble_eq_true rfl) (Nat.le_of_ble_eq_true rfl) (Nat.le_of_ble_eq_true rfl) (Nat.le_of_ble_eq_true rfl) hlocks (fun t hal hsz hq => ⟨(), trivial, ⟨Or.inl ⟨rfl, by simp [x_pc, c_1]⟩, (wd_thr hK hP hD hS t hal hsz hq).1⟩, (wd_thr hK hP hD hS t hal hsz hq).2⟩) hS.2.2 (Nat.le_of_ble_eq_true rfl) (Nat.le_of_ble_eq_true rfl)
  · refine lv_iload_n hx hb dX2_at_4 rfl (lv_at hl 1 rfl) ?_
    refine lv_aload_n hx hb dX2_at_5 rfl (lv_at hl 0 rfl) ?_
    refine va_get (D := D) (ci := 2) (v := .int (nI cnt)) (C := RX2) (T := TX2) (N := 5) hx hb hg inX2 hown hK hP 0 rfl rfl 3 (by decide) (hg _ fl_X2_26) (fun _ h9 => h9) rfl dX2_at_6 ?_
    refine lv_icmp_le (tgt := 22) hx hb dX2_at_9 (by decide) (fun c_2 => ?_) (fun c_2 => ?_)
    · refine lv_iload_n hx hb dX2_at_22 rfl (lv_at hl 2 rfl) ?_
      refine lv_if_lt (tgt := 32) hx hb dX2_at_23 (by decide) (fun c_3 => ?_) (fun c_3 => ?_)
      · obtain ⟨sa, hsa⟩ := hG.2.2.2.1 (70, "no such number") (by decide)
        exact vx_throwS (names := ["java/lang/RuntimeException", "java/lang/Exception"]) (A := A) (sa := sa) hx hb hlt hown (by decide) (by decide) (hg _ cl_X2_43) (hg _ ini_IllegalArgumentException) hsa (fun w hw => (xa_47 w hw).elim (hg w) (fun h => hG.nest h)) xg_47 hG.2.2.2.2.1 hG.2.2.2.2.2.1 hS (hl.1.trans hml.symm) dX2_at_32 dX2_at_35 dX2_at_36 dX2_at_38 dX2_at_41 (fun x hx9 => (htab x hx9).elim) (Nat.le_of_ble_eq_true rfl) (Nat.le_of_ble_eq_true rfl) (Nat.le_of_ble_eq_true rfl) (Nat.le_of_ble_eq_true rfl) hlocks (fun t hal hsz hq => ⟨(), trivial, ⟨Or.inr ⟨rfl, by simp [x_pc, c_1, c_2], by simp [x_nc, c_3]⟩, (wd_thr hK hP hD hS t hal hsz hq).1⟩, (wd_thr hK hP hD hS t hal hsz hq).2⟩) hS.2.2 (Nat.le_of_ble_eq_true rfl) (Nat.le_of_ble_eq_true rfl)
      · refine lv_iload_n hx hb dX2_at_26 rfl (lv_at hl 2 rfl) ?_
        refine lv_bipush (v := 8) hx hb dX2_at_27 (by decide) ?_
        refine lv_icmp_lt (tgt := 42) hx hb dX2_at_29 (by decide) (fun c_4 => ?_) (fun c_4 => ?_)
        · have hj5 : x_pc k cnt = false := by simp [x_pc, c_1, c_2]
          have hj6 : x_nc n = false := by simp [x_nc, c_3, c_4]
          obtain ⟨i, hi, rfl⟩ := x_pn hc c_1 c_2
          obtain ⟨j, hj, rfl⟩ := x_nn c_3 c_4
          refine lv_aload_n hx hb dX2_at_42 rfl (lv_at hl 0 rfl) ?_
          refine va_get (D := D) (ci := 2) (v := .ref (a 2)) (C := RX2) (T := TX2) (N := 5) hx hb hg inX2 hown hK hP 0 rfl rfl 1 (by decide) (hg _ fl_X2_15) (fun _ h9 => h9) rfl dX2_at_43 ?_
          refine lv_iload_n hx hb dX2_at_46 rfl (lv_at hl 1 rfl) ?_
          refine va_aldq (D := D) (n := 4) (f := (fun j => some (pq j))) hx hb hK hP 2 2 rfl rfl (vp_in_nI (show i < 4 by omega) (by decide)) dX2_at_47 ?_
          rw [nI_clamp (show i < 2 ^ 31 by omega)]
          refine W.eq (g2 := F0 m 48 ls [.ref (pq i)]) rfl ?_
          refine va_getN (D := D) (ci := 0) (v := .ref (nq i)) (C := RX0) (T := TX0) (N := 1) hx hb hg inX0 hown hK hP (5 + 2 * i) (xw_p (show i < 4 by omega)) rfl 0 (by decide) (hG.nest fn_X2_74) (fun _ h9 => h9) rfl dX2_at_48 ?_
          refine lv_iload_n hx hb dX2_at_51 rfl (lv_at hl 2 rfl) ?_
          refine va_iald (D := D) (n := 8) (f := (nm i)) hx hb hK hP (6 + 2 * i) 0 (xw_n (show i < 4 by omega)) rfl (vp_in_nI (show j < 8 by omega) (by decide)) dX2_at_52 ?_
          rw [nI_clamp (show j < 2 ^ 31 by omega)]
          refine vx_ret ?_
          refine W.widen (k := 1) (n := 6) (Nat.zero_le _) (Nat.zero_le _) ?_
          exact W.iret (v := ((nm i) j)) hx hb hr (fun t ht hW => ⟨⟨((nm i) j), (), rfl, ⟨hj5, hj6, i, j, hi, hj, rfl, rfl, rfl⟩, wd_E.at hK hP hD ht hW⟩, hS.F ht⟩) hS.2.2 dX2_at_53
        · obtain ⟨sa, hsa⟩ := hG.2.2.2.1 (70, "no such number") (by decide)
          exact vx_throwS (names := ["java/lang/RuntimeException", "java/lang/Exception"]) (A := A) (sa := sa) hx hb hlt hown (by decide) (by decide) (hg _ cl_X2_43) (hg _ ini_IllegalArgumentException) hsa (fun w hw => (xa_47 w hw).elim (hg w) (fun h => hG.nest h)) xg_47 hG.2.2.2.2.1 hG.2.2.2.2.2.1 hS (hl.1.trans hml.symm) dX2_at_32 dX2_at_35 dX2_at_36 dX2_at_38 dX2_at_41 (fun x hx9 => (htab x hx9).elim) (Nat.le_of_ble_eq_true rfl) (Nat.le_of_ble_eq_true rfl) (Nat.le_of_ble_eq_true rfl) (Nat.le_of_ble_eq_true rfl) hlocks (fun t hal hsz hq => ⟨(), trivial, ⟨Or.inr ⟨rfl, by simp [x_pc, c_1, c_2], by simp [x_nc, c_3, c_4]⟩, (wd_thr hK hP hD hS t hal hsz hq).1⟩, (wd_thr hK hP hD hS t hal hsz hq).2⟩) hS.2.2 (Nat.le_of_ble_eq_true rfl) (Nat.le_of_ble_eq_true rfl)
    · obtain ⟨sa, hsa⟩ := hG.2.2.2.1 (68, "no such piece") (by decide)
      exact vx_throwS (names := ["java/lang/RuntimeException", "java/lang/Exception"]) (A := A) (sa := sa) hx hb hlt hown (by decide) (by decide) (hg _ cl_X2_63) (hg _ ini_IndexOutOfBoundsException) hsa (fun w hw => (xa_67 w hw).elim (hg w) (fun h => hG.nest h)) xg_67 hG.2.2.2.2.1 hG.2.2.2.2.2.1 hS (hl.1.trans hml.symm) dX2_at_12 dX2_at_15 dX2_at_16 dX2_at_18 dX2_at_21 (fun x hx9 => (htab x hx9).elim) (Nat.le_of_ble_eq_true rfl) (Nat.le_of_ble_eq_true rfl) (Nat.le_of_ble_eq_true rfl) (Nat.le_of_ble_eq_true rfl) hlocks (fun t hal hsz hq => ⟨(), trivial, ⟨Or.inl ⟨rfl, by simp [x_pc, c_1, c_2]⟩, (wd_thr hK hP hD hS t hal hsz hq).1⟩, (wd_thr hK hP hD hS t hal hsz hq).2⟩) hS.2.2 (Nat.le_of_ble_eq_true rfl) (Nat.le_of_ble_eq_true rfl)
set_option maxHeartbeats 4000000 in
set_option maxRecDepth 100000 in
theorem c_X2_put (l : Launch) (hlt : l.stackTraces = false) (A : Nat → Prop) (D : va_G) (cI cL cQ : ClassId) (fr : va_W) (a : Nat → Nat) (pl : Nat → Int32) (pq nq : Nat → Nat) (nm : Nat → Nat → Int32) (ab : Int64) (lg : Nat → Int32) (cnt : Nat) (hc : cnt ≤ 3) (kn : Int32) (k n v : Int32) : vx_Met l yX2_put wsX2_put { frames := 7, cells := 1, slots := 6, locals := 90 } (va_Pc [.ref (a 0), .int k, .int n, .int v] (wd_B D (ty3 cI cL cQ) A (xw cI cQ a pl pq nq nm ab lg (nI cnt) kn ++ fr))) (va_Qi (fun r (u : Nat → Nat → Int32) => x_pc k cnt = false ∧ x_nc n = false ∧ x_in v (if n = 7 then 6 else 5) = true ∧ ∃ i j, i ≤ cnt ∧ j < 8 ∧ k = nI i ∧ n = nI j ∧ u = va_up nm i (upd (nm i) j v) ∧ r = zi (!decide (nm i j = v))) (fun u t => wd_E D (ty3 cI cL cQ) A (xw cI cQ a pl pq nq u ab lg (nI cnt) kn ++ fr) t) A) (vx_X (fun _ : Unit => True) (fun E _ t => ((E = "java/lang/IndexOutOfBoundsException" ∧ x_pc k cnt = true) ∨ (E = "java/lang/IllegalArgumentException" ∧ x_pc k cnt = false ∧ (x_nc n = true ∨ x_in v (if n = 7 then 6 else 5) = false))) ∧ wd_E D (ty3 cI cL cQ) A (xw cI cQ a pl pq nq nm ab lg (nI cnt) kn ++ fr) t) A) 1 6 A := by
  refine vx_ofW (cc := cX2_put) (maxL := 6) (ret := (some .boolean)) (by decide) rfl ?_
  intro p e s m args below meth c s₁ B hml htab hv
  obtain ⟨rfl, hG, hK, hP, hD, hA⟩ := hv
  have hx := B.exec
  have hb := B.bytes
  have hr := B.returns
  have hts := atoms_spec (ws := wsX2_put) B.pre
  have hg : ∀ w ∈ gw, w.before ([.ref (a 0), .int k, .int n, .int v] : List Value).toArray s = true := fun w h => hts w (List.mem_cons_of_mem _ h)
  have hown : s.vm.findClass RX2 = some m.cls := findClass_of_methodNamed B.named
  have hlocks := B.notSynchronized
  have hS : va_S A s.heap s.heap [] := va_S.rf
  have hl := lv_entry ([.ref (a 0), .int k, .int n, .int v]) (n := 6) (Nat.le_of_ble_eq_true rfl)
  rw [lg_entry_eq]
  generalize (lg_sl ([.ref (a 0), .int k, .int n, .int v]) ++ List.replicate (6 - (lg_sl ([.ref (a 0), .int k, .int n, .int v])).length) Slot.unset).toArray = ls at hl ⊢
  have hl : lv_has ls 6 [(0, .ref (a 0)), (1, .int k), (2, .int n), (3, .int v)] := hl
  refine lv_iload_n hx hb dX2_put_0 rfl (lv_at hl 1 rfl) ?_
  refine lv_if_lt (tgt := 12) hx hb dX2_put_1 (by decide) (fun c_1 => ?_) (fun c_1 => ?_)
  · obtain ⟨sa, hsa⟩ := hG.2.2.2.1 (68, "no such piece") (by decide)
    exact vx_throwS (names := ["java/lang/RuntimeException", "java/lang/Exception"]) (A := A) (sa := sa) hx hb hlt hown (by decide) (by decide) (hg _ cl_X2_63) (hg _ ini_IndexOutOfBoundsException) hsa (fun w hw => (xa_67 w hw).elim (hg w) (fun h => hG.nest h)) xg_67 hG.2.2.2.2.1 hG.2.2.2.2.2.1 hS (hl.1.trans hml.symm) dX2_put_12 dX2_put_15 dX2_put_16 dX2_put_18 dX2_put_21 (fun x hx9 => (htab x hx9).elim) (Nat.le_of_ble_eq_true rfl) (Nat.le_of_ble_eq_true rfl) (Nat.le_of_ble_eq_true rfl) (Nat.le_of_ble_eq_true rfl) hlocks (fun t hal hsz hq => ⟨(), trivial, ⟨Or.inl ⟨rfl, by simp [x_pc, c_1]⟩, (wd_thr hK hP hD hS t hal hsz hq).1⟩, (wd_thr hK hP hD hS t hal hsz hq).2⟩) hS.2.2 (Nat.le_of_ble_eq_true rfl) (Nat.le_of_ble_eq_true rfl)
  · refine lv_iload_n hx hb dX2_put_4 rfl (lv_at hl 1 rfl) ?_
    refine lv_aload_n hx hb dX2_put_5 rfl (lv_at hl 0 rfl) ?_
    refine va_get (D := D) (ci := 2) (v := .int (nI cnt)) (C := RX2) (T := TX2) (N := 5) hx hb hg inX2 hown hK hP 0 rfl rfl 3 (by decide) (hg _ fl_X2_26) (fun _ h9 => h9) rfl dX2_put_6 ?_
    refine lv_icmp_le (tgt := 22) hx hb dX2_put_9 (by decide) (fun c_2 => ?_) (fun c_2 => ?_)
    · refine lv_iload_n hx hb dX2_put_22 rfl (lv_at hl 2 rfl) ?_
      refine lv_if_lt (tgt := 32) hx hb dX2_put_23 (by decide) (fun c_3 => ?_) (fun c_3 => ?_)
      · obtain ⟨sa, hsa⟩ := hG.2.2.2.1 (70, "no such number") (by decide)
        exact vx_throwS (names := ["java/lang/RuntimeException", "java/lang/Exception"]) (A := A) (sa := sa) hx hb hlt hown (by decide) (by decide) (hg _ cl_X2_43) (hg _ ini_IllegalArgumentException) hsa (fun w hw => (xa_47 w hw).elim (hg w) (fun h => hG.nest h)) xg_47 hG.2.2.2.2.1 hG.2.2.2.2.2.1 hS (hl.1.trans hml.symm) dX2_put_32 dX2_put_35 dX2_put_36 dX2_put_38 dX2_put_41 (fun x hx9 => (htab x hx9).elim) (Nat.le_of_ble_eq_true rfl) (Nat.le_of_ble_eq_true rfl) (Nat.le_of_ble_eq_true rfl) (Nat.le_of_ble_eq_true rfl) hlocks (fun t hal hsz hq => ⟨(), trivial, ⟨Or.inr ⟨rfl, by simp [x_pc, c_1, c_2], Or.inl (by simp [x_nc, c_3])⟩, (wd_thr hK hP hD hS t hal hsz hq).1⟩, (wd_thr hK hP hD hS t hal hsz hq).2⟩) hS.2.2 (Nat.le_of_ble_eq_true rfl) (Nat.le_of_ble_eq_true rfl)
      · refine lv_iload_n hx hb dX2_put_26 rfl (lv_at hl 2 rfl) ?_
        refine lv_bipush (v := 8) hx hb dX2_put_27 (by decide) ?_
        refine lv_icmp_lt (tgt := 42) hx hb dX2_put_29 (by decide) (fun c_4 => ?_) (fun c_4 => ?_)
        · have hcut : W p l e (headSpec wsX2_put { frames := 7, cells := 1, slots := 6, locals := 90 }).room s m ([.ref (a 0), .int k, .int n, .int v] : List Value).toArray below meth c s.heap [] 0 0 (vx_MQ below (va_Qi (fun r (u : Nat → Nat → Int32) => x_pc k cnt = false ∧ x_nc n = false ∧ x_in v (if n = 7 then 6 else 5) = true ∧ ∃ i j, i ≤ cnt ∧ j < 8 ∧ k = nI i ∧ n = nI j ∧ u = va_up nm i (upd (nm i) j v) ∧ r = zi (!decide (nm i j = v))) (fun u t => wd_E D (ty3 cI cL cQ) A (xw cI cQ a pl pq nq u ab lg (nI cnt) kn ++ fr) t) A) (vx_X (fun _ : Unit => True) (fun E _ t => ((E = "java/lang/IndexOutOfBoundsException" ∧ x_pc k cnt = true) ∨ (E = "java/lang/IllegalArgumentException" ∧ x_pc k cnt = false ∧ (x_nc n = true ∨ x_in v (if n = 7 then 6 else 5) = false))) ∧ wd_E D (ty3 cI cL cQ) A (xw cI cQ a pl pq nq nm ab lg (nI cnt) kn ++ fr) t) A) ([.ref (a 0), .int k, .int n, .int v] : List Value).toArray s 1 6 A) (F0 m 55 ls [.int (if n = 7 then 6 else 5), .int v]) := by
            refine vp_callSi (W.runS (As := [.int v, .int (if n = 7 then 6 else 5)]) (rest := []) ⟨hx, hb, hml, hown, hg⟩ (c_X2_isWithin l v (if n = 7 then 6 else 5)) (va_cwS 2 hg (gw_S ml_X2_35 sm_X2_isWithin ini_X2 co_X2_isWithin) rfl rfl rfl (by decide +kernel) ⟨Nat.le_of_ble_eq_true rfl, Nat.le_of_ble_eq_true rfl⟩) ⟨tt_blind, (fun U hU hW => ⟨rfl, trivial⟩)⟩ rfl rfl hl.1 rfl (lv_room (Nat.le_of_ble_eq_true rfl)) dX2_put_55 ⟨Nat.le_of_ble_eq_true rfl, Nat.le_of_ble_eq_true rfl⟩) (fun r_5 hr_5 => ?_)
            subst hr_5
            refine lv_if_ne (tgt := 71) hx hb dX2_put_58 (by decide) (fun c_6 => ?_) (fun c_6 => ?_)
            · replace c_6 := zi_n0 c_6
              have hj5 : x_pc k cnt = false := by simp [x_pc, c_1, c_2]
              have hj6 : x_nc n = false := by simp [x_nc, c_3, c_4]
              have hj7 := c_6
              obtain ⟨i, hi, rfl⟩ := x_pn hc c_1 c_2
              obtain ⟨j, hj, rfl⟩ := x_nn c_3 c_4
              refine lv_aload_n hx hb dX2_put_71 rfl (lv_at hl 0 rfl) ?_
              refine va_get (D := D) (ci := 2) (v := .ref (a 2)) (C := RX2) (T := TX2) (N := 5) hx hb hg inX2 hown hK hP 0 rfl rfl 1 (by decide) (hg _ fl_X2_15) (fun _ h9 => h9) rfl dX2_put_72 ?_
              refine lv_iload_n hx hb dX2_put_75 rfl (lv_at hl 1 rfl) ?_
              refine va_aldq (D := D) (n := 4) (f := (fun j => some (pq j))) hx hb hK hP 2 2 rfl rfl (vp_in_nI (show i < 4 by omega) (by decide)) dX2_put_76 ?_
              rw [nI_clamp (show i < 2 ^ 31 by omega)]
              refine W.eq (g2 := F0 m 77 ls [.ref (pq i)]) rfl ?_
              refine va_getN (D := D) (ci := 0) (v := .ref (nq i)) (C := RX0) (T := TX0) (N := 1) hx hb hg inX0 hown hK hP (5 + 2 * i) (xw_p (show i < 4 by omega)) rfl 0 (by decide) (hG.nest fn_X2_74) (fun _ h9 => h9) rfl dX2_put_77 ?_
              refine lv_astore (lv' := [(4, .ref (nq i)), (0, .ref (a 0)), (1, .int (nI i)), (2, .int (nI j)), (3, .int v)]) hx hb dX2_put_80 hl (by decide) rfl (fun ls hl => ?_)
              refine lv_aload hx hb dX2_put_82 (lv_at hl 0 rfl) ?_
              refine lv_iload_n hx hb dX2_put_84 rfl (lv_at hl 3 rfl) ?_
              refine va_iald (D := D) (n := 8) (f := (nm i)) hx hb hK hP (6 + 2 * i) 0 (xw_n (show i < 4 by omega)) rfl (vp_in_nI (show j < 8 by omega) (by decide)) dX2_put_85 ?_
              rw [nI_clamp (show j < 2 ^ 31 by omega)]
              refine lv_iload_n hx hb dX2_put_86 rfl (lv_at hl 4 rfl) ?_
              refine lv_icmp_eq (tgt := 94) hx hb dX2_put_87 (by decide) (fun c_7 => ?_) (fun c_7 => ?_)
              · refine lv_iconst (v := 0) hx hb dX2_put_94 (by decide) ?_
                refine lv_istore (lv' := [(5, .int 0), (4, .ref (nq i)), (0, .ref (a 0)), (1, .int (nI i)), (2, .int (nI j)), (3, .int v)]) hx hb dX2_put_95 hl (by decide) rfl (fun ls hl => ?_)
                refine lv_aload hx hb dX2_put_97 (lv_at hl 1 rfl) ?_
                refine lv_iload_n hx hb dX2_put_99 rfl (lv_at hl 4 rfl) ?_
                refine lv_iload_n hx hb dX2_put_100 rfl (lv_at hl 5 rfl) ?_
                refine va_iast (D := D) (n := 8) (f := (nm i)) (x := v) hx hb hK hP hD hS (6 + 2 * i) 0 (xw_n (show i < 4 by omega)) rfl (vp_in_nI (show j < 8 by omega) (by decide)) dX2_put_101 (fun H locs hP hD hS => ?_)
                rw [nI_clamp (show j < 2 ^ 31 by omega)] at hP hD
                rw [xw_s (show i < 4 by omega)] at hP hD
                have hP : va_P D vwCl (xw cI cQ a pl pq nq (va_up nm i (upd (nm i) j v)) ab lg (nI cnt) kn ++ fr) H := hP
                have hD : va_D A (xw cI cQ a pl pq nq (va_up nm i (upd (nm i) j v)) ab lg (nI cnt) kn ++ fr) := hD
                refine lv_iload hx hb dX2_put_102 (lv_at hl 0 rfl) ?_
                refine vx_ret ?_
                refine W.widen (k := 1) (n := 6) (Nat.zero_le _) (Nat.zero_le _) ?_
                exact W.zret (v := 0) hx hb hr rfl (fun t ht hW => ⟨⟨0, (va_up nm i (upd (nm i) j v)), rfl, ⟨hj5, hj6, hj7, i, j, hi, hj, rfl, rfl, rfl, by simp [zi, c_7]⟩, wd_E.at hK hP hD ht hW⟩, hS.F ht⟩) hS.2.2 dX2_put_104
              · refine lv_iconst (v := 1) hx hb dX2_put_90 (by decide) ?_
                refine lv_goto (tgt := 95) hx hb dX2_put_91 (by decide) ?_
                refine lv_istore (lv' := [(5, .int 1), (4, .ref (nq i)), (0, .ref (a 0)), (1, .int (nI i)), (2, .int (nI j)), (3, .int v)]) hx hb dX2_put_95 hl (by decide) rfl (fun ls hl => ?_)
                refine lv_aload hx hb dX2_put_97 (lv_at hl 1 rfl) ?_
                refine lv_iload_n hx hb dX2_put_99 rfl (lv_at hl 4 rfl) ?_
                refine lv_iload_n hx hb dX2_put_100 rfl (lv_at hl 5 rfl) ?_
                refine va_iast (D := D) (n := 8) (f := (nm i)) (x := v) hx hb hK hP hD hS (6 + 2 * i) 0 (xw_n (show i < 4 by omega)) rfl (vp_in_nI (show j < 8 by omega) (by decide)) dX2_put_101 (fun H locs hP hD hS => ?_)
                rw [nI_clamp (show j < 2 ^ 31 by omega)] at hP hD
                rw [xw_s (show i < 4 by omega)] at hP hD
                have hP : va_P D vwCl (xw cI cQ a pl pq nq (va_up nm i (upd (nm i) j v)) ab lg (nI cnt) kn ++ fr) H := hP
                have hD : va_D A (xw cI cQ a pl pq nq (va_up nm i (upd (nm i) j v)) ab lg (nI cnt) kn ++ fr) := hD
                refine lv_iload hx hb dX2_put_102 (lv_at hl 0 rfl) ?_
                refine vx_ret ?_
                refine W.widen (k := 1) (n := 6) (Nat.zero_le _) (Nat.zero_le _) ?_
                exact W.zret (v := 1) hx hb hr rfl (fun t ht hW => ⟨⟨1, (va_up nm i (upd (nm i) j v)), rfl, ⟨hj5, hj6, hj7, i, j, hi, hj, rfl, rfl, rfl, by simp [zi, c_7]⟩, wd_E.at hK hP hD ht hW⟩, hS.F ht⟩) hS.2.2 dX2_put_104
            · replace c_6 := zi_0 c_6
              obtain ⟨sa, hsa⟩ := hG.2.2.2.1 (72, "the number can't be that") (by decide)
              exact vx_throwS (names := ["java/lang/RuntimeException", "java/lang/Exception"]) (A := A) (sa := sa) hx hb hlt hown (by decide) (by decide) (hg _ cl_X2_43) (hg _ ini_IllegalArgumentException) hsa (fun w hw => (xa_47 w hw).elim (hg w) (fun h => hG.nest h)) xg_47 hG.2.2.2.2.1 hG.2.2.2.2.2.1 hS (hl.1.trans hml.symm) dX2_put_61 dX2_put_64 dX2_put_65 dX2_put_67 dX2_put_70 (fun x hx9 => (htab x hx9).elim) (Nat.le_of_ble_eq_true rfl) (Nat.le_of_ble_eq_true rfl) (Nat.le_of_ble_eq_true rfl) (Nat.le_of_ble_eq_true rfl) hlocks (fun t hal hsz hq => ⟨(), trivial, ⟨Or.inr ⟨rfl, by simp [x_pc, c_1, c_2], Or.inr c_6⟩, (wd_thr hK hP hD hS t hal hsz hq).1⟩, (wd_thr hK hP hD hS t hal hsz hq).2⟩) hS.2.2 (Nat.le_of_ble_eq_true rfl) (Nat.le_of_ble_eq_true rfl)
          refine lv_iload_n hx hb dX2_put_42 rfl (lv_at hl 3 rfl) ?_
          refine lv_iload_n hx hb dX2_put_43 rfl (lv_at hl 2 rfl) ?_
          refine lv_bipush (v := 7) hx hb dX2_put_44 (by decide) ?_
          refine lv_icmp_ne (tgt := 54) hx hb dX2_put_46 (by decide) (fun c_8 => ?_) (fun c_8 => ?_)
          · refine lv_iconst (v := 5) hx hb dX2_put_54 (by decide) ?_
            have e9 : (if n = 7 then 6 else 5) = (5 : Int32) := if_neg c_8
            exact W.eq (by rw [e9]) hcut
          · refine lv_bipush (v := 6) hx hb dX2_put_49 (by decide) ?_
            refine lv_goto (tgt := 55) hx hb dX2_put_51 (by decide) ?_
            have e9 : (if n = 7 then 6 else 5) = (6 : Int32) := if_pos c_8
            exact W.eq (by rw [e9]) hcut
        · obtain ⟨sa, hsa⟩ := hG.2.2.2.1 (70, "no such number") (by decide)
          exact vx_throwS (names := ["java/lang/RuntimeException", "java/lang/Exception"]) (A := A) (sa := sa) hx hb hlt hown (by decide) (by decide) (hg _ cl_X2_43) (hg _ ini_IllegalArgumentException) hsa (fun w hw => (xa_47 w hw).elim (hg w) (fun h => hG.nest h)) xg_47 hG.2.2.2.2.1 hG.2.2.2.2.2.1 hS (hl.1.trans hml.symm) dX2_put_32 dX2_put_35 dX2_put_36 dX2_put_38 dX2_put_41 (fun x hx9 => (htab x hx9).elim) (Nat.le_of_ble_eq_true rfl) (Nat.le_of_ble_eq_true rfl) (Nat.le_of_ble_eq_true rfl) (Nat.le_of_ble_eq_true rfl) hlocks (fun t hal hsz hq => ⟨(), trivial, ⟨Or.inr ⟨rfl, by simp [x_pc, c_1, c_2], Or.inl (by simp [x_nc, c_3, c_4])⟩, (wd_thr hK hP hD hS t hal hsz hq).1⟩, (wd_thr hK hP hD hS t hal hsz hq).2⟩) hS.2.2 (Nat.le_of_ble_eq_true rfl) (Nat.le_of_ble_eq_true rfl)
    · obtain ⟨sa, hsa⟩ := hG.2.2.2.1 (68, "no such piece") (by decide)
      exact vx_throwS (names := ["java/lang/RuntimeException", "java/lang/Exception"]) (A := A) (sa := sa) hx hb hlt hown (by decide) (by decide) (hg _ cl_X2_63) (hg _ ini_IndexOutOfBoundsException) hsa (fun w hw => (xa_67 w hw).elim (hg w) (fun h => hG.nest h)) xg_67 hG.2.2.2.2.1 hG.2.2.2.2.2.1 hS (hl.1.trans hml.symm) dX2_put_12 dX2_put_15 dX2_put_16 dX2_put_18 dX2_put_21 (fun x hx9 => (htab x hx9).elim) (Nat.le_of_ble_eq_true rfl) (Nat.le_of_ble_eq_true rfl) (Nat.le_of_ble_eq_true rfl) (Nat.le_of_ble_eq_true rfl) hlocks (fun t hal hsz hq => ⟨(), trivial, ⟨Or.inl ⟨rfl, by simp [x_pc, c_1, c_2]⟩, (wd_thr hK hP hD hS t hal hsz hq).1⟩, (wd_thr hK hP hD hS t hal hsz hq).2⟩) hS.2.2 (Nat.le_of_ble_eq_true rfl) (Nat.le_of_ble_eq_true rfl)
set_option maxHeartbeats 4000000 in
set_option maxRecDepth 100000 in
theorem c_X2_fraction (l : Launch) (hlt : l.stackTraces = false) (A : Nat → Prop) (D : va_G) (cI cL cQ : ClassId) (fr : va_W) (a : Nat → Nat) (pl : Nat → Int32) (pq nq : Nat → Nat) (nm : Nat → Nat → Int32) (ab : Int64) (lg : Nat → Int32) (cnt : Nat) (hc : cnt ≤ 3) (kb : Bool) (k : Int32) : vx_Met l yX2_fraction wsX2_fraction { frames := 7, cells := 1, slots := 6, locals := 90 } (va_Pc [.ref (a 0), .int k] (wd_B D (ty3 cI cL cQ) A (xw cI cQ a pl pq nq nm ab lg (nI cnt) (zi kb) ++ fr))) (va_Ql (fun r (_ : Unit) => kb = true ∧ x_part k = true ∧ r = x_low ab 1536796800 k) (fun _ t => wd_E D (ty3 cI cL cQ) A (xw cI cQ a pl pq nq nm ab lg (nI cnt) (zi kb) ++ fr) t) A) (vx_X (fun _ : Unit => True) (fun E _ t => ((E = "java/lang/IllegalStateException" ∧ kb = false) ∨ (E = "java/lang/IllegalArgumentException" ∧ kb = true ∧ x_part k = false)) ∧ wd_E D (ty3 cI cL cQ) A (xw cI cQ a pl pq nq nm ab lg (nI cnt) (zi kb) ++ fr) t) A) 1 6 A := by
  refine vx_ofW (cc := cX2_fraction) (maxL := 2) (ret := (some .long)) (by decide) rfl ?_
  intro p e s m args below meth c s₁ B hml htab hv
  obtain ⟨rfl, hG, hK, hP, hD, hA⟩ := hv
  have hx := B.exec
  have hb := B.bytes
  have hr := B.returns
  have hts := atoms_spec (ws := wsX2_fraction) B.pre
  have hg : ∀ w ∈ gw, w.before ([.ref (a 0), .int k] : List Value).toArray s = true := fun w h => hts w (List.mem_cons_of_mem _ h)
  have hown : s.vm.findClass RX2 = some m.cls := findClass_of_methodNamed B.named
  have hlocks := B.notSynchronized
  have hS : va_S A s.heap s.heap [] := va_S.rf
  have hl := lv_entry ([.ref (a 0), .int k]) (n := 2) (Nat.le_of_ble_eq_true rfl)
  rw [lg_entry_eq]
  generalize (lg_sl ([.ref (a 0), .int k]) ++ List.replicate (2 - (lg_sl ([.ref (a 0), .int k])).length) Slot.unset).toArray = ls at hl ⊢
  have hl : lv_has ls 2 [(0, .ref (a 0)), (1, .int k)] := hl
  refine lv_aload_n hx hb dX2_fraction_0 rfl (lv_at hl 0 rfl) ?_
  refine va_get (D := D) (ci := 2) (v := .int (zi kb)) (C := RX2) (T := TX2) (N := 5) hx hb hg inX2 hown hK hP 0 rfl rfl 4 (by decide) (hg _ fl_X2_30) (fun _ h9 => h9) rfl dX2_fraction_1 ?_
  refine lv_if_ne (tgt := 17) hx hb dX2_fraction_4 (by decide) (fun c_1 => ?_) (fun c_1 => ?_)
  · replace c_1 := zi_n0 c_1
    refine lv_iload_n hx hb dX2_fraction_17 rfl (lv_at hl 1 rfl) ?_
    refine vp_callSi (W.runS (As := [.int k]) (rest := []) ⟨hx, hb, hml, hown, hg⟩ (c_X2_isPart l k) (va_cwS 1 hg (gw_S ml_X2_80 sm_X2_isPart ini_X2 co_X2_isPart) rfl rfl rfl (by decide +kernel) ⟨Nat.le_of_ble_eq_true rfl, Nat.le_of_ble_eq_true rfl⟩) ⟨tt_blind, (fun U hU hW => ⟨rfl, trivial⟩)⟩ rfl rfl hl.1 rfl (lv_room (Nat.le_of_ble_eq_true rfl)) dX2_fraction_18 ⟨Nat.le_of_ble_eq_true rfl, Nat.le_of_ble_eq_true rfl⟩) (fun r_2 hr_2 => ?_)
    subst hr_2
    refine lv_if_ne (tgt := 34) hx hb dX2_fraction_21 (by decide) (fun c_3 => ?_) (fun c_3 => ?_)
    · replace c_3 := zi_n0 c_3
      refine lv_aload_n hx hb dX2_fraction_34 rfl (lv_at hl 0 rfl) ?_
      refine va_get (D := D) (ci := 2) (v := .ref (a 3)) (C := RX2) (T := TX2) (N := 5) hx hb hg inX2 hown hK hP 0 rfl rfl 2 (by decide) (hg _ fl_X2_22) (fun _ h9 => h9) rfl dX2_fraction_35 ?_
      refine va_getN (D := D) (ci := 1) (v := .long ab) (C := RX1) (T := TX1) (N := 2) hx hb hg inX1 hown hK hP 3 rfl rfl 0 (by decide) (hG.nest fn_X2_124) (fun _ h9 => h9) rfl dX2_fraction_38 ?_
      refine lv_ldc2 (v := 1536796800) hx hb hown (hg _ kl_X2_128) dX2_fraction_41 ?_
      refine lv_iload_n hx hb dX2_fraction_44 rfl (lv_at hl 1 rfl) ?_
      refine vp_callSl (W.runS (As := [.long ab, .long 1536796800, .int k]) (rest := []) ⟨hx, hb, hml, hown, hg⟩ (c_X2_lowestTerms l ab 1536796800 k) (va_cwS 3 hg (gw_S ml_X2_93 sm_X2_lowestTerms ini_X2 co_X2_lowestTerms) rfl rfl rfl (by decide +kernel) ⟨Nat.le_of_ble_eq_true rfl, Nat.le_of_ble_eq_true rfl⟩) ⟨tt_blind, (fun U hU hW => ⟨rfl, trivial⟩)⟩ rfl rfl hl.1 rfl (lv_room (Nat.le_of_ble_eq_true rfl)) dX2_fraction_45 ⟨Nat.le_of_ble_eq_true rfl, Nat.le_of_ble_eq_true rfl⟩) (fun r_4 hr_4 => ?_)
      subst hr_4
      refine vx_ret ?_
      refine W.widen (k := 1) (n := 6) (Nat.zero_le _) (Nat.zero_le _) ?_
      exact W.lret (v := (x_low ab 1536796800 k)) hx hb hr (fun t ht hW => ⟨⟨(x_low ab 1536796800 k), (), rfl, ⟨c_1, c_3, rfl⟩, wd_E.at hK hP hD ht hW⟩, hS.F ht⟩) hS.2.2 dX2_fraction_48
    · replace c_3 := zi_0 c_3
      obtain ⟨sa, hsa⟩ := hG.2.2.2.1 (122, "no such part") (by decide)
      exact vx_throwS (names := ["java/lang/RuntimeException", "java/lang/Exception"]) (A := A) (sa := sa) hx hb hlt hown (by decide) (by decide) (hg _ cl_X2_43) (hg _ ini_IllegalArgumentException) hsa (fun w hw => (xa_47 w hw).elim (hg w) (fun h => hG.nest h)) xg_47 hG.2.2.2.2.1 hG.2.2.2.2.2.1 hS (hl.1.trans hml.symm) dX2_fraction_24 dX2_fraction_27 dX2_fraction_28 dX2_fraction_30 dX2_fraction_33 (fun x hx9 => (htab x hx9).elim) (Nat.le_of_ble_eq_true rfl) (Nat.le_of_ble_eq_true rfl) (Nat.le_of_ble_eq_true rfl) (Nat.le_of_ble_eq_true rfl) hlocks (fun t hal hsz hq => ⟨(), trivial, ⟨Or.inr ⟨rfl, c_1, c_3⟩, (wd_thr hK hP hD hS t hal hsz hq).1⟩, (wd_thr hK hP hD hS t hal hsz hq).2⟩) hS.2.2 (Nat.le_of_ble_eq_true rfl) (Nat.le_of_ble_eq_true rfl)
  · replace c_1 := zi_0 c_1
    obtain ⟨sa, hsa⟩ := hG.2.2.2.1 (120, "no integral is known") (by decide)
    exact vx_throwS (names := ["java/lang/RuntimeException", "java/lang/Exception"]) (A := A) (sa := sa) hx hb hlt hown (by decide) (by decide) (hg _ cl_X2_50) (hg _ ini_IllegalStateException) hsa (fun w hw => (xa_54 w hw).elim (hg w) (fun h => hG.nest h)) xg_54 hG.2.2.2.2.1 hG.2.2.2.2.2.1 hS (hl.1.trans hml.symm) dX2_fraction_7 dX2_fraction_10 dX2_fraction_11 dX2_fraction_13 dX2_fraction_16 (fun x hx9 => (htab x hx9).elim) (Nat.le_of_ble_eq_true rfl) (Nat.le_of_ble_eq_true rfl) (Nat.le_of_ble_eq_true rfl) (Nat.le_of_ble_eq_true rfl) hlocks (fun t hal hsz hq => ⟨(), trivial, ⟨Or.inl ⟨rfl, c_1⟩, (wd_thr hK hP hD hS t hal hsz hq).1⟩, (wd_thr hK hP hD hS t hal hsz hq).2⟩) hS.2.2 (Nat.le_of_ble_eq_true rfl) (Nat.le_of_ble_eq_true rfl)
set_option maxHeartbeats 4000000 in
set_option maxRecDepth 100000 in
theorem c_X2_logarithm (l : Launch) (hlt : l.stackTraces = false) (A : Nat → Prop) (D : va_G) (cI cL cQ : ClassId) (fr : va_W) (a : Nat → Nat) (pl : Nat → Int32) (pq nq : Nat → Nat) (nm : Nat → Nat → Int32) (ab : Int64) (lg : Nat → Int32) (cnt : Nat) (hc : cnt ≤ 3) (kb : Bool) (k : Int32) : vx_Met l yX2_logarithm wsX2_logarithm { frames := 7, cells := 1, slots := 6, locals := 90 } (va_Pc [.ref (a 0), .int k] (wd_B D (ty3 cI cL cQ) A (xw cI cQ a pl pq nq nm ab lg (nI cnt) (zi kb) ++ fr))) (va_Qi (fun r (_ : Unit) => kb = true ∧ ∃ i, i < 5 ∧ gl_prime i = k ∧ r = lg i) (fun _ t => wd_E D (ty3 cI cL cQ) A (xw cI cQ a pl pq nq nm ab lg (nI cnt) (zi kb) ++ fr) t) A) (vx_X (fun _ : Unit => True) (fun E _ t => ((E = "java/lang/IllegalStateException" ∧ kb = false) ∨ (E = "java/lang/IllegalArgumentException" ∧ kb = true ∧ ∀ i, i < 5 → ¬ gl_prime i = k)) ∧ wd_E D (ty3 cI cL cQ) A (xw cI cQ a pl pq nq nm ab lg (nI cnt) (zi kb) ++ fr) t) A) 1 6 A := by
  refine vx_ofW (cc := cX2_logarithm) (maxL := 3) (ret := (some .int)) (by decide) rfl ?_
  intro p e s m args below meth c s₁ B hml htab hv
  obtain ⟨rfl, hG, hK, hP, hD, hA⟩ := hv
  have hx := B.exec
  have hb := B.bytes
  have hr := B.returns
  have hts := atoms_spec (ws := wsX2_logarithm) B.pre
  have hg : ∀ w ∈ gw, w.before ([.ref (a 0), .int k] : List Value).toArray s = true := fun w h => hts w (List.mem_cons_of_mem _ h)
  have hown : s.vm.findClass RX2 = some m.cls := findClass_of_methodNamed B.named
  have hlocks := B.notSynchronized
  have hS : va_S A s.heap s.heap [] := va_S.rf
  have hl := lv_entry ([.ref (a 0), .int k]) (n := 3) (Nat.le_of_ble_eq_true rfl)
  rw [lg_entry_eq]
  generalize (lg_sl ([.ref (a 0), .int k]) ++ List.replicate (3 - (lg_sl ([.ref (a 0), .int k])).length) Slot.unset).toArray = ls at hl ⊢
  have hl : lv_has ls 3 [(0, .ref (a 0)), (1, .int k)] := hl
  obtain ⟨tP, hzP, htP⟩ := hG.2.1
  refine lv_aload_n hx hb dX2_logarithm_0 rfl (lv_at hl 0 rfl) ?_
  refine va_get (D := D) (ci := 2) (v := .int (zi kb)) (C := RX2) (T := TX2) (N := 5) hx hb hg inX2 hown hK hP 0 rfl rfl 4 (by decide) (hg _ fl_X2_30) (fun _ h9 => h9) rfl dX2_logarithm_1 ?_
  refine lv_if_ne (tgt := 17) hx hb dX2_logarithm_4 (by decide) (fun c_1 => ?_) (fun c_1 => ?_)
  · replace c_1 := zi_n0 c_1
    refine lv_iconst (v := 0) hx hb dX2_logarithm_17 (by decide) ?_
    refine lv_istore_n (lv' := [(2, .int 0), (0, .ref (a 0)), (1, .int k)]) hx hb dX2_logarithm_18 rfl hl (by decide) rfl (fun ls hl => ?_)
    have hkb := c_1
    have L19 : ∀ (n9 : Nat) (i : Nat), (i ≤ 5) → (∀ j, j < i → ¬ gl_prime j = k) → (5 - i < n9) → ∀ (ls : Array Slot), lv_has ls 3 [(2, .int (nI i)), (0, .ref (a 0)), (1, .int k)] → W p l e (headSpec wsX2_logarithm { frames := 7, cells := 1, slots := 6, locals := 90 }).room s m ([.ref (a 0), .int k] : List Value).toArray below meth c s.heap [] 0 0 (vx_MQ below (va_Qi (fun r (_ : Unit) => kb = true ∧ ∃ i, i < 5 ∧ gl_prime i = k ∧ r = lg i) (fun _ t => wd_E D (ty3 cI cL cQ) A (xw cI cQ a pl pq nq nm ab lg (nI cnt) (zi kb) ++ fr) t) A) (vx_X (fun _ : Unit => True) (fun E _ t => ((E = "java/lang/IllegalStateException" ∧ kb = false) ∨ (E = "java/lang/IllegalArgumentException" ∧ kb = true ∧ ∀ i, i < 5 → ¬ gl_prime i = k)) ∧ wd_E D (ty3 cI cL cQ) A (xw cI cQ a pl pq nq nm ab lg (nI cnt) (zi kb) ++ fr) t) A) ([.ref (a 0), .int k] : List Value).toArray s 1 6 A) (F0 m 19 ls []) := by
      intro n9
      induction n9 with
      | zero => intro i hi hno h9; exact absurd h9 (by omega)
      | succ n9 ih =>
        intro i hi hno h9 ls hl
        refine lv_iload_n hx hb dX2_logarithm_19 rfl (lv_at hl 0 rfl) ?_
        refine va_gets (C := RX2) (n := "PRIMES") (d := "[I") (v := .ref tP) hx hb hzP hS hown (hg _ fl_X2_130) (fun _ h9 => h9) dX2_logarithm_20 ?_
        refine va_tlen (v := 5) hx hb htP hS rfl dX2_logarithm_23 ?_
        refine lv_icmp_ge (tgt := 52) hx hb dX2_logarithm_24 (by decide) (fun c_2 => ?_) (fun c_2 => ?_)
        · replace c_2 : 5 ≤ i := (nI_leI (a := 5) (b := i) (by omega) (by omega)).mp c_2
          obtain ⟨sa, hsa⟩ := hG.2.2.2.1 (136, "not 2, 3, 5, 7 or 11") (by decide)
          exact vx_throwS (names := ["java/lang/RuntimeException", "java/lang/Exception"]) (A := A) (sa := sa) hx hb hlt hown (by decide) (by decide) (hg _ cl_X2_43) (hg _ ini_IllegalArgumentException) hsa (fun w hw => (xa_47 w hw).elim (hg w) (fun h => hG.nest h)) xg_47 hG.2.2.2.2.1 hG.2.2.2.2.2.1 hS (hl.1.trans hml.symm) dX2_logarithm_52 dX2_logarithm_55 dX2_logarithm_56 dX2_logarithm_58 dX2_logarithm_61 (fun x hx9 => (htab x hx9).elim) (Nat.le_of_ble_eq_true rfl) (Nat.le_of_ble_eq_true rfl) (Nat.le_of_ble_eq_true rfl) (Nat.le_of_ble_eq_true rfl) hlocks (fun t hal hsz hq => ⟨(), trivial, ⟨Or.inr ⟨rfl, hkb, fun j hj => hno j (by omega)⟩, (wd_thr hK hP hD hS t hal hsz hq).1⟩, (wd_thr hK hP hD hS t hal hsz hq).2⟩) hS.2.2 (Nat.le_of_ble_eq_true rfl) (Nat.le_of_ble_eq_true rfl)
        · replace c_2 : ¬ 5 ≤ i := fun h => c_2 ((nI_leI (a := 5) (b := i) (by omega) (by omega)).mpr h)
          refine va_gets (C := RX2) (n := "PRIMES") (d := "[I") (v := .ref tP) hx hb hzP hS hown (hg _ fl_X2_130) (fun _ h9 => h9) dX2_logarithm_27 ?_
          refine lv_iload_n hx hb dX2_logarithm_30 rfl (lv_at hl 0 rfl) ?_
          refine va_ti (N := 5) (v := .int (gl_prime i)) hx hb htP hS (vp_in_nI (show i < 5 by omega) (by decide)) (by rw [nI_clamp (show i < 2 ^ 31 by omega)]) dX2_logarithm_31 ?_
          refine lv_iload_n hx hb dX2_logarithm_32 rfl (lv_at hl 2 rfl) ?_
          refine lv_icmp_ne (tgt := 46) hx hb dX2_logarithm_33 (by decide) (fun c_3 => ?_) (fun c_3 => ?_)
          · refine lv_iinc (v := nI (i + 1)) (lv' := [(2, .int (nI (i + 1))), (0, .ref (a 0)), (1, .int k)]) hx hb dX2_logarithm_46 hl (k := 0) rfl (nI_1 i) (by decide) rfl (fun ls hl => ?_)
            refine lv_goto (tgt := 19) hx hb dX2_logarithm_49 (by decide) ?_
            exact ih (i + 1) (by omega) (fun j hj => by rcases Nat.lt_or_ge j i with h | h; exact hno j h; rw [show j = i by omega]; exact c_3)  (by omega) ls (lv_sub hl [0, 1, 2] rfl)
          · refine lv_aload_n hx hb dX2_logarithm_36 rfl (lv_at hl 1 rfl) ?_
            refine va_get (D := D) (ci := 2) (v := .ref (a 3)) (C := RX2) (T := TX2) (N := 5) hx hb hg inX2 hown hK hP 0 rfl rfl 2 (by decide) (hg _ fl_X2_22) (fun _ h9 => h9) rfl dX2_logarithm_37 ?_
            refine va_getN (D := D) (ci := 1) (v := .ref (a 4)) (C := RX1) (T := TX1) (N := 2) hx hb hg inX1 hown hK hP 3 rfl rfl 1 (by decide) (hG.nest fn_X2_133) (fun _ h9 => h9) rfl dX2_logarithm_40 ?_
            refine lv_iload_n hx hb dX2_logarithm_43 rfl (lv_at hl 0 rfl) ?_
            refine va_iald (D := D) (n := 5) (f := lg) hx hb hK hP 4 0 rfl rfl (vp_in_nI (show i < 5 by omega) (by decide)) dX2_logarithm_44 ?_
            rw [nI_clamp (show i < 2 ^ 31 by omega)]
            refine vx_ret ?_
            refine W.widen (k := 1) (n := 6) (Nat.zero_le _) (Nat.zero_le _) ?_
            exact W.iret (v := (lg i)) hx hb hr (fun t ht hW => ⟨⟨(lg i), (), rfl, ⟨hkb, i, by omega, c_3, rfl⟩, wd_E.at hK hP hD ht hW⟩, hS.F ht⟩) hS.2.2 dX2_logarithm_45
    exact L19 (5 + 1) 0 (Nat.zero_le _) (fun j hj => absurd hj (Nat.not_lt_zero j))  (Nat.lt_succ_self _) ls (lv_sub hl [0, 1, 2] rfl)
  · replace c_1 := zi_0 c_1
    obtain ⟨sa, hsa⟩ := hG.2.2.2.1 (120, "no integral is known") (by decide)
    exact vx_throwS (names := ["java/lang/RuntimeException", "java/lang/Exception"]) (A := A) (sa := sa) hx hb hlt hown (by decide) (by decide) (hg _ cl_X2_50) (hg _ ini_IllegalStateException) hsa (fun w hw => (xa_54 w hw).elim (hg w) (fun h => hG.nest h)) xg_54 hG.2.2.2.2.1 hG.2.2.2.2.2.1 hS (hl.1.trans hml.symm) dX2_logarithm_7 dX2_logarithm_10 dX2_logarithm_11 dX2_logarithm_13 dX2_logarithm_16 (fun x hx9 => (htab x hx9).elim) (Nat.le_of_ble_eq_true rfl) (Nat.le_of_ble_eq_true rfl) (Nat.le_of_ble_eq_true rfl) (Nat.le_of_ble_eq_true rfl) hlocks (fun t hal hsz hq => ⟨(), trivial, ⟨Or.inl ⟨rfl, c_1⟩, (wd_thr hK hP hD hS t hal hsz hq).1⟩, (wd_thr hK hP hD hS t hal hsz hq).2⟩) hS.2.2 (Nat.le_of_ble_eq_true rfl) (Nat.le_of_ble_eq_true rfl)
def x_vd (x : Int32) (f : Nat → Int32) : Int64 := (x - f 7).toInt64
def x_val (x k : Int32) (f : Nat → Int32) : Int64 := if p_pole f then x_low (p_powers f x.toInt64 * (x_vd x f * x_vd x f * x_vd x f) + p_above f (x_vd x f)) (x_vd x f * x_vd x f * x_vd x f) k else x_low (p_powers f x.toInt64) 1 k
set_option maxHeartbeats 4000000 in
set_option maxRecDepth 100000 in
theorem c_X2_value (l : Launch) (hlt : l.stackTraces = false) (A : Nat → Prop) (D : va_G) (cI cL cQ : ClassId) (fr : va_W) (a : Nat → Nat) (pl : Nat → Int32) (pq nq : Nat → Nat) (nm : Nat → Nat → Int32) (ab : Int64) (lg : Nat → Int32) (cnt : Nat) (hc : cnt ≤ 3) (kn : Int32) (x k : Int32) : vx_Met l yX2_value wsX2_value { frames := 7, cells := 1, slots := 6, locals := 90 } (va_Pc [.ref (a 0), .int x, .int k] (wd_B D (ty3 cI cL cQ) A (xw cI cQ a pl pq nq nm ab lg (nI cnt) kn ++ fr))) (va_Ql (fun r (_ : Unit) => x_in x 6 = true ∧ x_part k = true ∧ (p_pole (nm (x_cnt pl x cnt)) = true → ¬ x_vd x (nm (x_cnt pl x cnt)) = 0) ∧ r = x_val x k (nm (x_cnt pl x cnt))) (fun _ t => wd_E D (ty3 cI cL cQ) A (xw cI cQ a pl pq nq nm ab lg (nI cnt) kn ++ fr) t) A) (vx_X (fun _ : Unit => True) (fun E _ t => ((E = "java/lang/IllegalArgumentException" ∧ (x_in x 6 = false ∨ x_part k = false)) ∨ (E = "java/lang/IllegalStateException" ∧ x_in x 6 = true ∧ x_part k = true ∧ p_pole (nm (x_cnt pl x cnt)) = true ∧ x_vd x (nm (x_cnt pl x cnt)) = 0)) ∧ wd_E D (ty3 cI cL cQ) A (xw cI cQ a pl pq nq nm ab lg (nI cnt) kn ++ fr) t) A) 1 6 A := by
  refine vx_ofW (cc := cX2_value) (maxL := 8) (ret := (some .long)) (by decide) rfl ?_
  intro p e s m args below meth c s₁ B hml htab hv
  obtain ⟨rfl, hG, hK, hP, hD, hA⟩ := hv
  have hx := B.exec
  have hb := B.bytes
  have hr := B.returns
  have hts := atoms_spec (ws := wsX2_value) B.pre
  have hg : ∀ w ∈ gw, w.before ([.ref (a 0), .int x, .int k] : List Value).toArray s = true := fun w h => hts w (List.mem_cons_of_mem _ h)
  have hown : s.vm.findClass RX2 = some m.cls := findClass_of_methodNamed B.named
  have hlocks := B.notSynchronized
  have hS : va_S A s.heap s.heap [] := va_S.rf
  have hl := lv_entry ([.ref (a 0), .int x, .int k]) (n := 8) (Nat.le_of_ble_eq_true rfl)
  rw [lg_entry_eq]
  generalize (lg_sl ([.ref (a 0), .int x, .int k]) ++ List.replicate (8 - (lg_sl ([.ref (a 0), .int x, .int k])).length) Slot.unset).toArray = ls at hl ⊢
  have hl : lv_has ls 8 [(0, .ref (a 0)), (1, .int x), (2, .int k)] := hl
  refine lv_iload_n hx hb dX2_value_0 rfl (lv_at hl 1 rfl) ?_
  refine lv_bipush (v := 6) hx hb dX2_value_1 (by decide) ?_
  refine vp_callSi (W.runS (As := [.int x, .int 6]) (rest := []) ⟨hx, hb, hml, hown, hg⟩ (c_X2_isWithin l x 6) (va_cwS 2 hg (gw_S ml_X2_35 sm_X2_isWithin ini_X2 co_X2_isWithin) rfl rfl rfl (by decide +kernel) ⟨Nat.le_of_ble_eq_true rfl, Nat.le_of_ble_eq_true rfl⟩) ⟨tt_blind, (fun U hU hW => ⟨rfl, trivial⟩)⟩ rfl rfl hl.1 rfl (lv_room (Nat.le_of_ble_eq_true rfl)) dX2_value_3 ⟨Nat.le_of_ble_eq_true rfl, Nat.le_of_ble_eq_true rfl⟩) (fun r_1 hr_1 => ?_)
  subst hr_1
  refine lv_if_eq (tgt := 16) hx hb dX2_value_6 (by decide) (fun c_2 => ?_) (fun c_2 => ?_)
  · replace c_2 := zi_0 c_2
    obtain ⟨sa, hsa⟩ := hG.2.2.2.1 (83, "no such place or part") (by decide)
    exact vx_throwS (names := ["java/lang/RuntimeException", "java/lang/Exception"]) (A := A) (sa := sa) hx hb hlt hown (by decide) (by decide) (hg _ cl_X2_43) (hg _ ini_IllegalArgumentException) hsa (fun w hw => (xa_47 w hw).elim (hg w) (fun h => hG.nest h)) xg_47 hG.2.2.2.2.1 hG.2.2.2.2.2.1 hS (hl.1.trans hml.symm) dX2_value_16 dX2_value_19 dX2_value_20 dX2_value_22 dX2_value_25 (fun x hx9 => (htab x hx9).elim) (Nat.le_of_ble_eq_true rfl) (Nat.le_of_ble_eq_true rfl) (Nat.le_of_ble_eq_true rfl) (Nat.le_of_ble_eq_true rfl) hlocks (fun t hal hsz hq => ⟨(), trivial, ⟨Or.inl ⟨rfl, Or.inl c_2⟩, (wd_thr hK hP hD hS t hal hsz hq).1⟩, (wd_thr hK hP hD hS t hal hsz hq).2⟩) hS.2.2 (Nat.le_of_ble_eq_true rfl) (Nat.le_of_ble_eq_true rfl)
  · replace c_2 := zi_n0 c_2
    refine lv_iload_n hx hb dX2_value_9 rfl (lv_at hl 2 rfl) ?_
    refine vp_callSi (W.runS (As := [.int k]) (rest := []) ⟨hx, hb, hml, hown, hg⟩ (c_X2_isPart l k) (va_cwS 1 hg (gw_S ml_X2_80 sm_X2_isPart ini_X2 co_X2_isPart) rfl rfl rfl (by decide +kernel) ⟨Nat.le_of_ble_eq_true rfl, Nat.le_of_ble_eq_true rfl⟩) ⟨tt_blind, (fun U hU hW => ⟨rfl, trivial⟩)⟩ rfl rfl hl.1 rfl (lv_room (Nat.le_of_ble_eq_true rfl)) dX2_value_10 ⟨Nat.le_of_ble_eq_true rfl, Nat.le_of_ble_eq_true rfl⟩) (fun r_3 hr_3 => ?_)
    subst hr_3
    refine lv_if_ne (tgt := 26) hx hb dX2_value_13 (by decide) (fun c_4 => ?_) (fun c_4 => ?_)
    · replace c_4 := zi_n0 c_4
      refine lv_aload_n hx hb dX2_value_26 rfl (lv_at hl 0 rfl) ?_
      refine va_get (D := D) (ci := 2) (v := .ref (a 2)) (C := RX2) (T := TX2) (N := 5) hx hb hg inX2 hown hK hP 0 rfl rfl 1 (by decide) (hg _ fl_X2_15) (fun _ h9 => h9) rfl dX2_value_27 ?_
      refine lv_aload_n hx hb dX2_value_30 rfl (lv_at hl 0 rfl) ?_
      refine lv_iload_n hx hb dX2_value_31 rfl (lv_at hl 1 rfl) ?_
      have hq_5 := x_cnt_le pl x cnt
      refine vp_callSi (W.runV (As := [.int x]) (rest := [.ref (a 2)]) ⟨hx, hb, hml, hown, hg⟩ (c_X2_pieceAt l D cI cL cQ (a 0) (a 1) [.ref (a 1), .ref (a 2), .ref (a 3), .int (nI cnt), .int kn] rfl cnt rfl hc pl x) (cwV 1 hg (gw_V ml_X2_55 im_X2_pieceAt se_X2_pieceAt ini_X2 co_X2_pieceAt) rfl rfl rfl (by decide +kernel) ⟨Nat.le_of_ble_eq_true rfl, Nat.le_of_ble_eq_true rfl⟩) ⟨pu_B.blind, va_recv hK hP (ci := 2) (q0 := 0) rfl rfl, (fun U hU hW => ⟨rfl, pu_B.at hK (va_P2 hP (i := 0) (j := 1) rfl rfl) hU hW⟩)⟩ rfl rfl hl.1 rfl (lv_room (Nat.le_of_ble_eq_true rfl)) dX2_value_32 ⟨Nat.le_of_ble_eq_true rfl, Nat.le_of_ble_eq_true rfl⟩) (fun r_6 hr_6 => ?_)
      subst hr_6
      refine va_aldq (D := D) (n := 4) (f := (fun j => some (pq j))) hx hb hK hP 2 2 rfl rfl (vp_in_nI (show (x_cnt pl x cnt) < 4 by omega) (by decide)) dX2_value_35 ?_
      rw [nI_clamp (show (x_cnt pl x cnt) < 2 ^ 31 by omega)]
      refine W.eq (g2 := F0 m 36 ls [.ref (pq (x_cnt pl x cnt))]) rfl ?_
      refine lv_astore_n (lv' := [(3, .ref (pq (x_cnt pl x cnt))), (0, .ref (a 0)), (1, .int x), (2, .int k)]) hx hb dX2_value_36 rfl hl (by decide) rfl (fun ls hl => ?_)
      refine lv_aload_n hx hb dX2_value_37 rfl (lv_at hl 0 rfl) ?_
      refine vp_callSi (va_Run.run (va_runVN (As := []) (rest := []) ⟨hx, hb, hml, hown, hg⟩ (c_X0_hasPole l D cI cL cQ (pq (x_cnt pl x cnt)) (nq (x_cnt pl x cnt)) (nm (x_cnt pl x cnt))) ⟨va_cnB 0 hg (gw_C co_X0_hasPole) rfl rfl rfl (hG.1 _ mn_X2_85) (hg _ ini_X0) (by decide +kernel) ⟨Nat.le_of_ble_eq_true rfl, Nat.le_of_ble_eq_true rfl⟩, hg _ im_X0_hasPole, hg _ se_X0_hasPole⟩ ⟨pu_B.blind, va_recv hK hP (ci := 0) (q0 := 5 + 2 * (x_cnt pl x cnt)) rfl (xw_p (by omega)), (fun U hU hW => ⟨rfl, pu_B.at hK (va_P2 hP (xw_p (k := (x_cnt pl x cnt)) (by omega)) (xw_n (k := (x_cnt pl x cnt)) (by omega))) hU hW⟩)⟩ rfl rfl hl.1 rfl (lv_room (Nat.le_of_ble_eq_true rfl)) dX2_value_38 ⟨Nat.le_of_ble_eq_true rfl, Nat.le_of_ble_eq_true rfl⟩)) (fun r_7 hr_7 => ?_)
      subst hr_7
      refine lv_if_ne (tgt := 56) hx hb dX2_value_41 (by decide) (fun c_8 => ?_) (fun c_8 => ?_)
      · replace c_8 := zi_n0 c_8
        refine lv_iload_n hx hb dX2_value_56 rfl (lv_at hl 2 rfl) ?_
        refine lv_aload_n hx hb dX2_value_57 rfl (lv_at hl 0 rfl) ?_
        refine va_getN (D := D) (ci := 0) (v := .ref (nq (x_cnt pl x cnt))) (C := RX0) (T := TX0) (N := 1) hx hb hg inX0 hown hK hP (5 + 2 * (x_cnt pl x cnt)) (xw_p (show (x_cnt pl x cnt) < 4 by omega)) rfl 0 (by decide) (hG.nest fn_X2_74) (fun _ h9 => h9) rfl dX2_value_58 ?_
        refine lv_bipush (v := 7) hx hb dX2_value_61 (by decide) ?_
        refine va_iald (D := D) (n := 8) (f := (nm (x_cnt pl x cnt))) hx hb hK hP (6 + 2 * (x_cnt pl x cnt)) 0 (xw_n (show (x_cnt pl x cnt) < 4 by omega)) rfl (vp_in_nI (show 7 < 8 by decide) (by decide)) dX2_value_63 ?_
        rw [show (7 : Int32).toNatClampNeg = 7 from by decide]
        refine lv_isub hx hb dX2_value_64 ?_
        refine lv_i2l hx hb dX2_value_65 rfl ?_
        refine lv_topl (fun v_9 ev_9 => ?_)
        refine lv_lstore (lv' := [(4, .long v_9), (3, .ref (pq (x_cnt pl x cnt))), (0, .ref (a 0)), (1, .int x), (2, .int k)]) hx hb dX2_value_66 hl (by decide) rfl (fun ls hl => ?_)
        refine lv_lload hx hb dX2_value_68 (lv_at hl 0 rfl) ?_
        refine lv_lconst (v := 0) hx hb dX2_value_70 (by decide) ?_
        refine W.lcmp hx hb dX2_value_71 ?_
        refine lv_if_ne (tgt := 85) hx hb dX2_value_72 (by decide) (fun c_10 => ?_) (fun c_10 => ?_)
        · replace c_10 := fun h => c_10 (lc_eq.mpr h)
          refine lv_lload hx hb dX2_value_85 (lv_at hl 0 rfl) ?_
          refine lv_lload hx hb dX2_value_87 (lv_at hl 0 rfl) ?_
          refine lv_lmul hx hb dX2_value_89 ?_
          refine lv_lload hx hb dX2_value_90 (lv_at hl 0 rfl) ?_
          refine lv_lmul hx hb dX2_value_92 ?_
          refine lv_topl (fun v_11 ev_11 => ?_)
          refine lv_lstore (lv' := [(6, .long v_11), (4, .long v_9), (3, .ref (pq (x_cnt pl x cnt))), (0, .ref (a 0)), (1, .int x), (2, .int k)]) hx hb dX2_value_93 hl (by decide) rfl (fun ls hl => ?_)
          refine lv_aload_n hx hb dX2_value_95 rfl (lv_at hl 2 rfl) ?_
          refine lv_iload_n hx hb dX2_value_96 rfl (lv_at hl 4 rfl) ?_
          refine lv_i2l hx hb dX2_value_97 rfl ?_
          refine vp_callSl (va_Run.run (va_runVN (As := [.long x.toInt64]) (rest := []) ⟨hx, hb, hml, hown, hg⟩ (c_X0_powersAt l D cI cL cQ (pq (x_cnt pl x cnt)) (nq (x_cnt pl x cnt)) (nm (x_cnt pl x cnt)) x.toInt64) ⟨va_cnB 1 hg (gw_C co_X0_powersAt) rfl rfl rfl (hG.1 _ mn_X2_89) (hg _ ini_X0) (by decide +kernel) ⟨Nat.le_of_ble_eq_true rfl, Nat.le_of_ble_eq_true rfl⟩, hg _ im_X0_powersAt, hg _ se_X0_powersAt⟩ ⟨pu_B.blind, va_recv hK hP (ci := 0) (q0 := 5 + 2 * (x_cnt pl x cnt)) rfl (xw_p (by omega)), (fun U hU hW => ⟨rfl, pu_B.at hK (va_P2 hP (xw_p (k := (x_cnt pl x cnt)) (by omega)) (xw_n (k := (x_cnt pl x cnt)) (by omega))) hU hW⟩)⟩ rfl rfl hl.1 rfl (lv_room (Nat.le_of_ble_eq_true rfl)) dX2_value_98 ⟨Nat.le_of_ble_eq_true rfl, Nat.le_of_ble_eq_true rfl⟩)) (fun r_12 hr_12 => ?_)
          subst hr_12
          refine lv_lload hx hb dX2_value_101 (lv_at hl 0 rfl) ?_
          refine lv_lmul hx hb dX2_value_103 ?_
          refine lv_aload_n hx hb dX2_value_104 rfl (lv_at hl 2 rfl) ?_
          refine lv_lload hx hb dX2_value_105 (lv_at hl 1 rfl) ?_
          refine vp_callSl (va_Run.run (va_runVN (As := [.long v_9]) (rest := [.long ((p_powers (nm (x_cnt pl x cnt))  x.toInt64) * v_11)]) ⟨hx, hb, hml, hown, hg⟩ (c_X0_abovePoleAt l D cI cL cQ (pq (x_cnt pl x cnt)) (nq (x_cnt pl x cnt)) (nm (x_cnt pl x cnt)) v_9) ⟨va_cnB 1 hg (gw_C co_X0_abovePoleAt) rfl rfl rfl (hG.1 _ mn_X2_99) (hg _ ini_X0) (by decide +kernel) ⟨Nat.le_of_ble_eq_true rfl, Nat.le_of_ble_eq_true rfl⟩, hg _ im_X0_abovePoleAt, hg _ se_X0_abovePoleAt⟩ ⟨pu_B.blind, va_recv hK hP (ci := 0) (q0 := 5 + 2 * (x_cnt pl x cnt)) rfl (xw_p (by omega)), (fun U hU hW => ⟨rfl, pu_B.at hK (va_P2 hP (xw_p (k := (x_cnt pl x cnt)) (by omega)) (xw_n (k := (x_cnt pl x cnt)) (by omega))) hU hW⟩)⟩ rfl rfl hl.1 rfl (lv_room (Nat.le_of_ble_eq_true rfl)) dX2_value_107 ⟨Nat.le_of_ble_eq_true rfl, Nat.le_of_ble_eq_true rfl⟩)) (fun r_13 hr_13 => ?_)
          subst hr_13
          refine lv_ladd hx hb dX2_value_110 ?_
          refine lv_lload hx hb dX2_value_111 (lv_at hl 0 rfl) ?_
          refine lv_iload_n hx hb dX2_value_113 rfl (lv_at hl 5 rfl) ?_
          refine vp_callSl (W.runS (As := [.long (((p_powers (nm (x_cnt pl x cnt))  x.toInt64) * v_11) + (p_above (nm (x_cnt pl x cnt))  v_9)), .long v_11, .int k]) (rest := []) ⟨hx, hb, hml, hown, hg⟩ (c_X2_lowestTerms l (((p_powers (nm (x_cnt pl x cnt))  x.toInt64) * v_11) + (p_above (nm (x_cnt pl x cnt))  v_9)) v_11 k) (va_cwS 3 hg (gw_S ml_X2_93 sm_X2_lowestTerms ini_X2 co_X2_lowestTerms) rfl rfl rfl (by decide +kernel) ⟨Nat.le_of_ble_eq_true rfl, Nat.le_of_ble_eq_true rfl⟩) ⟨tt_blind, (fun U hU hW => ⟨rfl, trivial⟩)⟩ rfl rfl hl.1 rfl (lv_room (Nat.le_of_ble_eq_true rfl)) dX2_value_114 ⟨Nat.le_of_ble_eq_true rfl, Nat.le_of_ble_eq_true rfl⟩) (fun r_14 hr_14 => ?_)
          subst hr_14
          refine vx_ret ?_
          refine W.widen (k := 1) (n := 6) (Nat.zero_le _) (Nat.zero_le _) ?_
          exact W.lret (v := (x_low (((p_powers (nm (x_cnt pl x cnt))  x.toInt64) * v_11) + (p_above (nm (x_cnt pl x cnt))  v_9)) v_11 k)) hx hb hr (fun t ht hW => ⟨⟨(x_low (((p_powers (nm (x_cnt pl x cnt))  x.toInt64) * v_11) + (p_above (nm (x_cnt pl x cnt))  v_9)) v_11 k), (), rfl, ⟨c_2, c_4, fun _ h9 => c_10 (by rw [ev_9]; exact h9), by rw [x_val, if_pos c_8]; simp only [x_vd]; rw [← ev_9, ← ev_11]⟩, wd_E.at hK hP hD ht hW⟩, hS.F ht⟩) hS.2.2 dX2_value_117
        · replace c_10 := lc_eq.mp c_10
          obtain ⟨sa, hsa⟩ := hG.2.2.2.1 (97, "a pole is there") (by decide)
          exact vx_throwS (names := ["java/lang/RuntimeException", "java/lang/Exception"]) (A := A) (sa := sa) hx hb hlt hown (by decide) (by decide) (hg _ cl_X2_50) (hg _ ini_IllegalStateException) hsa (fun w hw => (xa_54 w hw).elim (hg w) (fun h => hG.nest h)) xg_54 hG.2.2.2.2.1 hG.2.2.2.2.2.1 hS (hl.1.trans hml.symm) dX2_value_75 dX2_value_78 dX2_value_79 dX2_value_81 dX2_value_84 (fun x hx9 => (htab x hx9).elim) (Nat.le_of_ble_eq_true rfl) (Nat.le_of_ble_eq_true rfl) (Nat.le_of_ble_eq_true rfl) (Nat.le_of_ble_eq_true rfl) hlocks (fun t hal hsz hq => ⟨(), trivial, ⟨Or.inr ⟨rfl, c_2, c_4, c_8, by rw [x_vd, ← ev_9]; exact c_10⟩, (wd_thr hK hP hD hS t hal hsz hq).1⟩, (wd_thr hK hP hD hS t hal hsz hq).2⟩) hS.2.2 (Nat.le_of_ble_eq_true rfl) (Nat.le_of_ble_eq_true rfl)
      · replace c_8 := zi_0 c_8
        refine lv_aload_n hx hb dX2_value_44 rfl (lv_at hl 0 rfl) ?_
        refine lv_iload_n hx hb dX2_value_45 rfl (lv_at hl 2 rfl) ?_
        refine lv_i2l hx hb dX2_value_46 rfl ?_
        refine vp_callSl (va_Run.run (va_runVN (As := [.long x.toInt64]) (rest := []) ⟨hx, hb, hml, hown, hg⟩ (c_X0_powersAt l D cI cL cQ (pq (x_cnt pl x cnt)) (nq (x_cnt pl x cnt)) (nm (x_cnt pl x cnt)) x.toInt64) ⟨va_cnB 1 hg (gw_C co_X0_powersAt) rfl rfl rfl (hG.1 _ mn_X2_89) (hg _ ini_X0) (by decide +kernel) ⟨Nat.le_of_ble_eq_true rfl, Nat.le_of_ble_eq_true rfl⟩, hg _ im_X0_powersAt, hg _ se_X0_powersAt⟩ ⟨pu_B.blind, va_recv hK hP (ci := 0) (q0 := 5 + 2 * (x_cnt pl x cnt)) rfl (xw_p (by omega)), (fun U hU hW => ⟨rfl, pu_B.at hK (va_P2 hP (xw_p (k := (x_cnt pl x cnt)) (by omega)) (xw_n (k := (x_cnt pl x cnt)) (by omega))) hU hW⟩)⟩ rfl rfl hl.1 rfl (lv_room (Nat.le_of_ble_eq_true rfl)) dX2_value_47 ⟨Nat.le_of_ble_eq_true rfl, Nat.le_of_ble_eq_true rfl⟩)) (fun r_15 hr_15 => ?_)
        subst hr_15
        refine lv_lconst (v := 1) hx hb dX2_value_50 (by decide) ?_
        refine lv_iload_n hx hb dX2_value_51 rfl (lv_at hl 3 rfl) ?_
        refine vp_callSl (W.runS (As := [.long (p_powers (nm (x_cnt pl x cnt))  x.toInt64), .long 1, .int k]) (rest := []) ⟨hx, hb, hml, hown, hg⟩ (c_X2_lowestTerms l (p_powers (nm (x_cnt pl x cnt))  x.toInt64) 1 k) (va_cwS 3 hg (gw_S ml_X2_93 sm_X2_lowestTerms ini_X2 co_X2_lowestTerms) rfl rfl rfl (by decide +kernel) ⟨Nat.le_of_ble_eq_true rfl, Nat.le_of_ble_eq_true rfl⟩) ⟨tt_blind, (fun U hU hW => ⟨rfl, trivial⟩)⟩ rfl rfl hl.1 rfl (lv_room (Nat.le_of_ble_eq_true rfl)) dX2_value_52 ⟨Nat.le_of_ble_eq_true rfl, Nat.le_of_ble_eq_true rfl⟩) (fun r_16 hr_16 => ?_)
        subst hr_16
        refine vx_ret ?_
        refine W.widen (k := 1) (n := 6) (Nat.zero_le _) (Nat.zero_le _) ?_
        exact W.lret (v := (x_low (p_powers (nm (x_cnt pl x cnt))  x.toInt64) 1 k)) hx hb hr (fun t ht hW => ⟨⟨(x_low (p_powers (nm (x_cnt pl x cnt))  x.toInt64) 1 k), (), rfl, ⟨c_2, c_4, fun h9 => absurd (h9.symm.trans c_8) (by decide), by rw [x_val, if_neg (by rw [c_8]; decide)]⟩, wd_E.at hK hP hD ht hW⟩, hS.F ht⟩) hS.2.2 dX2_value_55
    · replace c_4 := zi_0 c_4
      obtain ⟨sa, hsa⟩ := hG.2.2.2.1 (83, "no such place or part") (by decide)
      exact vx_throwS (names := ["java/lang/RuntimeException", "java/lang/Exception"]) (A := A) (sa := sa) hx hb hlt hown (by decide) (by decide) (hg _ cl_X2_43) (hg _ ini_IllegalArgumentException) hsa (fun w hw => (xa_47 w hw).elim (hg w) (fun h => hG.nest h)) xg_47 hG.2.2.2.2.1 hG.2.2.2.2.2.1 hS (hl.1.trans hml.symm) dX2_value_16 dX2_value_19 dX2_value_20 dX2_value_22 dX2_value_25 (fun x hx9 => (htab x hx9).elim) (Nat.le_of_ble_eq_true rfl) (Nat.le_of_ble_eq_true rfl) (Nat.le_of_ble_eq_true rfl) (Nat.le_of_ble_eq_true rfl) hlocks (fun t hal hsz hq => ⟨(), trivial, ⟨Or.inl ⟨rfl, Or.inr c_4⟩, (wd_thr hK hP hD hS t hal hsz hq).1⟩, (wd_thr hK hP hD hS t hal hsz hq).2⟩) hS.2.2 (Nat.le_of_ble_eq_true rfl) (Nat.le_of_ble_eq_true rfl)
end
section
def q_l (x y : Int32) : Int32 := if y < x then y else x
def q_r (x y : Int32) : Int32 := if x < y then y else x
def q_z (x y : Int32) : Int32 := if y < x then -1 else 1
theorem in9_of {x : Int32} (h : x_end x = true) : in9 x := by
  simp only [x_end, x_in, x_less, Bool.or_eq_true, Bool.and_eq_true, Bool.not_eq_true', decide_eq_false_iff_not, decide_eq_true_eq] at h
  rcases h with ⟨h1, h2⟩ | h | h
  · rw [Int32.lt_iff_toInt_lt] at h1 h2
    have e1 : (-(6 : Int32)).toInt = -6 := by decide
    have e2 : (6 : Int32).toInt = 6 := by decide
    rw [e1] at h1
    rw [e2] at h2
    exact ⟨by omega, by omega⟩
  · rw [h]; exact ⟨by decide, by decide⟩
  · rw [h]; exact ⟨by decide, by decide⟩
set_option maxHeartbeats 4000000 in
set_option maxRecDepth 100000 in
theorem c_X2_integral (l : Launch) (hlt : l.stackTraces = false) (A : Nat → Prop) (D : va_G) (cI cL cQ : ClassId) (fr : va_W) (a : Nat → Nat) (pl : Nat → Int32) (pq nq : Nat → Nat) (nm : Nat → Nat → Int32) (ab : Int64) (lg : Nat → Int32) (cnt : Nat) (hc : cnt ≤ 3) (kn : Int32) (x y : Int32) (hp9 : ∀ j, j < cnt → in9 (pl j)) (hn6 : ∀ j, j ≤ cnt → in6 (nm j 7)) : vx_Met l yX2_integral wsX2_integral { frames := 7, cells := 1, slots := 6, locals := 120 } (va_Pc [.ref (a 0), .int x, .int y] (wd_B D (ty3 cI cL cQ) A (xw cI cQ a pl pq nq nm ab lg (nI cnt) kn ++ fr))) (va_Qi (fun r (u : Int64 × (Nat → Int32) × Bool) => (x_end x && x_end y) = true ∧ r = zi u.2.2 ∧ ((a_fold (q_l x y) (q_r x y) (q_z x y) pl nm cnt (cnt + 1) = some (u.1, u.2.1) ∧ u.2.2 = true) ∨ (a_fold (q_l x y) (q_r x y) (q_z x y) pl nm cnt (cnt + 1) = none ∧ u.2.2 = false))) (fun u t => wd_E D (ty3 cI cL cQ) A (xw cI cQ a pl pq nq nm u.1 u.2.1 (nI cnt) (zi u.2.2) ++ fr) t) A) (vx_X (fun _ : Unit => True) (fun E _ t => (E = "java/lang/IllegalArgumentException" ∧ (x_end x && x_end y) = false) ∧ wd_E D (ty3 cI cL cQ) A (xw cI cQ a pl pq nq nm ab lg (nI cnt) kn ++ fr) t) A) 1 6 A := by
  refine vx_ofW (cc := cX2_integral) (maxL := 3) (ret := (some .boolean)) (by decide) rfl ?_
  intro p e s m args below meth c s₁ B hml htab hv
  obtain ⟨rfl, hG, hK, hP, hD, hA⟩ := hv
  have hx := B.exec
  have hb := B.bytes
  have hr := B.returns
  have hts := atoms_spec (ws := wsX2_integral) B.pre
  have hg : ∀ w ∈ gw, w.before ([.ref (a 0), .int x, .int y] : List Value).toArray s = true := fun w h => hts w (List.mem_cons_of_mem _ h)
  have hown : s.vm.findClass RX2 = some m.cls := findClass_of_methodNamed B.named
  have hlocks := B.notSynchronized
  have hS : va_S A s.heap s.heap [] := va_S.rf
  have hl := lv_entry ([.ref (a 0), .int x, .int y]) (n := 3) (Nat.le_of_ble_eq_true rfl)
  rw [lg_entry_eq]
  generalize (lg_sl ([.ref (a 0), .int x, .int y]) ++ List.replicate (3 - (lg_sl ([.ref (a 0), .int x, .int y])).length) Slot.unset).toArray = ls at hl ⊢
  have hl : lv_has ls 3 [(0, .ref (a 0)), (1, .int x), (2, .int y)] := hl
  refine lv_iload_n hx hb dX2_integral_0 rfl (lv_at hl 1 rfl) ?_
  refine vp_callSi (W.runS (As := [.int x]) (rest := []) ⟨hx, hb, hml, hown, hg⟩ (c_X2_isEnd l x) (va_cwS 1 hg (gw_S ml_X2_102 sm_X2_isEnd ini_X2 co_X2_isEnd) rfl rfl rfl (by decide +kernel) ⟨Nat.le_of_ble_eq_true rfl, Nat.le_of_ble_eq_true rfl⟩) ⟨tt_blind, (fun U hU hW => ⟨rfl, trivial⟩)⟩ rfl rfl hl.1 rfl (lv_room (Nat.le_of_ble_eq_true rfl)) dX2_integral_1 ⟨Nat.le_of_ble_eq_true rfl, Nat.le_of_ble_eq_true rfl⟩) (fun r_1 hr_1 => ?_)
  subst hr_1
  refine lv_if_eq (tgt := 14) hx hb dX2_integral_4 (by decide) (fun c_2 => ?_) (fun c_2 => ?_)
  · replace c_2 := zi_0 c_2
    obtain ⟨sa, hsa⟩ := hG.2.2.2.1 (105, "no such ends") (by decide)
    exact vx_throwS (names := ["java/lang/RuntimeException", "java/lang/Exception"]) (A := A) (sa := sa) hx hb hlt hown (by decide) (by decide) (hg _ cl_X2_43) (hg _ ini_IllegalArgumentException) hsa (fun w hw => (xa_47 w hw).elim (hg w) (fun h => hG.nest h)) xg_47 hG.2.2.2.2.1 hG.2.2.2.2.2.1 hS (hl.1.trans hml.symm) dX2_integral_14 dX2_integral_17 dX2_integral_18 dX2_integral_20 dX2_integral_23 (fun x hx9 => (htab x hx9).elim) (Nat.le_of_ble_eq_true rfl) (Nat.le_of_ble_eq_true rfl) (Nat.le_of_ble_eq_true rfl) (Nat.le_of_ble_eq_true rfl) hlocks (fun t hal hsz hq => ⟨(), trivial, ⟨⟨rfl, by simp [c_2]⟩, (wd_thr hK hP hD hS t hal hsz hq).1⟩, (wd_thr hK hP hD hS t hal hsz hq).2⟩) hS.2.2 (Nat.le_of_ble_eq_true rfl) (Nat.le_of_ble_eq_true rfl)
  · replace c_2 := zi_n0 c_2
    refine lv_iload_n hx hb dX2_integral_7 rfl (lv_at hl 2 rfl) ?_
    refine vp_callSi (W.runS (As := [.int y]) (rest := []) ⟨hx, hb, hml, hown, hg⟩ (c_X2_isEnd l y) (va_cwS 1 hg (gw_S ml_X2_102 sm_X2_isEnd ini_X2 co_X2_isEnd) rfl rfl rfl (by decide +kernel) ⟨Nat.le_of_ble_eq_true rfl, Nat.le_of_ble_eq_true rfl⟩) ⟨tt_blind, (fun U hU hW => ⟨rfl, trivial⟩)⟩ rfl rfl hl.1 rfl (lv_room (Nat.le_of_ble_eq_true rfl)) dX2_integral_8 ⟨Nat.le_of_ble_eq_true rfl, Nat.le_of_ble_eq_true rfl⟩) (fun r_3 hr_3 => ?_)
    subst hr_3
    refine lv_if_ne (tgt := 24) hx hb dX2_integral_11 (by decide) (fun c_4 => ?_) (fun c_4 => ?_)
    · replace c_4 := zi_n0 c_4
      refine lv_aload_n hx hb dX2_integral_24 rfl (lv_at hl 0 rfl) ?_
      refine lv_aload_n hx hb dX2_integral_25 rfl (lv_at hl 0 rfl) ?_
      refine lv_iload_n hx hb dX2_integral_26 rfl (lv_at hl 1 rfl) ?_
      refine lv_iload_n hx hb dX2_integral_27 rfl (lv_at hl 2 rfl) ?_
      refine va_mmin hx hb (by rw [hml]; exact hl.1.symm) hown (hg _ ml_X2_107) (hg _ sm_Mmin) (hg _ ini_J9) (hg _ co_Mmin) (Nat.le_of_ble_eq_true rfl) (Nat.le_of_ble_eq_true rfl) (Nat.le_of_ble_eq_true rfl) (Nat.le_of_ble_eq_true rfl) dX2_integral_28 ?_
      refine lv_iload_n hx hb dX2_integral_31 rfl (lv_at hl 1 rfl) ?_
      refine lv_iload_n hx hb dX2_integral_32 rfl (lv_at hl 2 rfl) ?_
      refine va_mmax hx hb (by rw [hml]; exact hl.1.symm) hown (hg _ ml_X2_113) (hg _ sm_Mmax) (hg _ ini_J9) (hg _ co_Mmax) (Nat.le_of_ble_eq_true rfl) (Nat.le_of_ble_eq_true rfl) (Nat.le_of_ble_eq_true rfl) (Nat.le_of_ble_eq_true rfl) dX2_integral_33 ?_
      refine W.eq (g2 := F0 m 36 ls [.int (q_r x y), .int (q_l x y), .ref (a 0), .ref (a 0)]) rfl ?_
      have hcut : W p l e (headSpec wsX2_integral { frames := 7, cells := 1, slots := 6, locals := 120 }).room s m ([.ref (a 0), .int x, .int y] : List Value).toArray below meth c s.heap [] 0 0 (vx_MQ below (va_Qi (fun r (u : Int64 × (Nat → Int32) × Bool) => (x_end x && x_end y) = true ∧ r = zi u.2.2 ∧ ((a_fold (q_l x y) (q_r x y) (q_z x y) pl nm cnt (cnt + 1) = some (u.1, u.2.1) ∧ u.2.2 = true) ∨ (a_fold (q_l x y) (q_r x y) (q_z x y) pl nm cnt (cnt + 1) = none ∧ u.2.2 = false))) (fun u t => wd_E D (ty3 cI cL cQ) A (xw cI cQ a pl pq nq nm u.1 u.2.1 (nI cnt) (zi u.2.2) ++ fr) t) A) (vx_X (fun _ : Unit => True) (fun E _ t => (E = "java/lang/IllegalArgumentException" ∧ (x_end x && x_end y) = false) ∧ wd_E D (ty3 cI cL cQ) A (xw cI cQ a pl pq nq nm ab lg (nI cnt) kn ++ fr) t) A) ([.ref (a 0), .int x, .int y] : List Value).toArray s 1 6 A) (F0 m 46 ls [.int (q_z x y), .int (q_r x y), .int (q_l x y), .ref (a 0), .ref (a 0)]) := by
        refine va_calli (va_runV (As := [.int (q_l x y), .int (q_r x y), .int (q_z x y)]) (rest := [.ref (a 0)]) ⟨hx, hb, hml, hown, hg⟩ (c_X2_addParts l A D cI cL cQ fr a pl pq nq nm ab lg cnt hc kn (q_l x y) (q_r x y) (q_z x y) (by unfold q_l; split; exact in9_of c_4; exact in9_of c_2) (by unfold q_r; split; exact in9_of c_4; exact in9_of c_2) hp9 hn6) (cwV 3 hg (gw_V ml_X2_116 im_X2_addParts se_X2_addParts ini_X2 co_X2_addParts) rfl rfl rfl (by decide +kernel) ⟨Nat.le_of_ble_eq_true rfl, Nat.le_of_ble_eq_true rfl⟩) ⟨wd_B.blind, va_recv hK hP (ci := 2) (q0 := 0) rfl rfl, (fun U hU hW => ⟨rfl, wd_B.at hG hK hP hD hS hA hU hW⟩)⟩ rfl rfl hl.1 rfl (lv_room (Nat.le_of_ble_eq_true rfl)) dX2_integral_46 ⟨Nat.le_of_ble_eq_true rfl, Nat.le_of_ble_eq_true rfl⟩) hS (fun q _ h => h) (fun q h => h) (fun r_5 u t H1 locs ht hvm hr_5 hB hz1 hk1 hS => ?_)
        obtain ⟨hK, hP, hD⟩ := hB.back ht hvm
        generalize H1 = H at hP hS ⊢
        have hP : va_P D vwCl (xw cI cQ a pl pq nq nm u.1 u.2 (nI cnt) kn ++ fr) H := hP
        have hD : va_D A (xw cI cQ a pl pq nq nm u.1 u.2 (nI cnt) kn ++ fr) := hD
        rcases hr_5 with ⟨hfo, rfl⟩ | ⟨hfo, rfl⟩
        · refine va_put (D := D) (ci := 2) (v := .int 1) (ty := .boolean) (C := RX2) (T := TX2) (N := 5) hx hb hg inX2 tyX2 tyX2_ok nmX2 hown hK hP hD hS 0 rfl rfl 4 (by decide) (hg _ fl_X2_30) (fun _ h9 => h9) rfl (by decide +kernel) rfl rfl (Nat.le_of_ble_eq_true rfl) dX2_integral_49 (fun H locs hP hD hS => ?_)
          have hP : va_P D vwCl (xw cI cQ a pl pq nq nm u.1 u.2 (nI cnt) 1 ++ fr) H := hP
          have hD : va_D A (xw cI cQ a pl pq nq nm u.1 u.2 (nI cnt) 1 ++ fr) := hD
          refine lv_aload_n hx hb dX2_integral_52 rfl (lv_at hl 0 rfl) ?_
          refine va_get (D := D) (ci := 2) (v := .int 1) (C := RX2) (T := TX2) (N := 5) hx hb hg inX2 hown hK hP 0 rfl rfl 4 (by decide) (hg _ fl_X2_30) (fun _ h9 => h9) rfl dX2_integral_53 ?_
          refine vx_ret ?_
          refine W.widen (k := 1) (n := 6) (Nat.zero_le _) (Nat.zero_le _) ?_
          exact W.zret (v := 1) hx hb hr rfl (fun t ht hW => ⟨⟨1, (u.1, u.2, true), rfl, ⟨by rw [c_2, c_4]; rfl, rfl, Or.inl ⟨hfo, rfl⟩⟩, wd_E.at hK hP hD ht hW⟩, hS.F ht⟩) hS.2.2 dX2_integral_56
        · refine va_put (D := D) (ci := 2) (v := .int 0) (ty := .boolean) (C := RX2) (T := TX2) (N := 5) hx hb hg inX2 tyX2 tyX2_ok nmX2 hown hK hP hD hS 0 rfl rfl 4 (by decide) (hg _ fl_X2_30) (fun _ h9 => h9) rfl (by decide +kernel) rfl rfl (Nat.le_of_ble_eq_true rfl) dX2_integral_49 (fun H locs hP hD hS => ?_)
          have hP : va_P D vwCl (xw cI cQ a pl pq nq nm u.1 u.2 (nI cnt) 0 ++ fr) H := hP
          have hD : va_D A (xw cI cQ a pl pq nq nm u.1 u.2 (nI cnt) 0 ++ fr) := hD
          refine lv_aload_n hx hb dX2_integral_52 rfl (lv_at hl 0 rfl) ?_
          refine va_get (D := D) (ci := 2) (v := .int 0) (C := RX2) (T := TX2) (N := 5) hx hb hg inX2 hown hK hP 0 rfl rfl 4 (by decide) (hg _ fl_X2_30) (fun _ h9 => h9) rfl dX2_integral_53 ?_
          refine vx_ret ?_
          refine W.widen (k := 1) (n := 6) (Nat.zero_le _) (Nat.zero_le _) ?_
          exact W.zret (v := 0) hx hb hr rfl (fun t ht hW => ⟨⟨0, (u.1, u.2, false), rfl, ⟨by rw [c_2, c_4]; rfl, rfl, Or.inr ⟨hfo, rfl⟩⟩, wd_E.at hK hP hD ht hW⟩, hS.F ht⟩) hS.2.2 dX2_integral_56
      refine lv_iload_n hx hb dX2_integral_36 rfl (lv_at hl 1 rfl) ?_
      refine lv_iload_n hx hb dX2_integral_37 rfl (lv_at hl 2 rfl) ?_
      refine lv_icmp_gt (tgt := 45) hx hb dX2_integral_38 (by decide) (fun c_6 => ?_) (fun c_6 => ?_)
      · refine lv_iconst (v := (-1)) hx hb dX2_integral_45 (by decide) ?_
        have ez : q_z x y = (-1) := by rw [q_z, if_pos c_6]
        exact W.eq (by rw [ez]) hcut
      · refine lv_iconst (v := 1) hx hb dX2_integral_41 (by decide) ?_
        refine lv_goto (tgt := 46) hx hb dX2_integral_42 (by decide) ?_
        have ez : q_z x y = 1 := by rw [q_z, if_neg c_6]
        exact W.eq (by rw [ez]) hcut
    · replace c_4 := zi_0 c_4
      obtain ⟨sa, hsa⟩ := hG.2.2.2.1 (105, "no such ends") (by decide)
      exact vx_throwS (names := ["java/lang/RuntimeException", "java/lang/Exception"]) (A := A) (sa := sa) hx hb hlt hown (by decide) (by decide) (hg _ cl_X2_43) (hg _ ini_IllegalArgumentException) hsa (fun w hw => (xa_47 w hw).elim (hg w) (fun h => hG.nest h)) xg_47 hG.2.2.2.2.1 hG.2.2.2.2.2.1 hS (hl.1.trans hml.symm) dX2_integral_14 dX2_integral_17 dX2_integral_18 dX2_integral_20 dX2_integral_23 (fun x hx9 => (htab x hx9).elim) (Nat.le_of_ble_eq_true rfl) (Nat.le_of_ble_eq_true rfl) (Nat.le_of_ble_eq_true rfl) (Nat.le_of_ble_eq_true rfl) hlocks (fun t hal hsz hq => ⟨(), trivial, ⟨⟨rfl, by simp [c_2, c_4]⟩, (wd_thr hK hP hD hS t hal hsz hq).1⟩, (wd_thr hK hP hD hS t hal hsz hq).2⟩) hS.2.2 (Nat.le_of_ble_eq_true rfl) (Nat.le_of_ble_eq_true rfl)
set_option maxHeartbeats 4000000 in
set_option maxRecDepth 100000 in
theorem c_X2_cut (l : Launch) (hlt : l.stackTraces = false) (A : Nat → Prop) (D : va_G) (cI cL cQ : ClassId) (fr : va_W) (a : Nat → Nat) (pl : Nat → Int32) (pq nq : Nat → Nat) (nm : Nat → Nat → Int32) (ab : Int64) (lg : Nat → Int32) (cnt : Nat) (hc : cnt ≤ 3) (kn : Int32) (x : Int32) : vx_Met l yX2_cut wsX2_cut { frames := 7, cells := 1, slots := 6, locals := 90 } (va_Pc [.ref (a 0), .int x] (wd_B D (ty3 cI cL cQ) A (xw cI cQ a pl pq nq nm ab lg (nI cnt) kn ++ fr))) (va_Qi (fun r (u : (Nat → Int32) × (Nat → Nat → Int32)) => x_in x 6 = true ∧ x_cut pl x cnt = false ∧ cnt < 3 ∧ r = nI (x_cnt pl x cnt) ∧ (∀ j, j < cnt + 1 → u.1 j = if j < x_cnt pl x cnt then pl j else if j = x_cnt pl x cnt then x else pl (j - 1)) ∧ (∀ j, j < cnt + 2 → u.2 j = if j ≤ x_cnt pl x cnt then nm j else nm (j - 1))) (fun u t => wd_E D (ty3 cI cL cQ) A (xw cI cQ a u.1 pq nq u.2 ab lg (nI (cnt + 1)) kn ++ fr) t) A) (vx_X (fun _ : Unit => True) (fun E _ t => ((E = "java/lang/IllegalArgumentException" ∧ (x_in x 6 && !x_cut pl x cnt) = false) ∨ (E = "java/lang/IllegalStateException" ∧ (x_in x 6 && !x_cut pl x cnt) = true ∧ cnt = 3)) ∧ wd_E D (ty3 cI cL cQ) A (xw cI cQ a pl pq nq nm ab lg (nI cnt) kn ++ fr) t) A) 1 6 A := by
  refine vx_ofW (cc := cX2_cut) (maxL := 4) (ret := (some .int)) (by decide) rfl ?_
  intro p e s m args below meth c s₁ B hml htab hv
  obtain ⟨rfl, hG, hK, hP, hD, hA⟩ := hv
  have hx := B.exec
  have hb := B.bytes
  have hr := B.returns
  have hts := atoms_spec (ws := wsX2_cut) B.pre
  have hg : ∀ w ∈ gw, w.before ([.ref (a 0), .int x] : List Value).toArray s = true := fun w h => hts w (List.mem_cons_of_mem _ h)
  have hown : s.vm.findClass RX2 = some m.cls := findClass_of_methodNamed B.named
  have hlocks := B.notSynchronized
  have hS : va_S A s.heap s.heap [] := va_S.rf
  have hl := lv_entry ([.ref (a 0), .int x]) (n := 4) (Nat.le_of_ble_eq_true rfl)
  rw [lg_entry_eq]
  generalize (lg_sl ([.ref (a 0), .int x]) ++ List.replicate (4 - (lg_sl ([.ref (a 0), .int x])).length) Slot.unset).toArray = ls at hl ⊢
  have hl : lv_has ls 4 [(0, .ref (a 0)), (1, .int x)] := hl
  refine lv_iload_n hx hb dX2_cut_0 rfl (lv_at hl 1 rfl) ?_
  refine lv_bipush (v := 6) hx hb dX2_cut_1 (by decide) ?_
  refine vp_callSi (W.runS (As := [.int x, .int 6]) (rest := []) ⟨hx, hb, hml, hown, hg⟩ (c_X2_isWithin l x 6) (va_cwS 2 hg (gw_S ml_X2_35 sm_X2_isWithin ini_X2 co_X2_isWithin) rfl rfl rfl (by decide +kernel) ⟨Nat.le_of_ble_eq_true rfl, Nat.le_of_ble_eq_true rfl⟩) ⟨tt_blind, (fun U hU hW => ⟨rfl, trivial⟩)⟩ rfl rfl hl.1 rfl (lv_room (Nat.le_of_ble_eq_true rfl)) dX2_cut_3 ⟨Nat.le_of_ble_eq_true rfl, Nat.le_of_ble_eq_true rfl⟩) (fun r_1 hr_1 => ?_)
  subst hr_1
  refine lv_if_eq (tgt := 17) hx hb dX2_cut_6 (by decide) (fun c_2 => ?_) (fun c_2 => ?_)
  · replace c_2 := zi_0 c_2
    obtain ⟨sa, hsa⟩ := hG.2.2.2.1 (45, "no place for a cut") (by decide)
    exact vx_throwS (names := ["java/lang/RuntimeException", "java/lang/Exception"]) (A := A) (sa := sa) hx hb hlt hown (by decide) (by decide) (hg _ cl_X2_43) (hg _ ini_IllegalArgumentException) hsa (fun w hw => (xa_47 w hw).elim (hg w) (fun h => hG.nest h)) xg_47 hG.2.2.2.2.1 hG.2.2.2.2.2.1 hS (hl.1.trans hml.symm) dX2_cut_17 dX2_cut_20 dX2_cut_21 dX2_cut_23 dX2_cut_26 (fun x hx9 => (htab x hx9).elim) (Nat.le_of_ble_eq_true rfl) (Nat.le_of_ble_eq_true rfl) (Nat.le_of_ble_eq_true rfl) (Nat.le_of_ble_eq_true rfl) hlocks (fun t hal hsz hq => ⟨(), trivial, ⟨Or.inl ⟨rfl, by simp [c_2]⟩, (wd_thr hK hP hD hS t hal hsz hq).1⟩, (wd_thr hK hP hD hS t hal hsz hq).2⟩) hS.2.2 (Nat.le_of_ble_eq_true rfl) (Nat.le_of_ble_eq_true rfl)
  · replace c_2 := zi_n0 c_2
    refine lv_aload_n hx hb dX2_cut_9 rfl (lv_at hl 0 rfl) ?_
    refine lv_iload_n hx hb dX2_cut_10 rfl (lv_at hl 1 rfl) ?_
    refine vp_callSi (W.runV (As := [.int x]) (rest := []) ⟨hx, hb, hml, hown, hg⟩ (c_X2_isCut l D cI cL cQ (a 0) (a 1) [.ref (a 1), .ref (a 2), .ref (a 3), .int (nI cnt), .int kn] rfl cnt rfl hc pl x) (cwV 1 hg (gw_V ml_X2_39 im_X2_isCut se_X2_isCut ini_X2 co_X2_isCut) rfl rfl rfl (by decide +kernel) ⟨Nat.le_of_ble_eq_true rfl, Nat.le_of_ble_eq_true rfl⟩) ⟨pu_B.blind, va_recv hK hP (ci := 2) (q0 := 0) rfl rfl, (fun U hU hW => ⟨rfl, pu_B.at hK (va_P2 hP (i := 0) (j := 1) rfl rfl) hU hW⟩)⟩ rfl rfl hl.1 rfl (lv_room (Nat.le_of_ble_eq_true rfl)) dX2_cut_11 ⟨Nat.le_of_ble_eq_true rfl, Nat.le_of_ble_eq_true rfl⟩) (fun r_3 hr_3 => ?_)
    subst hr_3
    refine lv_if_eq (tgt := 27) hx hb dX2_cut_14 (by decide) (fun c_4 => ?_) (fun c_4 => ?_)
    · replace c_4 := zi_0 c_4
      refine lv_aload_n hx hb dX2_cut_27 rfl (lv_at hl 0 rfl) ?_
      refine va_get (D := D) (ci := 2) (v := .int (nI cnt)) (C := RX2) (T := TX2) (N := 5) hx hb hg inX2 hown hK hP 0 rfl rfl 3 (by decide) (hg _ fl_X2_26) (fun _ h9 => h9) rfl dX2_cut_28 ?_
      refine lv_iconst (v := 3) hx hb dX2_cut_31 (by decide) ?_
      refine lv_icmp_lt (tgt := 45) hx hb dX2_cut_32 (by decide) (fun c_5 => ?_) (fun c_5 => ?_)
      · replace c_5 : cnt < 3 := (nI_ltI (a := cnt) (b := 3) (by omega) (by omega)).mp c_5
        have hi6 := c_2
        have hcu := c_4
        rcases (show cnt = 0 ∨ cnt = 1 ∨ cnt = 2 by omega) with rfl | rfl | rfl
        · have hP : va_P D vwCl (xw cI cQ a pl pq nq nm ab lg 0 kn ++ fr) s.heap := hP
          have hD : va_D A (xw cI cQ a pl pq nq nm ab lg 0 kn ++ fr) := hD
          refine lv_aload_n hx hb dX2_cut_45 rfl (lv_at hl 0 rfl) ?_
          refine lv_iload_n hx hb dX2_cut_46 rfl (lv_at hl 1 rfl) ?_
          refine vp_callSi (W.runV (As := [.int x]) (rest := []) ⟨hx, hb, hml, hown, hg⟩ (c_X2_pieceAt l D cI cL cQ (a 0) (a 1) [.ref (a 1), .ref (a 2), .ref (a 3), .int (0), .int kn] rfl 0 rfl hc pl x) (cwV 1 hg (gw_V ml_X2_55 im_X2_pieceAt se_X2_pieceAt ini_X2 co_X2_pieceAt) rfl rfl rfl (by decide +kernel) ⟨Nat.le_of_ble_eq_true rfl, Nat.le_of_ble_eq_true rfl⟩) ⟨pu_B.blind, va_recv hK hP (ci := 2) (q0 := 0) rfl rfl, (fun U hU hW => ⟨rfl, pu_B.at hK (va_P2 hP (i := 0) (j := 1) rfl rfl) hU hW⟩)⟩ rfl rfl hl.1 rfl (lv_room (Nat.le_of_ble_eq_true rfl)) dX2_cut_47 ⟨Nat.le_of_ble_eq_true rfl, Nat.le_of_ble_eq_true rfl⟩) (fun r_6 hr_6 => ?_)
          subst hr_6
          have hkl := x_cnt_le pl x 0
          rcases (show x_cnt pl x 0 = 0 by omega) with hk
          · rw [hk]
            refine W.eq (g2 := F0 m 50 ls [.int 0]) rfl ?_
            refine lv_istore_n (lv' := [(2, .int 0), (0, .ref (a 0)), (1, .int x)]) hx hb dX2_cut_50 rfl hl (by decide) rfl (fun ls hl => ?_)
            refine lv_aload_n hx hb dX2_cut_51 rfl (lv_at hl 1 rfl) ?_
            refine va_get (D := D) (ci := 2) (v := .int 0) (C := RX2) (T := TX2) (N := 5) hx hb hg inX2 hown hK hP 0 rfl rfl 3 (by decide) (hg _ fl_X2_26) (fun _ h9 => h9) rfl dX2_cut_52 ?_
            refine lv_istore_n (lv' := [(3, .int 0), (2, .int 0), (0, .ref (a 0)), (1, .int x)]) hx hb dX2_cut_55 rfl hl (by decide) rfl (fun ls hl => ?_)
            refine lv_iload_n hx hb dX2_cut_56 rfl (lv_at hl 0 rfl) ?_
            refine lv_iload_n hx hb dX2_cut_57 rfl (lv_at hl 1 rfl) ?_
            refine lv_icmp_le (tgt := 81) hx hb dX2_cut_58 (by decide) (fun _ => ?_) (fun c_7 => absurd c_7 (by decide))
            refine lv_aload_n hx hb dX2_cut_81 rfl (lv_at hl 2 rfl) ?_
            refine va_get (D := D) (ci := 2) (v := .int 0) (C := RX2) (T := TX2) (N := 5) hx hb hg inX2 hown hK hP 0 rfl rfl 3 (by decide) (hg _ fl_X2_26) (fun _ h9 => h9) rfl dX2_cut_82 ?_
            refine lv_istore_n (lv' := [(3, .int 0), (2, .int 0), (0, .ref (a 0)), (1, .int x)]) hx hb dX2_cut_85 rfl hl (by decide) rfl (fun ls hl => ?_)
            refine lv_iload_n hx hb dX2_cut_86 rfl (lv_at hl 0 rfl) ?_
            refine lv_iload_n hx hb dX2_cut_87 rfl (lv_at hl 1 rfl) ?_
            refine lv_icmp_lt (tgt := 114) hx hb dX2_cut_88 (by decide) (fun c_8 => absurd c_8 (by decide)) (fun _ => ?_)
            refine lv_aload_n hx hb dX2_cut_91 rfl (lv_at hl 2 rfl) ?_
            refine va_get (D := D) (ci := 2) (v := .ref (a 2)) (C := RX2) (T := TX2) (N := 5) hx hb hg inX2 hown hK hP 0 rfl rfl 1 (by decide) (hg _ fl_X2_15) (fun _ h9 => h9) rfl dX2_cut_92 ?_
            refine lv_iload_n hx hb dX2_cut_95 rfl (lv_at hl 0 rfl) ?_
            refine lv_iconst (v := 1) hx hb dX2_cut_96 (by decide) ?_
            refine lv_iadd hx hb dX2_cut_97 ?_
            rw [show (0 : Int32) + 1 = 1 from by decide]
            refine va_aldq (D := D) (n := 4) (f := (fun j => some (pq j))) hx hb hK hP 2 2 rfl rfl (vp_in_nI (show 1 < 4 by decide) (by decide)) dX2_cut_98 ?_
            refine W.eq (g2 := F0 m 99 ls [.ref (pq 1)]) rfl ?_
            refine lv_aload_n hx hb dX2_cut_99 rfl (lv_at hl 2 rfl) ?_
            refine va_get (D := D) (ci := 2) (v := .ref (a 2)) (C := RX2) (T := TX2) (N := 5) hx hb hg inX2 hown hK hP 0 rfl rfl 1 (by decide) (hg _ fl_X2_15) (fun _ h9 => h9) rfl dX2_cut_100 ?_
            refine lv_iload_n hx hb dX2_cut_103 rfl (lv_at hl 0 rfl) ?_
            refine va_aldq (D := D) (n := 4) (f := (fun j => some (pq j))) hx hb hK hP 2 2 rfl rfl (vp_in_nI (show 0 < 4 by decide) (by decide)) dX2_cut_104 ?_
            refine W.eq (g2 := F0 m 105 ls [.ref (pq 0), .ref (pq 1)]) rfl ?_
            refine va_callv (va_runVN (As := [.ref (pq 0)]) (rest := []) ⟨hx, hb, hml, hown, hg⟩ (c_X0_become l A D cI cL cQ (xw cI cQ a pl pq nq nm ab lg 0 kn ++ fr) 7 8 (pq 1) (nq 1) (nm 1) rfl rfl 5 6 (pq 0) (nq 0) (nm 0) rfl rfl) ⟨va_cnB 1 hg (gw_C co_X0_become) rfl rfl rfl (hG.1 _ mn_X2_59) (hg _ ini_X0) (by decide +kernel) ⟨Nat.le_of_ble_eq_true rfl, Nat.le_of_ble_eq_true rfl⟩, hg _ im_X0_become, hg _ se_X0_become⟩ ⟨wd_B.blind, va_recv hK hP (ci := 0) (q0 := 7) rfl rfl, (fun U hU hW => ⟨rfl, wd_B.at hG hK hP hD hS hA hU hW⟩)⟩ rfl rfl hl.1 rfl (lv_room (Nat.le_of_ble_eq_true rfl)) dX2_cut_105 ⟨Nat.le_of_ble_eq_true rfl, Nat.le_of_ble_eq_true rfl⟩) hS (fun q _ h => h) (fun q h => h) (fun u t H1 locs ht hvm hr_9 hB hz1 hk1 hS => ?_)
            obtain ⟨hK, hP, hD⟩ := hB.back ht hvm
            generalize H1 = H at hP hS ⊢
            have hP : va_P D vwCl (xw cI cQ a pl pq nq (va_up nm 1 (nm 0)) ab lg 0 kn ++ fr) H := hP
            have hD : va_D A (xw cI cQ a pl pq nq (va_up nm 1 (nm 0)) ab lg 0 kn ++ fr) := hD
            refine lv_iinc (v := (-1)) (lv' := [(3, .int (-1)), (2, .int 0), (0, .ref (a 0)), (1, .int x)]) hx hb dX2_cut_108 hl (k := 0) rfl (by decide) (by decide) rfl (fun ls hl => ?_)
            refine lv_goto (tgt := 86) hx hb dX2_cut_111 (by decide) ?_
            refine lv_iload_n hx hb dX2_cut_86 rfl (lv_at hl 0 rfl) ?_
            refine lv_iload_n hx hb dX2_cut_87 rfl (lv_at hl 1 rfl) ?_
            refine lv_icmp_lt (tgt := 114) hx hb dX2_cut_88 (by decide) (fun _ => ?_) (fun c_10 => absurd c_10 (by decide))
            refine lv_aload_n hx hb dX2_cut_114 rfl (lv_at hl 2 rfl) ?_
            refine va_get (D := D) (ci := 2) (v := .ref (a 1)) (C := RX2) (T := TX2) (N := 5) hx hb hg inX2 hown hK hP 0 rfl rfl 0 (by decide) (hg _ fl_X2_9) (fun _ h9 => h9) rfl dX2_cut_115 ?_
            refine lv_iload_n hx hb dX2_cut_118 rfl (lv_at hl 1 rfl) ?_
            refine lv_iload_n hx hb dX2_cut_119 rfl (lv_at hl 3 rfl) ?_
            refine va_iast (D := D) (n := 3) (f := pl) (x := x) hx hb hK hP hD hS 1 0 rfl rfl (vp_in_nI (show 0 < 3 by decide) (by decide)) dX2_cut_120 (fun H locs hP hD hS => ?_)
            rw [show (0 : Int32).toNatClampNeg = 0 from by decide] at hP hD
            have hP : va_P D vwCl (xw cI cQ a (upd pl 0 x) pq nq (va_up nm 1 (nm 0)) ab lg 0 kn ++ fr) H := hP
            have hD : va_D A (xw cI cQ a (upd pl 0 x) pq nq (va_up nm 1 (nm 0)) ab lg 0 kn ++ fr) := hD
            refine lv_aload_n hx hb dX2_cut_121 rfl (lv_at hl 2 rfl) ?_
            refine lv_dup hx hb dX2_cut_122 rfl ?_
            refine va_get (D := D) (ci := 2) (v := .int 0) (C := RX2) (T := TX2) (N := 5) hx hb hg inX2 hown hK hP 0 rfl rfl 3 (by decide) (hg _ fl_X2_26) (fun _ h9 => h9) rfl dX2_cut_123 ?_
            refine lv_iconst (v := 1) hx hb dX2_cut_126 (by decide) ?_
            refine lv_iadd hx hb dX2_cut_127 ?_
            rw [show (0 : Int32) + 1 = 1 from by decide]
            refine va_put (D := D) (ci := 2) (v := .int 1) (ty := .int) (C := RX2) (T := TX2) (N := 5) hx hb hg inX2 tyX2 tyX2_ok nmX2 hown hK hP hD hS 0 rfl rfl 3 (by decide) (hg _ fl_X2_26) (fun _ h9 => h9) rfl (by decide +kernel) rfl rfl (Nat.le_of_ble_eq_true rfl) dX2_cut_128 (fun H locs hP hD hS => ?_)
            have hP : va_P D vwCl (xw cI cQ a (upd pl 0 x) pq nq (va_up nm 1 (nm 0)) ab lg 1 kn ++ fr) H := hP
            have hD : va_D A (xw cI cQ a (upd pl 0 x) pq nq (va_up nm 1 (nm 0)) ab lg 1 kn ++ fr) := hD
            refine lv_iload_n hx hb dX2_cut_131 rfl (lv_at hl 1 rfl) ?_
            refine vx_ret ?_
            refine W.widen (k := 1) (n := 6) (Nat.zero_le _) (Nat.zero_le _) ?_
            exact W.iret (v := 0) hx hb hr (fun t ht hW => ⟨⟨0, ((upd pl 0 x), (va_up nm 1 (nm 0))), rfl, ⟨hi6, hcu, by omega, rfl, fun j hj => by rcases (show j = 0 by omega) with rfl <;> simp [upd], fun j hj => by rcases (show j = 0 ∨ j = 1 by omega) with rfl | rfl <;> simp [va_up]⟩, wd_E.at hK hP hD ht hW⟩, hS.F ht⟩) hS.2.2 dX2_cut_132
        · have hP : va_P D vwCl (xw cI cQ a pl pq nq nm ab lg 1 kn ++ fr) s.heap := hP
          have hD : va_D A (xw cI cQ a pl pq nq nm ab lg 1 kn ++ fr) := hD
          refine lv_aload_n hx hb dX2_cut_45 rfl (lv_at hl 0 rfl) ?_
          refine lv_iload_n hx hb dX2_cut_46 rfl (lv_at hl 1 rfl) ?_
          refine vp_callSi (W.runV (As := [.int x]) (rest := []) ⟨hx, hb, hml, hown, hg⟩ (c_X2_pieceAt l D cI cL cQ (a 0) (a 1) [.ref (a 1), .ref (a 2), .ref (a 3), .int (1), .int kn] rfl 1 rfl hc pl x) (cwV 1 hg (gw_V ml_X2_55 im_X2_pieceAt se_X2_pieceAt ini_X2 co_X2_pieceAt) rfl rfl rfl (by decide +kernel) ⟨Nat.le_of_ble_eq_true rfl, Nat.le_of_ble_eq_true rfl⟩) ⟨pu_B.blind, va_recv hK hP (ci := 2) (q0 := 0) rfl rfl, (fun U hU hW => ⟨rfl, pu_B.at hK (va_P2 hP (i := 0) (j := 1) rfl rfl) hU hW⟩)⟩ rfl rfl hl.1 rfl (lv_room (Nat.le_of_ble_eq_true rfl)) dX2_cut_47 ⟨Nat.le_of_ble_eq_true rfl, Nat.le_of_ble_eq_true rfl⟩) (fun r_11 hr_11 => ?_)
          subst hr_11
          have hkl := x_cnt_le pl x 1
          rcases (show x_cnt pl x 1 = 0 ∨ x_cnt pl x 1 = 1 by omega) with hk | hk
          · rw [hk]
            refine W.eq (g2 := F0 m 50 ls [.int 0]) rfl ?_
            refine lv_istore_n (lv' := [(2, .int 0), (0, .ref (a 0)), (1, .int x)]) hx hb dX2_cut_50 rfl hl (by decide) rfl (fun ls hl => ?_)
            refine lv_aload_n hx hb dX2_cut_51 rfl (lv_at hl 1 rfl) ?_
            refine va_get (D := D) (ci := 2) (v := .int 1) (C := RX2) (T := TX2) (N := 5) hx hb hg inX2 hown hK hP 0 rfl rfl 3 (by decide) (hg _ fl_X2_26) (fun _ h9 => h9) rfl dX2_cut_52 ?_
            refine lv_istore_n (lv' := [(3, .int 1), (2, .int 0), (0, .ref (a 0)), (1, .int x)]) hx hb dX2_cut_55 rfl hl (by decide) rfl (fun ls hl => ?_)
            refine lv_iload_n hx hb dX2_cut_56 rfl (lv_at hl 0 rfl) ?_
            refine lv_iload_n hx hb dX2_cut_57 rfl (lv_at hl 1 rfl) ?_
            refine lv_icmp_le (tgt := 81) hx hb dX2_cut_58 (by decide) (fun c_12 => absurd c_12 (by decide)) (fun _ => ?_)
            refine lv_aload_n hx hb dX2_cut_61 rfl (lv_at hl 2 rfl) ?_
            refine va_get (D := D) (ci := 2) (v := .ref (a 1)) (C := RX2) (T := TX2) (N := 5) hx hb hg inX2 hown hK hP 0 rfl rfl 0 (by decide) (hg _ fl_X2_9) (fun _ h9 => h9) rfl dX2_cut_62 ?_
            refine lv_iload_n hx hb dX2_cut_65 rfl (lv_at hl 0 rfl) ?_
            refine lv_aload_n hx hb dX2_cut_66 rfl (lv_at hl 2 rfl) ?_
            refine va_get (D := D) (ci := 2) (v := .ref (a 1)) (C := RX2) (T := TX2) (N := 5) hx hb hg inX2 hown hK hP 0 rfl rfl 0 (by decide) (hg _ fl_X2_9) (fun _ h9 => h9) rfl dX2_cut_67 ?_
            refine lv_iload_n hx hb dX2_cut_70 rfl (lv_at hl 0 rfl) ?_
            refine lv_iconst (v := 1) hx hb dX2_cut_71 (by decide) ?_
            refine lv_isub hx hb dX2_cut_72 ?_
            rw [show (1 : Int32) - 1 = 0 from by decide]
            refine va_iald (D := D) (n := 3) (f := pl) hx hb hK hP 1 0 rfl rfl (vp_in_nI (show 0 < 3 by decide) (by decide)) dX2_cut_73 ?_
            rw [show (0 : Int32).toNatClampNeg = 0 from by decide]
            refine lv_topi (fun v_13 ev_13 => ?_)
            refine va_iast (D := D) (n := 3) (f := pl) (x := v_13) hx hb hK hP hD hS 1 0 rfl rfl (vp_in_nI (show 1 < 3 by decide) (by decide)) dX2_cut_74 (fun H locs hP hD hS => ?_)
            rw [show (1 : Int32).toNatClampNeg = 1 from by decide] at hP hD
            have hP : va_P D vwCl (xw cI cQ a (upd pl 1 v_13) pq nq nm ab lg 1 kn ++ fr) H := hP
            have hD : va_D A (xw cI cQ a (upd pl 1 v_13) pq nq nm ab lg 1 kn ++ fr) := hD
            refine lv_iinc (v := 0) (lv' := [(3, .int 0), (2, .int 0), (0, .ref (a 0)), (1, .int x)]) hx hb dX2_cut_75 hl (k := 0) rfl (by decide) (by decide) rfl (fun ls hl => ?_)
            refine lv_goto (tgt := 56) hx hb dX2_cut_78 (by decide) ?_
            refine lv_iload_n hx hb dX2_cut_56 rfl (lv_at hl 0 rfl) ?_
            refine lv_iload_n hx hb dX2_cut_57 rfl (lv_at hl 1 rfl) ?_
            refine lv_icmp_le (tgt := 81) hx hb dX2_cut_58 (by decide) (fun _ => ?_) (fun c_14 => absurd c_14 (by decide))
            refine lv_aload_n hx hb dX2_cut_81 rfl (lv_at hl 2 rfl) ?_
            refine va_get (D := D) (ci := 2) (v := .int 1) (C := RX2) (T := TX2) (N := 5) hx hb hg inX2 hown hK hP 0 rfl rfl 3 (by decide) (hg _ fl_X2_26) (fun _ h9 => h9) rfl dX2_cut_82 ?_
            refine lv_istore_n (lv' := [(3, .int 1), (2, .int 0), (0, .ref (a 0)), (1, .int x)]) hx hb dX2_cut_85 rfl hl (by decide) rfl (fun ls hl => ?_)
            refine lv_iload_n hx hb dX2_cut_86 rfl (lv_at hl 0 rfl) ?_
            refine lv_iload_n hx hb dX2_cut_87 rfl (lv_at hl 1 rfl) ?_
            refine lv_icmp_lt (tgt := 114) hx hb dX2_cut_88 (by decide) (fun c_15 => absurd c_15 (by decide)) (fun _ => ?_)
            refine lv_aload_n hx hb dX2_cut_91 rfl (lv_at hl 2 rfl) ?_
            refine va_get (D := D) (ci := 2) (v := .ref (a 2)) (C := RX2) (T := TX2) (N := 5) hx hb hg inX2 hown hK hP 0 rfl rfl 1 (by decide) (hg _ fl_X2_15) (fun _ h9 => h9) rfl dX2_cut_92 ?_
            refine lv_iload_n hx hb dX2_cut_95 rfl (lv_at hl 0 rfl) ?_
            refine lv_iconst (v := 1) hx hb dX2_cut_96 (by decide) ?_
            refine lv_iadd hx hb dX2_cut_97 ?_
            rw [show (1 : Int32) + 1 = 2 from by decide]
            refine va_aldq (D := D) (n := 4) (f := (fun j => some (pq j))) hx hb hK hP 2 2 rfl rfl (vp_in_nI (show 2 < 4 by decide) (by decide)) dX2_cut_98 ?_
            refine W.eq (g2 := F0 m 99 ls [.ref (pq 2)]) rfl ?_
            refine lv_aload_n hx hb dX2_cut_99 rfl (lv_at hl 2 rfl) ?_
            refine va_get (D := D) (ci := 2) (v := .ref (a 2)) (C := RX2) (T := TX2) (N := 5) hx hb hg inX2 hown hK hP 0 rfl rfl 1 (by decide) (hg _ fl_X2_15) (fun _ h9 => h9) rfl dX2_cut_100 ?_
            refine lv_iload_n hx hb dX2_cut_103 rfl (lv_at hl 0 rfl) ?_
            refine va_aldq (D := D) (n := 4) (f := (fun j => some (pq j))) hx hb hK hP 2 2 rfl rfl (vp_in_nI (show 1 < 4 by decide) (by decide)) dX2_cut_104 ?_
            refine W.eq (g2 := F0 m 105 ls [.ref (pq 1), .ref (pq 2)]) rfl ?_
            refine va_callv (va_runVN (As := [.ref (pq 1)]) (rest := []) ⟨hx, hb, hml, hown, hg⟩ (c_X0_become l A D cI cL cQ (xw cI cQ a (upd pl 1 v_13) pq nq nm ab lg 1 kn ++ fr) 9 10 (pq 2) (nq 2) (nm 2) rfl rfl 7 8 (pq 1) (nq 1) (nm 1) rfl rfl) ⟨va_cnB 1 hg (gw_C co_X0_become) rfl rfl rfl (hG.1 _ mn_X2_59) (hg _ ini_X0) (by decide +kernel) ⟨Nat.le_of_ble_eq_true rfl, Nat.le_of_ble_eq_true rfl⟩, hg _ im_X0_become, hg _ se_X0_become⟩ ⟨wd_B.blind, va_recv hK hP (ci := 0) (q0 := 9) rfl rfl, (fun U hU hW => ⟨rfl, wd_B.at hG hK hP hD hS hA hU hW⟩)⟩ rfl rfl hl.1 rfl (lv_room (Nat.le_of_ble_eq_true rfl)) dX2_cut_105 ⟨Nat.le_of_ble_eq_true rfl, Nat.le_of_ble_eq_true rfl⟩) hS (fun q _ h => h) (fun q h => h) (fun u t H1 locs ht hvm hr_16 hB hz1 hk1 hS => ?_)
            obtain ⟨hK, hP, hD⟩ := hB.back ht hvm
            generalize H1 = H at hP hS ⊢
            have hP : va_P D vwCl (xw cI cQ a (upd pl 1 v_13) pq nq (va_up nm 2 (nm 1)) ab lg 1 kn ++ fr) H := hP
            have hD : va_D A (xw cI cQ a (upd pl 1 v_13) pq nq (va_up nm 2 (nm 1)) ab lg 1 kn ++ fr) := hD
            refine lv_iinc (v := 0) (lv' := [(3, .int 0), (2, .int 0), (0, .ref (a 0)), (1, .int x)]) hx hb dX2_cut_108 hl (k := 0) rfl (by decide) (by decide) rfl (fun ls hl => ?_)
            refine lv_goto (tgt := 86) hx hb dX2_cut_111 (by decide) ?_
            refine lv_iload_n hx hb dX2_cut_86 rfl (lv_at hl 0 rfl) ?_
            refine lv_iload_n hx hb dX2_cut_87 rfl (lv_at hl 1 rfl) ?_
            refine lv_icmp_lt (tgt := 114) hx hb dX2_cut_88 (by decide) (fun c_17 => absurd c_17 (by decide)) (fun _ => ?_)
            refine lv_aload_n hx hb dX2_cut_91 rfl (lv_at hl 2 rfl) ?_
            refine va_get (D := D) (ci := 2) (v := .ref (a 2)) (C := RX2) (T := TX2) (N := 5) hx hb hg inX2 hown hK hP 0 rfl rfl 1 (by decide) (hg _ fl_X2_15) (fun _ h9 => h9) rfl dX2_cut_92 ?_
            refine lv_iload_n hx hb dX2_cut_95 rfl (lv_at hl 0 rfl) ?_
            refine lv_iconst (v := 1) hx hb dX2_cut_96 (by decide) ?_
            refine lv_iadd hx hb dX2_cut_97 ?_
            rw [show (0 : Int32) + 1 = 1 from by decide]
            refine va_aldq (D := D) (n := 4) (f := (fun j => some (pq j))) hx hb hK hP 2 2 rfl rfl (vp_in_nI (show 1 < 4 by decide) (by decide)) dX2_cut_98 ?_
            refine W.eq (g2 := F0 m 99 ls [.ref (pq 1)]) rfl ?_
            refine lv_aload_n hx hb dX2_cut_99 rfl (lv_at hl 2 rfl) ?_
            refine va_get (D := D) (ci := 2) (v := .ref (a 2)) (C := RX2) (T := TX2) (N := 5) hx hb hg inX2 hown hK hP 0 rfl rfl 1 (by decide) (hg _ fl_X2_15) (fun _ h9 => h9) rfl dX2_cut_100 ?_
            refine lv_iload_n hx hb dX2_cut_103 rfl (lv_at hl 0 rfl) ?_
            refine va_aldq (D := D) (n := 4) (f := (fun j => some (pq j))) hx hb hK hP 2 2 rfl rfl (vp_in_nI (show 0 < 4 by decide) (by decide)) dX2_cut_104 ?_
            refine W.eq (g2 := F0 m 105 ls [.ref (pq 0), .ref (pq 1)]) rfl ?_
            refine va_callv (va_runVN (As := [.ref (pq 0)]) (rest := []) ⟨hx, hb, hml, hown, hg⟩ (c_X0_become l A D cI cL cQ (xw cI cQ a (upd pl 1 v_13) pq nq (va_up nm 2 (nm 1)) ab lg 1 kn ++ fr) 7 8 (pq 1) (nq 1) ((va_up nm 2 (nm 1)) 1) rfl rfl 5 6 (pq 0) (nq 0) ((va_up nm 2 (nm 1)) 0) rfl rfl) ⟨va_cnB 1 hg (gw_C co_X0_become) rfl rfl rfl (hG.1 _ mn_X2_59) (hg _ ini_X0) (by decide +kernel) ⟨Nat.le_of_ble_eq_true rfl, Nat.le_of_ble_eq_true rfl⟩, hg _ im_X0_become, hg _ se_X0_become⟩ ⟨wd_B.blind, va_recv hK hP (ci := 0) (q0 := 7) rfl rfl, (fun U hU hW => ⟨rfl, wd_B.at hG hK hP hD hS hA hU hW⟩)⟩ rfl rfl hl.1 rfl (lv_room (Nat.le_of_ble_eq_true rfl)) dX2_cut_105 ⟨Nat.le_of_ble_eq_true rfl, Nat.le_of_ble_eq_true rfl⟩) hS (fun q _ h => h) (fun q h => h) (fun u t H1 locs ht hvm hr_18 hB hz1 hk1 hS => ?_)
            obtain ⟨hK, hP, hD⟩ := hB.back ht hvm
            generalize H1 = H at hP hS ⊢
            have hP : va_P D vwCl (xw cI cQ a (upd pl 1 v_13) pq nq (va_up (va_up nm 2 (nm 1)) 1 ((va_up nm 2 (nm 1)) 0)) ab lg 1 kn ++ fr) H := hP
            have hD : va_D A (xw cI cQ a (upd pl 1 v_13) pq nq (va_up (va_up nm 2 (nm 1)) 1 ((va_up nm 2 (nm 1)) 0)) ab lg 1 kn ++ fr) := hD
            refine lv_iinc (v := (-1)) (lv' := [(3, .int (-1)), (2, .int 0), (0, .ref (a 0)), (1, .int x)]) hx hb dX2_cut_108 hl (k := 0) rfl (by decide) (by decide) rfl (fun ls hl => ?_)
            refine lv_goto (tgt := 86) hx hb dX2_cut_111 (by decide) ?_
            refine lv_iload_n hx hb dX2_cut_86 rfl (lv_at hl 0 rfl) ?_
            refine lv_iload_n hx hb dX2_cut_87 rfl (lv_at hl 1 rfl) ?_
            refine lv_icmp_lt (tgt := 114) hx hb dX2_cut_88 (by decide) (fun _ => ?_) (fun c_19 => absurd c_19 (by decide))
            refine lv_aload_n hx hb dX2_cut_114 rfl (lv_at hl 2 rfl) ?_
            refine va_get (D := D) (ci := 2) (v := .ref (a 1)) (C := RX2) (T := TX2) (N := 5) hx hb hg inX2 hown hK hP 0 rfl rfl 0 (by decide) (hg _ fl_X2_9) (fun _ h9 => h9) rfl dX2_cut_115 ?_
            refine lv_iload_n hx hb dX2_cut_118 rfl (lv_at hl 1 rfl) ?_
            refine lv_iload_n hx hb dX2_cut_119 rfl (lv_at hl 3 rfl) ?_
            refine va_iast (D := D) (n := 3) (f := (upd pl 1 v_13)) (x := x) hx hb hK hP hD hS 1 0 rfl rfl (vp_in_nI (show 0 < 3 by decide) (by decide)) dX2_cut_120 (fun H locs hP hD hS => ?_)
            rw [show (0 : Int32).toNatClampNeg = 0 from by decide] at hP hD
            have hP : va_P D vwCl (xw cI cQ a (upd (upd pl 1 v_13) 0 x) pq nq (va_up (va_up nm 2 (nm 1)) 1 ((va_up nm 2 (nm 1)) 0)) ab lg 1 kn ++ fr) H := hP
            have hD : va_D A (xw cI cQ a (upd (upd pl 1 v_13) 0 x) pq nq (va_up (va_up nm 2 (nm 1)) 1 ((va_up nm 2 (nm 1)) 0)) ab lg 1 kn ++ fr) := hD
            refine lv_aload_n hx hb dX2_cut_121 rfl (lv_at hl 2 rfl) ?_
            refine lv_dup hx hb dX2_cut_122 rfl ?_
            refine va_get (D := D) (ci := 2) (v := .int 1) (C := RX2) (T := TX2) (N := 5) hx hb hg inX2 hown hK hP 0 rfl rfl 3 (by decide) (hg _ fl_X2_26) (fun _ h9 => h9) rfl dX2_cut_123 ?_
            refine lv_iconst (v := 1) hx hb dX2_cut_126 (by decide) ?_
            refine lv_iadd hx hb dX2_cut_127 ?_
            rw [show (1 : Int32) + 1 = 2 from by decide]
            refine va_put (D := D) (ci := 2) (v := .int 2) (ty := .int) (C := RX2) (T := TX2) (N := 5) hx hb hg inX2 tyX2 tyX2_ok nmX2 hown hK hP hD hS 0 rfl rfl 3 (by decide) (hg _ fl_X2_26) (fun _ h9 => h9) rfl (by decide +kernel) rfl rfl (Nat.le_of_ble_eq_true rfl) dX2_cut_128 (fun H locs hP hD hS => ?_)
            have hP : va_P D vwCl (xw cI cQ a (upd (upd pl 1 v_13) 0 x) pq nq (va_up (va_up nm 2 (nm 1)) 1 ((va_up nm 2 (nm 1)) 0)) ab lg 2 kn ++ fr) H := hP
            have hD : va_D A (xw cI cQ a (upd (upd pl 1 v_13) 0 x) pq nq (va_up (va_up nm 2 (nm 1)) 1 ((va_up nm 2 (nm 1)) 0)) ab lg 2 kn ++ fr) := hD
            refine lv_iload_n hx hb dX2_cut_131 rfl (lv_at hl 1 rfl) ?_
            refine vx_ret ?_
            refine W.widen (k := 1) (n := 6) (Nat.zero_le _) (Nat.zero_le _) ?_
            exact W.iret (v := 0) hx hb hr (fun t ht hW => ⟨⟨0, ((upd (upd pl 1 v_13) 0 x), (va_up (va_up nm 2 (nm 1)) 1 ((va_up nm 2 (nm 1)) 0))), rfl, ⟨hi6, hcu, by omega, rfl, fun j hj => by rcases (show j = 0 ∨ j = 1 by omega) with rfl | rfl <;> simp [upd, ev_13], fun j hj => by rcases (show j = 0 ∨ j = 1 ∨ j = 2 by omega) with rfl | rfl | rfl <;> simp [va_up]⟩, wd_E.at hK hP hD ht hW⟩, hS.F ht⟩) hS.2.2 dX2_cut_132
          · rw [hk]
            refine W.eq (g2 := F0 m 50 ls [.int 1]) rfl ?_
            refine lv_istore_n (lv' := [(2, .int 1), (0, .ref (a 0)), (1, .int x)]) hx hb dX2_cut_50 rfl hl (by decide) rfl (fun ls hl => ?_)
            refine lv_aload_n hx hb dX2_cut_51 rfl (lv_at hl 1 rfl) ?_
            refine va_get (D := D) (ci := 2) (v := .int 1) (C := RX2) (T := TX2) (N := 5) hx hb hg inX2 hown hK hP 0 rfl rfl 3 (by decide) (hg _ fl_X2_26) (fun _ h9 => h9) rfl dX2_cut_52 ?_
            refine lv_istore_n (lv' := [(3, .int 1), (2, .int 1), (0, .ref (a 0)), (1, .int x)]) hx hb dX2_cut_55 rfl hl (by decide) rfl (fun ls hl => ?_)
            refine lv_iload_n hx hb dX2_cut_56 rfl (lv_at hl 0 rfl) ?_
            refine lv_iload_n hx hb dX2_cut_57 rfl (lv_at hl 1 rfl) ?_
            refine lv_icmp_le (tgt := 81) hx hb dX2_cut_58 (by decide) (fun _ => ?_) (fun c_20 => absurd c_20 (by decide))
            refine lv_aload_n hx hb dX2_cut_81 rfl (lv_at hl 2 rfl) ?_
            refine va_get (D := D) (ci := 2) (v := .int 1) (C := RX2) (T := TX2) (N := 5) hx hb hg inX2 hown hK hP 0 rfl rfl 3 (by decide) (hg _ fl_X2_26) (fun _ h9 => h9) rfl dX2_cut_82 ?_
            refine lv_istore_n (lv' := [(3, .int 1), (2, .int 1), (0, .ref (a 0)), (1, .int x)]) hx hb dX2_cut_85 rfl hl (by decide) rfl (fun ls hl => ?_)
            refine lv_iload_n hx hb dX2_cut_86 rfl (lv_at hl 0 rfl) ?_
            refine lv_iload_n hx hb dX2_cut_87 rfl (lv_at hl 1 rfl) ?_
            refine lv_icmp_lt (tgt := 114) hx hb dX2_cut_88 (by decide) (fun c_21 => absurd c_21 (by decide)) (fun _ => ?_)
            refine lv_aload_n hx hb dX2_cut_91 rfl (lv_at hl 2 rfl) ?_
            refine va_get (D := D) (ci := 2) (v := .ref (a 2)) (C := RX2) (T := TX2) (N := 5) hx hb hg inX2 hown hK hP 0 rfl rfl 1 (by decide) (hg _ fl_X2_15) (fun _ h9 => h9) rfl dX2_cut_92 ?_
            refine lv_iload_n hx hb dX2_cut_95 rfl (lv_at hl 0 rfl) ?_
            refine lv_iconst (v := 1) hx hb dX2_cut_96 (by decide) ?_
            refine lv_iadd hx hb dX2_cut_97 ?_
            rw [show (1 : Int32) + 1 = 2 from by decide]
            refine va_aldq (D := D) (n := 4) (f := (fun j => some (pq j))) hx hb hK hP 2 2 rfl rfl (vp_in_nI (show 2 < 4 by decide) (by decide)) dX2_cut_98 ?_
            refine W.eq (g2 := F0 m 99 ls [.ref (pq 2)]) rfl ?_
            refine lv_aload_n hx hb dX2_cut_99 rfl (lv_at hl 2 rfl) ?_
            refine va_get (D := D) (ci := 2) (v := .ref (a 2)) (C := RX2) (T := TX2) (N := 5) hx hb hg inX2 hown hK hP 0 rfl rfl 1 (by decide) (hg _ fl_X2_15) (fun _ h9 => h9) rfl dX2_cut_100 ?_
            refine lv_iload_n hx hb dX2_cut_103 rfl (lv_at hl 0 rfl) ?_
            refine va_aldq (D := D) (n := 4) (f := (fun j => some (pq j))) hx hb hK hP 2 2 rfl rfl (vp_in_nI (show 1 < 4 by decide) (by decide)) dX2_cut_104 ?_
            refine W.eq (g2 := F0 m 105 ls [.ref (pq 1), .ref (pq 2)]) rfl ?_
            refine va_callv (va_runVN (As := [.ref (pq 1)]) (rest := []) ⟨hx, hb, hml, hown, hg⟩ (c_X0_become l A D cI cL cQ (xw cI cQ a pl pq nq nm ab lg 1 kn ++ fr) 9 10 (pq 2) (nq 2) (nm 2) rfl rfl 7 8 (pq 1) (nq 1) (nm 1) rfl rfl) ⟨va_cnB 1 hg (gw_C co_X0_become) rfl rfl rfl (hG.1 _ mn_X2_59) (hg _ ini_X0) (by decide +kernel) ⟨Nat.le_of_ble_eq_true rfl, Nat.le_of_ble_eq_true rfl⟩, hg _ im_X0_become, hg _ se_X0_become⟩ ⟨wd_B.blind, va_recv hK hP (ci := 0) (q0 := 9) rfl rfl, (fun U hU hW => ⟨rfl, wd_B.at hG hK hP hD hS hA hU hW⟩)⟩ rfl rfl hl.1 rfl (lv_room (Nat.le_of_ble_eq_true rfl)) dX2_cut_105 ⟨Nat.le_of_ble_eq_true rfl, Nat.le_of_ble_eq_true rfl⟩) hS (fun q _ h => h) (fun q h => h) (fun u t H1 locs ht hvm hr_22 hB hz1 hk1 hS => ?_)
            obtain ⟨hK, hP, hD⟩ := hB.back ht hvm
            generalize H1 = H at hP hS ⊢
            have hP : va_P D vwCl (xw cI cQ a pl pq nq (va_up nm 2 (nm 1)) ab lg 1 kn ++ fr) H := hP
            have hD : va_D A (xw cI cQ a pl pq nq (va_up nm 2 (nm 1)) ab lg 1 kn ++ fr) := hD
            refine lv_iinc (v := 0) (lv' := [(3, .int 0), (2, .int 1), (0, .ref (a 0)), (1, .int x)]) hx hb dX2_cut_108 hl (k := 0) rfl (by decide) (by decide) rfl (fun ls hl => ?_)
            refine lv_goto (tgt := 86) hx hb dX2_cut_111 (by decide) ?_
            refine lv_iload_n hx hb dX2_cut_86 rfl (lv_at hl 0 rfl) ?_
            refine lv_iload_n hx hb dX2_cut_87 rfl (lv_at hl 1 rfl) ?_
            refine lv_icmp_lt (tgt := 114) hx hb dX2_cut_88 (by decide) (fun _ => ?_) (fun c_23 => absurd c_23 (by decide))
            refine lv_aload_n hx hb dX2_cut_114 rfl (lv_at hl 2 rfl) ?_
            refine va_get (D := D) (ci := 2) (v := .ref (a 1)) (C := RX2) (T := TX2) (N := 5) hx hb hg inX2 hown hK hP 0 rfl rfl 0 (by decide) (hg _ fl_X2_9) (fun _ h9 => h9) rfl dX2_cut_115 ?_
            refine lv_iload_n hx hb dX2_cut_118 rfl (lv_at hl 1 rfl) ?_
            refine lv_iload_n hx hb dX2_cut_119 rfl (lv_at hl 3 rfl) ?_
            refine va_iast (D := D) (n := 3) (f := pl) (x := x) hx hb hK hP hD hS 1 0 rfl rfl (vp_in_nI (show 1 < 3 by decide) (by decide)) dX2_cut_120 (fun H locs hP hD hS => ?_)
            rw [show (1 : Int32).toNatClampNeg = 1 from by decide] at hP hD
            have hP : va_P D vwCl (xw cI cQ a (upd pl 1 x) pq nq (va_up nm 2 (nm 1)) ab lg 1 kn ++ fr) H := hP
            have hD : va_D A (xw cI cQ a (upd pl 1 x) pq nq (va_up nm 2 (nm 1)) ab lg 1 kn ++ fr) := hD
            refine lv_aload_n hx hb dX2_cut_121 rfl (lv_at hl 2 rfl) ?_
            refine lv_dup hx hb dX2_cut_122 rfl ?_
            refine va_get (D := D) (ci := 2) (v := .int 1) (C := RX2) (T := TX2) (N := 5) hx hb hg inX2 hown hK hP 0 rfl rfl 3 (by decide) (hg _ fl_X2_26) (fun _ h9 => h9) rfl dX2_cut_123 ?_
            refine lv_iconst (v := 1) hx hb dX2_cut_126 (by decide) ?_
            refine lv_iadd hx hb dX2_cut_127 ?_
            rw [show (1 : Int32) + 1 = 2 from by decide]
            refine va_put (D := D) (ci := 2) (v := .int 2) (ty := .int) (C := RX2) (T := TX2) (N := 5) hx hb hg inX2 tyX2 tyX2_ok nmX2 hown hK hP hD hS 0 rfl rfl 3 (by decide) (hg _ fl_X2_26) (fun _ h9 => h9) rfl (by decide +kernel) rfl rfl (Nat.le_of_ble_eq_true rfl) dX2_cut_128 (fun H locs hP hD hS => ?_)
            have hP : va_P D vwCl (xw cI cQ a (upd pl 1 x) pq nq (va_up nm 2 (nm 1)) ab lg 2 kn ++ fr) H := hP
            have hD : va_D A (xw cI cQ a (upd pl 1 x) pq nq (va_up nm 2 (nm 1)) ab lg 2 kn ++ fr) := hD
            refine lv_iload_n hx hb dX2_cut_131 rfl (lv_at hl 1 rfl) ?_
            refine vx_ret ?_
            refine W.widen (k := 1) (n := 6) (Nat.zero_le _) (Nat.zero_le _) ?_
            exact W.iret (v := 1) hx hb hr (fun t ht hW => ⟨⟨1, ((upd pl 1 x), (va_up nm 2 (nm 1))), rfl, ⟨hi6, hcu, by omega, rfl, fun j hj => by rcases (show j = 0 ∨ j = 1 by omega) with rfl | rfl <;> simp [upd], fun j hj => by rcases (show j = 0 ∨ j = 1 ∨ j = 2 by omega) with rfl | rfl | rfl <;> simp [va_up]⟩, wd_E.at hK hP hD ht hW⟩, hS.F ht⟩) hS.2.2 dX2_cut_132
        · have hP : va_P D vwCl (xw cI cQ a pl pq nq nm ab lg 2 kn ++ fr) s.heap := hP
          have hD : va_D A (xw cI cQ a pl pq nq nm ab lg 2 kn ++ fr) := hD
          refine lv_aload_n hx hb dX2_cut_45 rfl (lv_at hl 0 rfl) ?_
          refine lv_iload_n hx hb dX2_cut_46 rfl (lv_at hl 1 rfl) ?_
          refine vp_callSi (W.runV (As := [.int x]) (rest := []) ⟨hx, hb, hml, hown, hg⟩ (c_X2_pieceAt l D cI cL cQ (a 0) (a 1) [.ref (a 1), .ref (a 2), .ref (a 3), .int (2), .int kn] rfl 2 rfl hc pl x) (cwV 1 hg (gw_V ml_X2_55 im_X2_pieceAt se_X2_pieceAt ini_X2 co_X2_pieceAt) rfl rfl rfl (by decide +kernel) ⟨Nat.le_of_ble_eq_true rfl, Nat.le_of_ble_eq_true rfl⟩) ⟨pu_B.blind, va_recv hK hP (ci := 2) (q0 := 0) rfl rfl, (fun U hU hW => ⟨rfl, pu_B.at hK (va_P2 hP (i := 0) (j := 1) rfl rfl) hU hW⟩)⟩ rfl rfl hl.1 rfl (lv_room (Nat.le_of_ble_eq_true rfl)) dX2_cut_47 ⟨Nat.le_of_ble_eq_true rfl, Nat.le_of_ble_eq_true rfl⟩) (fun r_24 hr_24 => ?_)
          subst hr_24
          have hkl := x_cnt_le pl x 2
          rcases (show x_cnt pl x 2 = 0 ∨ x_cnt pl x 2 = 1 ∨ x_cnt pl x 2 = 2 by omega) with hk | hk | hk
          · rw [hk]
            refine W.eq (g2 := F0 m 50 ls [.int 0]) rfl ?_
            refine lv_istore_n (lv' := [(2, .int 0), (0, .ref (a 0)), (1, .int x)]) hx hb dX2_cut_50 rfl hl (by decide) rfl (fun ls hl => ?_)
            refine lv_aload_n hx hb dX2_cut_51 rfl (lv_at hl 1 rfl) ?_
            refine va_get (D := D) (ci := 2) (v := .int 2) (C := RX2) (T := TX2) (N := 5) hx hb hg inX2 hown hK hP 0 rfl rfl 3 (by decide) (hg _ fl_X2_26) (fun _ h9 => h9) rfl dX2_cut_52 ?_
            refine lv_istore_n (lv' := [(3, .int 2), (2, .int 0), (0, .ref (a 0)), (1, .int x)]) hx hb dX2_cut_55 rfl hl (by decide) rfl (fun ls hl => ?_)
            refine lv_iload_n hx hb dX2_cut_56 rfl (lv_at hl 0 rfl) ?_
            refine lv_iload_n hx hb dX2_cut_57 rfl (lv_at hl 1 rfl) ?_
            refine lv_icmp_le (tgt := 81) hx hb dX2_cut_58 (by decide) (fun c_25 => absurd c_25 (by decide)) (fun _ => ?_)
            refine lv_aload_n hx hb dX2_cut_61 rfl (lv_at hl 2 rfl) ?_
            refine va_get (D := D) (ci := 2) (v := .ref (a 1)) (C := RX2) (T := TX2) (N := 5) hx hb hg inX2 hown hK hP 0 rfl rfl 0 (by decide) (hg _ fl_X2_9) (fun _ h9 => h9) rfl dX2_cut_62 ?_
            refine lv_iload_n hx hb dX2_cut_65 rfl (lv_at hl 0 rfl) ?_
            refine lv_aload_n hx hb dX2_cut_66 rfl (lv_at hl 2 rfl) ?_
            refine va_get (D := D) (ci := 2) (v := .ref (a 1)) (C := RX2) (T := TX2) (N := 5) hx hb hg inX2 hown hK hP 0 rfl rfl 0 (by decide) (hg _ fl_X2_9) (fun _ h9 => h9) rfl dX2_cut_67 ?_
            refine lv_iload_n hx hb dX2_cut_70 rfl (lv_at hl 0 rfl) ?_
            refine lv_iconst (v := 1) hx hb dX2_cut_71 (by decide) ?_
            refine lv_isub hx hb dX2_cut_72 ?_
            rw [show (2 : Int32) - 1 = 1 from by decide]
            refine va_iald (D := D) (n := 3) (f := pl) hx hb hK hP 1 0 rfl rfl (vp_in_nI (show 1 < 3 by decide) (by decide)) dX2_cut_73 ?_
            rw [show (1 : Int32).toNatClampNeg = 1 from by decide]
            refine lv_topi (fun v_26 ev_26 => ?_)
            refine va_iast (D := D) (n := 3) (f := pl) (x := v_26) hx hb hK hP hD hS 1 0 rfl rfl (vp_in_nI (show 2 < 3 by decide) (by decide)) dX2_cut_74 (fun H locs hP hD hS => ?_)
            rw [show (2 : Int32).toNatClampNeg = 2 from by decide] at hP hD
            have hP : va_P D vwCl (xw cI cQ a (upd pl 2 v_26) pq nq nm ab lg 2 kn ++ fr) H := hP
            have hD : va_D A (xw cI cQ a (upd pl 2 v_26) pq nq nm ab lg 2 kn ++ fr) := hD
            refine lv_iinc (v := 1) (lv' := [(3, .int 1), (2, .int 0), (0, .ref (a 0)), (1, .int x)]) hx hb dX2_cut_75 hl (k := 0) rfl (by decide) (by decide) rfl (fun ls hl => ?_)
            refine lv_goto (tgt := 56) hx hb dX2_cut_78 (by decide) ?_
            refine lv_iload_n hx hb dX2_cut_56 rfl (lv_at hl 0 rfl) ?_
            refine lv_iload_n hx hb dX2_cut_57 rfl (lv_at hl 1 rfl) ?_
            refine lv_icmp_le (tgt := 81) hx hb dX2_cut_58 (by decide) (fun c_27 => absurd c_27 (by decide)) (fun _ => ?_)
            refine lv_aload_n hx hb dX2_cut_61 rfl (lv_at hl 2 rfl) ?_
            refine va_get (D := D) (ci := 2) (v := .ref (a 1)) (C := RX2) (T := TX2) (N := 5) hx hb hg inX2 hown hK hP 0 rfl rfl 0 (by decide) (hg _ fl_X2_9) (fun _ h9 => h9) rfl dX2_cut_62 ?_
            refine lv_iload_n hx hb dX2_cut_65 rfl (lv_at hl 0 rfl) ?_
            refine lv_aload_n hx hb dX2_cut_66 rfl (lv_at hl 2 rfl) ?_
            refine va_get (D := D) (ci := 2) (v := .ref (a 1)) (C := RX2) (T := TX2) (N := 5) hx hb hg inX2 hown hK hP 0 rfl rfl 0 (by decide) (hg _ fl_X2_9) (fun _ h9 => h9) rfl dX2_cut_67 ?_
            refine lv_iload_n hx hb dX2_cut_70 rfl (lv_at hl 0 rfl) ?_
            refine lv_iconst (v := 1) hx hb dX2_cut_71 (by decide) ?_
            refine lv_isub hx hb dX2_cut_72 ?_
            rw [show (1 : Int32) - 1 = 0 from by decide]
            refine va_iald (D := D) (n := 3) (f := (upd pl 2 v_26)) hx hb hK hP 1 0 rfl rfl (vp_in_nI (show 0 < 3 by decide) (by decide)) dX2_cut_73 ?_
            rw [show (0 : Int32).toNatClampNeg = 0 from by decide]
            refine lv_topi (fun v_28 ev_28 => ?_)
            refine va_iast (D := D) (n := 3) (f := (upd pl 2 v_26)) (x := v_28) hx hb hK hP hD hS 1 0 rfl rfl (vp_in_nI (show 1 < 3 by decide) (by decide)) dX2_cut_74 (fun H locs hP hD hS => ?_)
            rw [show (1 : Int32).toNatClampNeg = 1 from by decide] at hP hD
            have hP : va_P D vwCl (xw cI cQ a (upd (upd pl 2 v_26) 1 v_28) pq nq nm ab lg 2 kn ++ fr) H := hP
            have hD : va_D A (xw cI cQ a (upd (upd pl 2 v_26) 1 v_28) pq nq nm ab lg 2 kn ++ fr) := hD
            refine lv_iinc (v := 0) (lv' := [(3, .int 0), (2, .int 0), (0, .ref (a 0)), (1, .int x)]) hx hb dX2_cut_75 hl (k := 0) rfl (by decide) (by decide) rfl (fun ls hl => ?_)
            refine lv_goto (tgt := 56) hx hb dX2_cut_78 (by decide) ?_
            refine lv_iload_n hx hb dX2_cut_56 rfl (lv_at hl 0 rfl) ?_
            refine lv_iload_n hx hb dX2_cut_57 rfl (lv_at hl 1 rfl) ?_
            refine lv_icmp_le (tgt := 81) hx hb dX2_cut_58 (by decide) (fun _ => ?_) (fun c_29 => absurd c_29 (by decide))
            refine lv_aload_n hx hb dX2_cut_81 rfl (lv_at hl 2 rfl) ?_
            refine va_get (D := D) (ci := 2) (v := .int 2) (C := RX2) (T := TX2) (N := 5) hx hb hg inX2 hown hK hP 0 rfl rfl 3 (by decide) (hg _ fl_X2_26) (fun _ h9 => h9) rfl dX2_cut_82 ?_
            refine lv_istore_n (lv' := [(3, .int 2), (2, .int 0), (0, .ref (a 0)), (1, .int x)]) hx hb dX2_cut_85 rfl hl (by decide) rfl (fun ls hl => ?_)
            refine lv_iload_n hx hb dX2_cut_86 rfl (lv_at hl 0 rfl) ?_
            refine lv_iload_n hx hb dX2_cut_87 rfl (lv_at hl 1 rfl) ?_
            refine lv_icmp_lt (tgt := 114) hx hb dX2_cut_88 (by decide) (fun c_30 => absurd c_30 (by decide)) (fun _ => ?_)
            refine lv_aload_n hx hb dX2_cut_91 rfl (lv_at hl 2 rfl) ?_
            refine va_get (D := D) (ci := 2) (v := .ref (a 2)) (C := RX2) (T := TX2) (N := 5) hx hb hg inX2 hown hK hP 0 rfl rfl 1 (by decide) (hg _ fl_X2_15) (fun _ h9 => h9) rfl dX2_cut_92 ?_
            refine lv_iload_n hx hb dX2_cut_95 rfl (lv_at hl 0 rfl) ?_
            refine lv_iconst (v := 1) hx hb dX2_cut_96 (by decide) ?_
            refine lv_iadd hx hb dX2_cut_97 ?_
            rw [show (2 : Int32) + 1 = 3 from by decide]
            refine va_aldq (D := D) (n := 4) (f := (fun j => some (pq j))) hx hb hK hP 2 2 rfl rfl (vp_in_nI (show 3 < 4 by decide) (by decide)) dX2_cut_98 ?_
            refine W.eq (g2 := F0 m 99 ls [.ref (pq 3)]) rfl ?_
            refine lv_aload_n hx hb dX2_cut_99 rfl (lv_at hl 2 rfl) ?_
            refine va_get (D := D) (ci := 2) (v := .ref (a 2)) (C := RX2) (T := TX2) (N := 5) hx hb hg inX2 hown hK hP 0 rfl rfl 1 (by decide) (hg _ fl_X2_15) (fun _ h9 => h9) rfl dX2_cut_100 ?_
            refine lv_iload_n hx hb dX2_cut_103 rfl (lv_at hl 0 rfl) ?_
            refine va_aldq (D := D) (n := 4) (f := (fun j => some (pq j))) hx hb hK hP 2 2 rfl rfl (vp_in_nI (show 2 < 4 by decide) (by decide)) dX2_cut_104 ?_
            refine W.eq (g2 := F0 m 105 ls [.ref (pq 2), .ref (pq 3)]) rfl ?_
            refine va_callv (va_runVN (As := [.ref (pq 2)]) (rest := []) ⟨hx, hb, hml, hown, hg⟩ (c_X0_become l A D cI cL cQ (xw cI cQ a (upd (upd pl 2 v_26) 1 v_28) pq nq nm ab lg 2 kn ++ fr) 11 12 (pq 3) (nq 3) (nm 3) rfl rfl 9 10 (pq 2) (nq 2) (nm 2) rfl rfl) ⟨va_cnB 1 hg (gw_C co_X0_become) rfl rfl rfl (hG.1 _ mn_X2_59) (hg _ ini_X0) (by decide +kernel) ⟨Nat.le_of_ble_eq_true rfl, Nat.le_of_ble_eq_true rfl⟩, hg _ im_X0_become, hg _ se_X0_become⟩ ⟨wd_B.blind, va_recv hK hP (ci := 0) (q0 := 11) rfl rfl, (fun U hU hW => ⟨rfl, wd_B.at hG hK hP hD hS hA hU hW⟩)⟩ rfl rfl hl.1 rfl (lv_room (Nat.le_of_ble_eq_true rfl)) dX2_cut_105 ⟨Nat.le_of_ble_eq_true rfl, Nat.le_of_ble_eq_true rfl⟩) hS (fun q _ h => h) (fun q h => h) (fun u t H1 locs ht hvm hr_31 hB hz1 hk1 hS => ?_)
            obtain ⟨hK, hP, hD⟩ := hB.back ht hvm
            generalize H1 = H at hP hS ⊢
            have hP : va_P D vwCl (xw cI cQ a (upd (upd pl 2 v_26) 1 v_28) pq nq (va_up nm 3 (nm 2)) ab lg 2 kn ++ fr) H := hP
            have hD : va_D A (xw cI cQ a (upd (upd pl 2 v_26) 1 v_28) pq nq (va_up nm 3 (nm 2)) ab lg 2 kn ++ fr) := hD
            refine lv_iinc (v := 1) (lv' := [(3, .int 1), (2, .int 0), (0, .ref (a 0)), (1, .int x)]) hx hb dX2_cut_108 hl (k := 0) rfl (by decide) (by decide) rfl (fun ls hl => ?_)
            refine lv_goto (tgt := 86) hx hb dX2_cut_111 (by decide) ?_
            refine lv_iload_n hx hb dX2_cut_86 rfl (lv_at hl 0 rfl) ?_
            refine lv_iload_n hx hb dX2_cut_87 rfl (lv_at hl 1 rfl) ?_
            refine lv_icmp_lt (tgt := 114) hx hb dX2_cut_88 (by decide) (fun c_32 => absurd c_32 (by decide)) (fun _ => ?_)
            refine lv_aload_n hx hb dX2_cut_91 rfl (lv_at hl 2 rfl) ?_
            refine va_get (D := D) (ci := 2) (v := .ref (a 2)) (C := RX2) (T := TX2) (N := 5) hx hb hg inX2 hown hK hP 0 rfl rfl 1 (by decide) (hg _ fl_X2_15) (fun _ h9 => h9) rfl dX2_cut_92 ?_
            refine lv_iload_n hx hb dX2_cut_95 rfl (lv_at hl 0 rfl) ?_
            refine lv_iconst (v := 1) hx hb dX2_cut_96 (by decide) ?_
            refine lv_iadd hx hb dX2_cut_97 ?_
            rw [show (1 : Int32) + 1 = 2 from by decide]
            refine va_aldq (D := D) (n := 4) (f := (fun j => some (pq j))) hx hb hK hP 2 2 rfl rfl (vp_in_nI (show 2 < 4 by decide) (by decide)) dX2_cut_98 ?_
            refine W.eq (g2 := F0 m 99 ls [.ref (pq 2)]) rfl ?_
            refine lv_aload_n hx hb dX2_cut_99 rfl (lv_at hl 2 rfl) ?_
            refine va_get (D := D) (ci := 2) (v := .ref (a 2)) (C := RX2) (T := TX2) (N := 5) hx hb hg inX2 hown hK hP 0 rfl rfl 1 (by decide) (hg _ fl_X2_15) (fun _ h9 => h9) rfl dX2_cut_100 ?_
            refine lv_iload_n hx hb dX2_cut_103 rfl (lv_at hl 0 rfl) ?_
            refine va_aldq (D := D) (n := 4) (f := (fun j => some (pq j))) hx hb hK hP 2 2 rfl rfl (vp_in_nI (show 1 < 4 by decide) (by decide)) dX2_cut_104 ?_
            refine W.eq (g2 := F0 m 105 ls [.ref (pq 1), .ref (pq 2)]) rfl ?_
            refine va_callv (va_runVN (As := [.ref (pq 1)]) (rest := []) ⟨hx, hb, hml, hown, hg⟩ (c_X0_become l A D cI cL cQ (xw cI cQ a (upd (upd pl 2 v_26) 1 v_28) pq nq (va_up nm 3 (nm 2)) ab lg 2 kn ++ fr) 9 10 (pq 2) (nq 2) ((va_up nm 3 (nm 2)) 2) rfl rfl 7 8 (pq 1) (nq 1) ((va_up nm 3 (nm 2)) 1) rfl rfl) ⟨va_cnB 1 hg (gw_C co_X0_become) rfl rfl rfl (hG.1 _ mn_X2_59) (hg _ ini_X0) (by decide +kernel) ⟨Nat.le_of_ble_eq_true rfl, Nat.le_of_ble_eq_true rfl⟩, hg _ im_X0_become, hg _ se_X0_become⟩ ⟨wd_B.blind, va_recv hK hP (ci := 0) (q0 := 9) rfl rfl, (fun U hU hW => ⟨rfl, wd_B.at hG hK hP hD hS hA hU hW⟩)⟩ rfl rfl hl.1 rfl (lv_room (Nat.le_of_ble_eq_true rfl)) dX2_cut_105 ⟨Nat.le_of_ble_eq_true rfl, Nat.le_of_ble_eq_true rfl⟩) hS (fun q _ h => h) (fun q h => h) (fun u t H1 locs ht hvm hr_33 hB hz1 hk1 hS => ?_)
            obtain ⟨hK, hP, hD⟩ := hB.back ht hvm
            generalize H1 = H at hP hS ⊢
            have hP : va_P D vwCl (xw cI cQ a (upd (upd pl 2 v_26) 1 v_28) pq nq (va_up (va_up nm 3 (nm 2)) 2 ((va_up nm 3 (nm 2)) 1)) ab lg 2 kn ++ fr) H := hP
            have hD : va_D A (xw cI cQ a (upd (upd pl 2 v_26) 1 v_28) pq nq (va_up (va_up nm 3 (nm 2)) 2 ((va_up nm 3 (nm 2)) 1)) ab lg 2 kn ++ fr) := hD
            refine lv_iinc (v := 0) (lv' := [(3, .int 0), (2, .int 0), (0, .ref (a 0)), (1, .int x)]) hx hb dX2_cut_108 hl (k := 0) rfl (by decide) (by decide) rfl (fun ls hl => ?_)
            refine lv_goto (tgt := 86) hx hb dX2_cut_111 (by decide) ?_
            refine lv_iload_n hx hb dX2_cut_86 rfl (lv_at hl 0 rfl) ?_
            refine lv_iload_n hx hb dX2_cut_87 rfl (lv_at hl 1 rfl) ?_
            refine lv_icmp_lt (tgt := 114) hx hb dX2_cut_88 (by decide) (fun c_34 => absurd c_34 (by decide)) (fun _ => ?_)
            refine lv_aload_n hx hb dX2_cut_91 rfl (lv_at hl 2 rfl) ?_
            refine va_get (D := D) (ci := 2) (v := .ref (a 2)) (C := RX2) (T := TX2) (N := 5) hx hb hg inX2 hown hK hP 0 rfl rfl 1 (by decide) (hg _ fl_X2_15) (fun _ h9 => h9) rfl dX2_cut_92 ?_
            refine lv_iload_n hx hb dX2_cut_95 rfl (lv_at hl 0 rfl) ?_
            refine lv_iconst (v := 1) hx hb dX2_cut_96 (by decide) ?_
            refine lv_iadd hx hb dX2_cut_97 ?_
            rw [show (0 : Int32) + 1 = 1 from by decide]
            refine va_aldq (D := D) (n := 4) (f := (fun j => some (pq j))) hx hb hK hP 2 2 rfl rfl (vp_in_nI (show 1 < 4 by decide) (by decide)) dX2_cut_98 ?_
            refine W.eq (g2 := F0 m 99 ls [.ref (pq 1)]) rfl ?_
            refine lv_aload_n hx hb dX2_cut_99 rfl (lv_at hl 2 rfl) ?_
            refine va_get (D := D) (ci := 2) (v := .ref (a 2)) (C := RX2) (T := TX2) (N := 5) hx hb hg inX2 hown hK hP 0 rfl rfl 1 (by decide) (hg _ fl_X2_15) (fun _ h9 => h9) rfl dX2_cut_100 ?_
            refine lv_iload_n hx hb dX2_cut_103 rfl (lv_at hl 0 rfl) ?_
            refine va_aldq (D := D) (n := 4) (f := (fun j => some (pq j))) hx hb hK hP 2 2 rfl rfl (vp_in_nI (show 0 < 4 by decide) (by decide)) dX2_cut_104 ?_
            refine W.eq (g2 := F0 m 105 ls [.ref (pq 0), .ref (pq 1)]) rfl ?_
            refine va_callv (va_runVN (As := [.ref (pq 0)]) (rest := []) ⟨hx, hb, hml, hown, hg⟩ (c_X0_become l A D cI cL cQ (xw cI cQ a (upd (upd pl 2 v_26) 1 v_28) pq nq (va_up (va_up nm 3 (nm 2)) 2 ((va_up nm 3 (nm 2)) 1)) ab lg 2 kn ++ fr) 7 8 (pq 1) (nq 1) ((va_up (va_up nm 3 (nm 2)) 2 ((va_up nm 3 (nm 2)) 1)) 1) rfl rfl 5 6 (pq 0) (nq 0) ((va_up (va_up nm 3 (nm 2)) 2 ((va_up nm 3 (nm 2)) 1)) 0) rfl rfl) ⟨va_cnB 1 hg (gw_C co_X0_become) rfl rfl rfl (hG.1 _ mn_X2_59) (hg _ ini_X0) (by decide +kernel) ⟨Nat.le_of_ble_eq_true rfl, Nat.le_of_ble_eq_true rfl⟩, hg _ im_X0_become, hg _ se_X0_become⟩ ⟨wd_B.blind, va_recv hK hP (ci := 0) (q0 := 7) rfl rfl, (fun U hU hW => ⟨rfl, wd_B.at hG hK hP hD hS hA hU hW⟩)⟩ rfl rfl hl.1 rfl (lv_room (Nat.le_of_ble_eq_true rfl)) dX2_cut_105 ⟨Nat.le_of_ble_eq_true rfl, Nat.le_of_ble_eq_true rfl⟩) hS (fun q _ h => h) (fun q h => h) (fun u t H1 locs ht hvm hr_35 hB hz1 hk1 hS => ?_)
            obtain ⟨hK, hP, hD⟩ := hB.back ht hvm
            generalize H1 = H at hP hS ⊢
            have hP : va_P D vwCl (xw cI cQ a (upd (upd pl 2 v_26) 1 v_28) pq nq (va_up (va_up (va_up nm 3 (nm 2)) 2 ((va_up nm 3 (nm 2)) 1)) 1 ((va_up (va_up nm 3 (nm 2)) 2 ((va_up nm 3 (nm 2)) 1)) 0)) ab lg 2 kn ++ fr) H := hP
            have hD : va_D A (xw cI cQ a (upd (upd pl 2 v_26) 1 v_28) pq nq (va_up (va_up (va_up nm 3 (nm 2)) 2 ((va_up nm 3 (nm 2)) 1)) 1 ((va_up (va_up nm 3 (nm 2)) 2 ((va_up nm 3 (nm 2)) 1)) 0)) ab lg 2 kn ++ fr) := hD
            refine lv_iinc (v := (-1)) (lv' := [(3, .int (-1)), (2, .int 0), (0, .ref (a 0)), (1, .int x)]) hx hb dX2_cut_108 hl (k := 0) rfl (by decide) (by decide) rfl (fun ls hl => ?_)
            refine lv_goto (tgt := 86) hx hb dX2_cut_111 (by decide) ?_
            refine lv_iload_n hx hb dX2_cut_86 rfl (lv_at hl 0 rfl) ?_
            refine lv_iload_n hx hb dX2_cut_87 rfl (lv_at hl 1 rfl) ?_
            refine lv_icmp_lt (tgt := 114) hx hb dX2_cut_88 (by decide) (fun _ => ?_) (fun c_36 => absurd c_36 (by decide))
            refine lv_aload_n hx hb dX2_cut_114 rfl (lv_at hl 2 rfl) ?_
            refine va_get (D := D) (ci := 2) (v := .ref (a 1)) (C := RX2) (T := TX2) (N := 5) hx hb hg inX2 hown hK hP 0 rfl rfl 0 (by decide) (hg _ fl_X2_9) (fun _ h9 => h9) rfl dX2_cut_115 ?_
            refine lv_iload_n hx hb dX2_cut_118 rfl (lv_at hl 1 rfl) ?_
            refine lv_iload_n hx hb dX2_cut_119 rfl (lv_at hl 3 rfl) ?_
            refine va_iast (D := D) (n := 3) (f := (upd (upd pl 2 v_26) 1 v_28)) (x := x) hx hb hK hP hD hS 1 0 rfl rfl (vp_in_nI (show 0 < 3 by decide) (by decide)) dX2_cut_120 (fun H locs hP hD hS => ?_)
            rw [show (0 : Int32).toNatClampNeg = 0 from by decide] at hP hD
            have hP : va_P D vwCl (xw cI cQ a (upd (upd (upd pl 2 v_26) 1 v_28) 0 x) pq nq (va_up (va_up (va_up nm 3 (nm 2)) 2 ((va_up nm 3 (nm 2)) 1)) 1 ((va_up (va_up nm 3 (nm 2)) 2 ((va_up nm 3 (nm 2)) 1)) 0)) ab lg 2 kn ++ fr) H := hP
            have hD : va_D A (xw cI cQ a (upd (upd (upd pl 2 v_26) 1 v_28) 0 x) pq nq (va_up (va_up (va_up nm 3 (nm 2)) 2 ((va_up nm 3 (nm 2)) 1)) 1 ((va_up (va_up nm 3 (nm 2)) 2 ((va_up nm 3 (nm 2)) 1)) 0)) ab lg 2 kn ++ fr) := hD
            refine lv_aload_n hx hb dX2_cut_121 rfl (lv_at hl 2 rfl) ?_
            refine lv_dup hx hb dX2_cut_122 rfl ?_
            refine va_get (D := D) (ci := 2) (v := .int 2) (C := RX2) (T := TX2) (N := 5) hx hb hg inX2 hown hK hP 0 rfl rfl 3 (by decide) (hg _ fl_X2_26) (fun _ h9 => h9) rfl dX2_cut_123 ?_
            refine lv_iconst (v := 1) hx hb dX2_cut_126 (by decide) ?_
            refine lv_iadd hx hb dX2_cut_127 ?_
            rw [show (2 : Int32) + 1 = 3 from by decide]
            refine va_put (D := D) (ci := 2) (v := .int 3) (ty := .int) (C := RX2) (T := TX2) (N := 5) hx hb hg inX2 tyX2 tyX2_ok nmX2 hown hK hP hD hS 0 rfl rfl 3 (by decide) (hg _ fl_X2_26) (fun _ h9 => h9) rfl (by decide +kernel) rfl rfl (Nat.le_of_ble_eq_true rfl) dX2_cut_128 (fun H locs hP hD hS => ?_)
            have hP : va_P D vwCl (xw cI cQ a (upd (upd (upd pl 2 v_26) 1 v_28) 0 x) pq nq (va_up (va_up (va_up nm 3 (nm 2)) 2 ((va_up nm 3 (nm 2)) 1)) 1 ((va_up (va_up nm 3 (nm 2)) 2 ((va_up nm 3 (nm 2)) 1)) 0)) ab lg 3 kn ++ fr) H := hP
            have hD : va_D A (xw cI cQ a (upd (upd (upd pl 2 v_26) 1 v_28) 0 x) pq nq (va_up (va_up (va_up nm 3 (nm 2)) 2 ((va_up nm 3 (nm 2)) 1)) 1 ((va_up (va_up nm 3 (nm 2)) 2 ((va_up nm 3 (nm 2)) 1)) 0)) ab lg 3 kn ++ fr) := hD
            refine lv_iload_n hx hb dX2_cut_131 rfl (lv_at hl 1 rfl) ?_
            refine vx_ret ?_
            refine W.widen (k := 1) (n := 6) (Nat.zero_le _) (Nat.zero_le _) ?_
            exact W.iret (v := 0) hx hb hr (fun t ht hW => ⟨⟨0, ((upd (upd (upd pl 2 v_26) 1 v_28) 0 x), (va_up (va_up (va_up nm 3 (nm 2)) 2 ((va_up nm 3 (nm 2)) 1)) 1 ((va_up (va_up nm 3 (nm 2)) 2 ((va_up nm 3 (nm 2)) 1)) 0))), rfl, ⟨hi6, hcu, by omega, rfl, fun j hj => by rcases (show j = 0 ∨ j = 1 ∨ j = 2 by omega) with rfl | rfl | rfl <;> simp [upd, ev_26, ev_28], fun j hj => by rcases (show j = 0 ∨ j = 1 ∨ j = 2 ∨ j = 3 by omega) with rfl | rfl | rfl | rfl <;> simp [va_up]⟩, wd_E.at hK hP hD ht hW⟩, hS.F ht⟩) hS.2.2 dX2_cut_132
          · rw [hk]
            refine W.eq (g2 := F0 m 50 ls [.int 1]) rfl ?_
            refine lv_istore_n (lv' := [(2, .int 1), (0, .ref (a 0)), (1, .int x)]) hx hb dX2_cut_50 rfl hl (by decide) rfl (fun ls hl => ?_)
            refine lv_aload_n hx hb dX2_cut_51 rfl (lv_at hl 1 rfl) ?_
            refine va_get (D := D) (ci := 2) (v := .int 2) (C := RX2) (T := TX2) (N := 5) hx hb hg inX2 hown hK hP 0 rfl rfl 3 (by decide) (hg _ fl_X2_26) (fun _ h9 => h9) rfl dX2_cut_52 ?_
            refine lv_istore_n (lv' := [(3, .int 2), (2, .int 1), (0, .ref (a 0)), (1, .int x)]) hx hb dX2_cut_55 rfl hl (by decide) rfl (fun ls hl => ?_)
            refine lv_iload_n hx hb dX2_cut_56 rfl (lv_at hl 0 rfl) ?_
            refine lv_iload_n hx hb dX2_cut_57 rfl (lv_at hl 1 rfl) ?_
            refine lv_icmp_le (tgt := 81) hx hb dX2_cut_58 (by decide) (fun c_37 => absurd c_37 (by decide)) (fun _ => ?_)
            refine lv_aload_n hx hb dX2_cut_61 rfl (lv_at hl 2 rfl) ?_
            refine va_get (D := D) (ci := 2) (v := .ref (a 1)) (C := RX2) (T := TX2) (N := 5) hx hb hg inX2 hown hK hP 0 rfl rfl 0 (by decide) (hg _ fl_X2_9) (fun _ h9 => h9) rfl dX2_cut_62 ?_
            refine lv_iload_n hx hb dX2_cut_65 rfl (lv_at hl 0 rfl) ?_
            refine lv_aload_n hx hb dX2_cut_66 rfl (lv_at hl 2 rfl) ?_
            refine va_get (D := D) (ci := 2) (v := .ref (a 1)) (C := RX2) (T := TX2) (N := 5) hx hb hg inX2 hown hK hP 0 rfl rfl 0 (by decide) (hg _ fl_X2_9) (fun _ h9 => h9) rfl dX2_cut_67 ?_
            refine lv_iload_n hx hb dX2_cut_70 rfl (lv_at hl 0 rfl) ?_
            refine lv_iconst (v := 1) hx hb dX2_cut_71 (by decide) ?_
            refine lv_isub hx hb dX2_cut_72 ?_
            rw [show (2 : Int32) - 1 = 1 from by decide]
            refine va_iald (D := D) (n := 3) (f := pl) hx hb hK hP 1 0 rfl rfl (vp_in_nI (show 1 < 3 by decide) (by decide)) dX2_cut_73 ?_
            rw [show (1 : Int32).toNatClampNeg = 1 from by decide]
            refine lv_topi (fun v_38 ev_38 => ?_)
            refine va_iast (D := D) (n := 3) (f := pl) (x := v_38) hx hb hK hP hD hS 1 0 rfl rfl (vp_in_nI (show 2 < 3 by decide) (by decide)) dX2_cut_74 (fun H locs hP hD hS => ?_)
            rw [show (2 : Int32).toNatClampNeg = 2 from by decide] at hP hD
            have hP : va_P D vwCl (xw cI cQ a (upd pl 2 v_38) pq nq nm ab lg 2 kn ++ fr) H := hP
            have hD : va_D A (xw cI cQ a (upd pl 2 v_38) pq nq nm ab lg 2 kn ++ fr) := hD
            refine lv_iinc (v := 1) (lv' := [(3, .int 1), (2, .int 1), (0, .ref (a 0)), (1, .int x)]) hx hb dX2_cut_75 hl (k := 0) rfl (by decide) (by decide) rfl (fun ls hl => ?_)
            refine lv_goto (tgt := 56) hx hb dX2_cut_78 (by decide) ?_
            refine lv_iload_n hx hb dX2_cut_56 rfl (lv_at hl 0 rfl) ?_
            refine lv_iload_n hx hb dX2_cut_57 rfl (lv_at hl 1 rfl) ?_
            refine lv_icmp_le (tgt := 81) hx hb dX2_cut_58 (by decide) (fun _ => ?_) (fun c_39 => absurd c_39 (by decide))
            refine lv_aload_n hx hb dX2_cut_81 rfl (lv_at hl 2 rfl) ?_
            refine va_get (D := D) (ci := 2) (v := .int 2) (C := RX2) (T := TX2) (N := 5) hx hb hg inX2 hown hK hP 0 rfl rfl 3 (by decide) (hg _ fl_X2_26) (fun _ h9 => h9) rfl dX2_cut_82 ?_
            refine lv_istore_n (lv' := [(3, .int 2), (2, .int 1), (0, .ref (a 0)), (1, .int x)]) hx hb dX2_cut_85 rfl hl (by decide) rfl (fun ls hl => ?_)
            refine lv_iload_n hx hb dX2_cut_86 rfl (lv_at hl 0 rfl) ?_
            refine lv_iload_n hx hb dX2_cut_87 rfl (lv_at hl 1 rfl) ?_
            refine lv_icmp_lt (tgt := 114) hx hb dX2_cut_88 (by decide) (fun c_40 => absurd c_40 (by decide)) (fun _ => ?_)
            refine lv_aload_n hx hb dX2_cut_91 rfl (lv_at hl 2 rfl) ?_
            refine va_get (D := D) (ci := 2) (v := .ref (a 2)) (C := RX2) (T := TX2) (N := 5) hx hb hg inX2 hown hK hP 0 rfl rfl 1 (by decide) (hg _ fl_X2_15) (fun _ h9 => h9) rfl dX2_cut_92 ?_
            refine lv_iload_n hx hb dX2_cut_95 rfl (lv_at hl 0 rfl) ?_
            refine lv_iconst (v := 1) hx hb dX2_cut_96 (by decide) ?_
            refine lv_iadd hx hb dX2_cut_97 ?_
            rw [show (2 : Int32) + 1 = 3 from by decide]
            refine va_aldq (D := D) (n := 4) (f := (fun j => some (pq j))) hx hb hK hP 2 2 rfl rfl (vp_in_nI (show 3 < 4 by decide) (by decide)) dX2_cut_98 ?_
            refine W.eq (g2 := F0 m 99 ls [.ref (pq 3)]) rfl ?_
            refine lv_aload_n hx hb dX2_cut_99 rfl (lv_at hl 2 rfl) ?_
            refine va_get (D := D) (ci := 2) (v := .ref (a 2)) (C := RX2) (T := TX2) (N := 5) hx hb hg inX2 hown hK hP 0 rfl rfl 1 (by decide) (hg _ fl_X2_15) (fun _ h9 => h9) rfl dX2_cut_100 ?_
            refine lv_iload_n hx hb dX2_cut_103 rfl (lv_at hl 0 rfl) ?_
            refine va_aldq (D := D) (n := 4) (f := (fun j => some (pq j))) hx hb hK hP 2 2 rfl rfl (vp_in_nI (show 2 < 4 by decide) (by decide)) dX2_cut_104 ?_
            refine W.eq (g2 := F0 m 105 ls [.ref (pq 2), .ref (pq 3)]) rfl ?_
            refine va_callv (va_runVN (As := [.ref (pq 2)]) (rest := []) ⟨hx, hb, hml, hown, hg⟩ (c_X0_become l A D cI cL cQ (xw cI cQ a (upd pl 2 v_38) pq nq nm ab lg 2 kn ++ fr) 11 12 (pq 3) (nq 3) (nm 3) rfl rfl 9 10 (pq 2) (nq 2) (nm 2) rfl rfl) ⟨va_cnB 1 hg (gw_C co_X0_become) rfl rfl rfl (hG.1 _ mn_X2_59) (hg _ ini_X0) (by decide +kernel) ⟨Nat.le_of_ble_eq_true rfl, Nat.le_of_ble_eq_true rfl⟩, hg _ im_X0_become, hg _ se_X0_become⟩ ⟨wd_B.blind, va_recv hK hP (ci := 0) (q0 := 11) rfl rfl, (fun U hU hW => ⟨rfl, wd_B.at hG hK hP hD hS hA hU hW⟩)⟩ rfl rfl hl.1 rfl (lv_room (Nat.le_of_ble_eq_true rfl)) dX2_cut_105 ⟨Nat.le_of_ble_eq_true rfl, Nat.le_of_ble_eq_true rfl⟩) hS (fun q _ h => h) (fun q h => h) (fun u t H1 locs ht hvm hr_41 hB hz1 hk1 hS => ?_)
            obtain ⟨hK, hP, hD⟩ := hB.back ht hvm
            generalize H1 = H at hP hS ⊢
            have hP : va_P D vwCl (xw cI cQ a (upd pl 2 v_38) pq nq (va_up nm 3 (nm 2)) ab lg 2 kn ++ fr) H := hP
            have hD : va_D A (xw cI cQ a (upd pl 2 v_38) pq nq (va_up nm 3 (nm 2)) ab lg 2 kn ++ fr) := hD
            refine lv_iinc (v := 1) (lv' := [(3, .int 1), (2, .int 1), (0, .ref (a 0)), (1, .int x)]) hx hb dX2_cut_108 hl (k := 0) rfl (by decide) (by decide) rfl (fun ls hl => ?_)
            refine lv_goto (tgt := 86) hx hb dX2_cut_111 (by decide) ?_
            refine lv_iload_n hx hb dX2_cut_86 rfl (lv_at hl 0 rfl) ?_
            refine lv_iload_n hx hb dX2_cut_87 rfl (lv_at hl 1 rfl) ?_
            refine lv_icmp_lt (tgt := 114) hx hb dX2_cut_88 (by decide) (fun c_42 => absurd c_42 (by decide)) (fun _ => ?_)
            refine lv_aload_n hx hb dX2_cut_91 rfl (lv_at hl 2 rfl) ?_
            refine va_get (D := D) (ci := 2) (v := .ref (a 2)) (C := RX2) (T := TX2) (N := 5) hx hb hg inX2 hown hK hP 0 rfl rfl 1 (by decide) (hg _ fl_X2_15) (fun _ h9 => h9) rfl dX2_cut_92 ?_
            refine lv_iload_n hx hb dX2_cut_95 rfl (lv_at hl 0 rfl) ?_
            refine lv_iconst (v := 1) hx hb dX2_cut_96 (by decide) ?_
            refine lv_iadd hx hb dX2_cut_97 ?_
            rw [show (1 : Int32) + 1 = 2 from by decide]
            refine va_aldq (D := D) (n := 4) (f := (fun j => some (pq j))) hx hb hK hP 2 2 rfl rfl (vp_in_nI (show 2 < 4 by decide) (by decide)) dX2_cut_98 ?_
            refine W.eq (g2 := F0 m 99 ls [.ref (pq 2)]) rfl ?_
            refine lv_aload_n hx hb dX2_cut_99 rfl (lv_at hl 2 rfl) ?_
            refine va_get (D := D) (ci := 2) (v := .ref (a 2)) (C := RX2) (T := TX2) (N := 5) hx hb hg inX2 hown hK hP 0 rfl rfl 1 (by decide) (hg _ fl_X2_15) (fun _ h9 => h9) rfl dX2_cut_100 ?_
            refine lv_iload_n hx hb dX2_cut_103 rfl (lv_at hl 0 rfl) ?_
            refine va_aldq (D := D) (n := 4) (f := (fun j => some (pq j))) hx hb hK hP 2 2 rfl rfl (vp_in_nI (show 1 < 4 by decide) (by decide)) dX2_cut_104 ?_
            refine W.eq (g2 := F0 m 105 ls [.ref (pq 1), .ref (pq 2)]) rfl ?_
            refine va_callv (va_runVN (As := [.ref (pq 1)]) (rest := []) ⟨hx, hb, hml, hown, hg⟩ (c_X0_become l A D cI cL cQ (xw cI cQ a (upd pl 2 v_38) pq nq (va_up nm 3 (nm 2)) ab lg 2 kn ++ fr) 9 10 (pq 2) (nq 2) ((va_up nm 3 (nm 2)) 2) rfl rfl 7 8 (pq 1) (nq 1) ((va_up nm 3 (nm 2)) 1) rfl rfl) ⟨va_cnB 1 hg (gw_C co_X0_become) rfl rfl rfl (hG.1 _ mn_X2_59) (hg _ ini_X0) (by decide +kernel) ⟨Nat.le_of_ble_eq_true rfl, Nat.le_of_ble_eq_true rfl⟩, hg _ im_X0_become, hg _ se_X0_become⟩ ⟨wd_B.blind, va_recv hK hP (ci := 0) (q0 := 9) rfl rfl, (fun U hU hW => ⟨rfl, wd_B.at hG hK hP hD hS hA hU hW⟩)⟩ rfl rfl hl.1 rfl (lv_room (Nat.le_of_ble_eq_true rfl)) dX2_cut_105 ⟨Nat.le_of_ble_eq_true rfl, Nat.le_of_ble_eq_true rfl⟩) hS (fun q _ h => h) (fun q h => h) (fun u t H1 locs ht hvm hr_43 hB hz1 hk1 hS => ?_)
            obtain ⟨hK, hP, hD⟩ := hB.back ht hvm
            generalize H1 = H at hP hS ⊢
            have hP : va_P D vwCl (xw cI cQ a (upd pl 2 v_38) pq nq (va_up (va_up nm 3 (nm 2)) 2 ((va_up nm 3 (nm 2)) 1)) ab lg 2 kn ++ fr) H := hP
            have hD : va_D A (xw cI cQ a (upd pl 2 v_38) pq nq (va_up (va_up nm 3 (nm 2)) 2 ((va_up nm 3 (nm 2)) 1)) ab lg 2 kn ++ fr) := hD
            refine lv_iinc (v := 0) (lv' := [(3, .int 0), (2, .int 1), (0, .ref (a 0)), (1, .int x)]) hx hb dX2_cut_108 hl (k := 0) rfl (by decide) (by decide) rfl (fun ls hl => ?_)
            refine lv_goto (tgt := 86) hx hb dX2_cut_111 (by decide) ?_
            refine lv_iload_n hx hb dX2_cut_86 rfl (lv_at hl 0 rfl) ?_
            refine lv_iload_n hx hb dX2_cut_87 rfl (lv_at hl 1 rfl) ?_
            refine lv_icmp_lt (tgt := 114) hx hb dX2_cut_88 (by decide) (fun _ => ?_) (fun c_44 => absurd c_44 (by decide))
            refine lv_aload_n hx hb dX2_cut_114 rfl (lv_at hl 2 rfl) ?_
            refine va_get (D := D) (ci := 2) (v := .ref (a 1)) (C := RX2) (T := TX2) (N := 5) hx hb hg inX2 hown hK hP 0 rfl rfl 0 (by decide) (hg _ fl_X2_9) (fun _ h9 => h9) rfl dX2_cut_115 ?_
            refine lv_iload_n hx hb dX2_cut_118 rfl (lv_at hl 1 rfl) ?_
            refine lv_iload_n hx hb dX2_cut_119 rfl (lv_at hl 3 rfl) ?_
            refine va_iast (D := D) (n := 3) (f := (upd pl 2 v_38)) (x := x) hx hb hK hP hD hS 1 0 rfl rfl (vp_in_nI (show 1 < 3 by decide) (by decide)) dX2_cut_120 (fun H locs hP hD hS => ?_)
            rw [show (1 : Int32).toNatClampNeg = 1 from by decide] at hP hD
            have hP : va_P D vwCl (xw cI cQ a (upd (upd pl 2 v_38) 1 x) pq nq (va_up (va_up nm 3 (nm 2)) 2 ((va_up nm 3 (nm 2)) 1)) ab lg 2 kn ++ fr) H := hP
            have hD : va_D A (xw cI cQ a (upd (upd pl 2 v_38) 1 x) pq nq (va_up (va_up nm 3 (nm 2)) 2 ((va_up nm 3 (nm 2)) 1)) ab lg 2 kn ++ fr) := hD
            refine lv_aload_n hx hb dX2_cut_121 rfl (lv_at hl 2 rfl) ?_
            refine lv_dup hx hb dX2_cut_122 rfl ?_
            refine va_get (D := D) (ci := 2) (v := .int 2) (C := RX2) (T := TX2) (N := 5) hx hb hg inX2 hown hK hP 0 rfl rfl 3 (by decide) (hg _ fl_X2_26) (fun _ h9 => h9) rfl dX2_cut_123 ?_
            refine lv_iconst (v := 1) hx hb dX2_cut_126 (by decide) ?_
            refine lv_iadd hx hb dX2_cut_127 ?_
            rw [show (2 : Int32) + 1 = 3 from by decide]
            refine va_put (D := D) (ci := 2) (v := .int 3) (ty := .int) (C := RX2) (T := TX2) (N := 5) hx hb hg inX2 tyX2 tyX2_ok nmX2 hown hK hP hD hS 0 rfl rfl 3 (by decide) (hg _ fl_X2_26) (fun _ h9 => h9) rfl (by decide +kernel) rfl rfl (Nat.le_of_ble_eq_true rfl) dX2_cut_128 (fun H locs hP hD hS => ?_)
            have hP : va_P D vwCl (xw cI cQ a (upd (upd pl 2 v_38) 1 x) pq nq (va_up (va_up nm 3 (nm 2)) 2 ((va_up nm 3 (nm 2)) 1)) ab lg 3 kn ++ fr) H := hP
            have hD : va_D A (xw cI cQ a (upd (upd pl 2 v_38) 1 x) pq nq (va_up (va_up nm 3 (nm 2)) 2 ((va_up nm 3 (nm 2)) 1)) ab lg 3 kn ++ fr) := hD
            refine lv_iload_n hx hb dX2_cut_131 rfl (lv_at hl 1 rfl) ?_
            refine vx_ret ?_
            refine W.widen (k := 1) (n := 6) (Nat.zero_le _) (Nat.zero_le _) ?_
            exact W.iret (v := 1) hx hb hr (fun t ht hW => ⟨⟨1, ((upd (upd pl 2 v_38) 1 x), (va_up (va_up nm 3 (nm 2)) 2 ((va_up nm 3 (nm 2)) 1))), rfl, ⟨hi6, hcu, by omega, rfl, fun j hj => by rcases (show j = 0 ∨ j = 1 ∨ j = 2 by omega) with rfl | rfl | rfl <;> simp [upd, ev_38], fun j hj => by rcases (show j = 0 ∨ j = 1 ∨ j = 2 ∨ j = 3 by omega) with rfl | rfl | rfl | rfl <;> simp [va_up]⟩, wd_E.at hK hP hD ht hW⟩, hS.F ht⟩) hS.2.2 dX2_cut_132
          · rw [hk]
            refine W.eq (g2 := F0 m 50 ls [.int 2]) rfl ?_
            refine lv_istore_n (lv' := [(2, .int 2), (0, .ref (a 0)), (1, .int x)]) hx hb dX2_cut_50 rfl hl (by decide) rfl (fun ls hl => ?_)
            refine lv_aload_n hx hb dX2_cut_51 rfl (lv_at hl 1 rfl) ?_
            refine va_get (D := D) (ci := 2) (v := .int 2) (C := RX2) (T := TX2) (N := 5) hx hb hg inX2 hown hK hP 0 rfl rfl 3 (by decide) (hg _ fl_X2_26) (fun _ h9 => h9) rfl dX2_cut_52 ?_
            refine lv_istore_n (lv' := [(3, .int 2), (2, .int 2), (0, .ref (a 0)), (1, .int x)]) hx hb dX2_cut_55 rfl hl (by decide) rfl (fun ls hl => ?_)
            refine lv_iload_n hx hb dX2_cut_56 rfl (lv_at hl 0 rfl) ?_
            refine lv_iload_n hx hb dX2_cut_57 rfl (lv_at hl 1 rfl) ?_
            refine lv_icmp_le (tgt := 81) hx hb dX2_cut_58 (by decide) (fun _ => ?_) (fun c_45 => absurd c_45 (by decide))
            refine lv_aload_n hx hb dX2_cut_81 rfl (lv_at hl 2 rfl) ?_
            refine va_get (D := D) (ci := 2) (v := .int 2) (C := RX2) (T := TX2) (N := 5) hx hb hg inX2 hown hK hP 0 rfl rfl 3 (by decide) (hg _ fl_X2_26) (fun _ h9 => h9) rfl dX2_cut_82 ?_
            refine lv_istore_n (lv' := [(3, .int 2), (2, .int 2), (0, .ref (a 0)), (1, .int x)]) hx hb dX2_cut_85 rfl hl (by decide) rfl (fun ls hl => ?_)
            refine lv_iload_n hx hb dX2_cut_86 rfl (lv_at hl 0 rfl) ?_
            refine lv_iload_n hx hb dX2_cut_87 rfl (lv_at hl 1 rfl) ?_
            refine lv_icmp_lt (tgt := 114) hx hb dX2_cut_88 (by decide) (fun c_46 => absurd c_46 (by decide)) (fun _ => ?_)
            refine lv_aload_n hx hb dX2_cut_91 rfl (lv_at hl 2 rfl) ?_
            refine va_get (D := D) (ci := 2) (v := .ref (a 2)) (C := RX2) (T := TX2) (N := 5) hx hb hg inX2 hown hK hP 0 rfl rfl 1 (by decide) (hg _ fl_X2_15) (fun _ h9 => h9) rfl dX2_cut_92 ?_
            refine lv_iload_n hx hb dX2_cut_95 rfl (lv_at hl 0 rfl) ?_
            refine lv_iconst (v := 1) hx hb dX2_cut_96 (by decide) ?_
            refine lv_iadd hx hb dX2_cut_97 ?_
            rw [show (2 : Int32) + 1 = 3 from by decide]
            refine va_aldq (D := D) (n := 4) (f := (fun j => some (pq j))) hx hb hK hP 2 2 rfl rfl (vp_in_nI (show 3 < 4 by decide) (by decide)) dX2_cut_98 ?_
            refine W.eq (g2 := F0 m 99 ls [.ref (pq 3)]) rfl ?_
            refine lv_aload_n hx hb dX2_cut_99 rfl (lv_at hl 2 rfl) ?_
            refine va_get (D := D) (ci := 2) (v := .ref (a 2)) (C := RX2) (T := TX2) (N := 5) hx hb hg inX2 hown hK hP 0 rfl rfl 1 (by decide) (hg _ fl_X2_15) (fun _ h9 => h9) rfl dX2_cut_100 ?_
            refine lv_iload_n hx hb dX2_cut_103 rfl (lv_at hl 0 rfl) ?_
            refine va_aldq (D := D) (n := 4) (f := (fun j => some (pq j))) hx hb hK hP 2 2 rfl rfl (vp_in_nI (show 2 < 4 by decide) (by decide)) dX2_cut_104 ?_
            refine W.eq (g2 := F0 m 105 ls [.ref (pq 2), .ref (pq 3)]) rfl ?_
            refine va_callv (va_runVN (As := [.ref (pq 2)]) (rest := []) ⟨hx, hb, hml, hown, hg⟩ (c_X0_become l A D cI cL cQ (xw cI cQ a pl pq nq nm ab lg 2 kn ++ fr) 11 12 (pq 3) (nq 3) (nm 3) rfl rfl 9 10 (pq 2) (nq 2) (nm 2) rfl rfl) ⟨va_cnB 1 hg (gw_C co_X0_become) rfl rfl rfl (hG.1 _ mn_X2_59) (hg _ ini_X0) (by decide +kernel) ⟨Nat.le_of_ble_eq_true rfl, Nat.le_of_ble_eq_true rfl⟩, hg _ im_X0_become, hg _ se_X0_become⟩ ⟨wd_B.blind, va_recv hK hP (ci := 0) (q0 := 11) rfl rfl, (fun U hU hW => ⟨rfl, wd_B.at hG hK hP hD hS hA hU hW⟩)⟩ rfl rfl hl.1 rfl (lv_room (Nat.le_of_ble_eq_true rfl)) dX2_cut_105 ⟨Nat.le_of_ble_eq_true rfl, Nat.le_of_ble_eq_true rfl⟩) hS (fun q _ h => h) (fun q h => h) (fun u t H1 locs ht hvm hr_47 hB hz1 hk1 hS => ?_)
            obtain ⟨hK, hP, hD⟩ := hB.back ht hvm
            generalize H1 = H at hP hS ⊢
            have hP : va_P D vwCl (xw cI cQ a pl pq nq (va_up nm 3 (nm 2)) ab lg 2 kn ++ fr) H := hP
            have hD : va_D A (xw cI cQ a pl pq nq (va_up nm 3 (nm 2)) ab lg 2 kn ++ fr) := hD
            refine lv_iinc (v := 1) (lv' := [(3, .int 1), (2, .int 2), (0, .ref (a 0)), (1, .int x)]) hx hb dX2_cut_108 hl (k := 0) rfl (by decide) (by decide) rfl (fun ls hl => ?_)
            refine lv_goto (tgt := 86) hx hb dX2_cut_111 (by decide) ?_
            refine lv_iload_n hx hb dX2_cut_86 rfl (lv_at hl 0 rfl) ?_
            refine lv_iload_n hx hb dX2_cut_87 rfl (lv_at hl 1 rfl) ?_
            refine lv_icmp_lt (tgt := 114) hx hb dX2_cut_88 (by decide) (fun _ => ?_) (fun c_48 => absurd c_48 (by decide))
            refine lv_aload_n hx hb dX2_cut_114 rfl (lv_at hl 2 rfl) ?_
            refine va_get (D := D) (ci := 2) (v := .ref (a 1)) (C := RX2) (T := TX2) (N := 5) hx hb hg inX2 hown hK hP 0 rfl rfl 0 (by decide) (hg _ fl_X2_9) (fun _ h9 => h9) rfl dX2_cut_115 ?_
            refine lv_iload_n hx hb dX2_cut_118 rfl (lv_at hl 1 rfl) ?_
            refine lv_iload_n hx hb dX2_cut_119 rfl (lv_at hl 3 rfl) ?_
            refine va_iast (D := D) (n := 3) (f := pl) (x := x) hx hb hK hP hD hS 1 0 rfl rfl (vp_in_nI (show 2 < 3 by decide) (by decide)) dX2_cut_120 (fun H locs hP hD hS => ?_)
            rw [show (2 : Int32).toNatClampNeg = 2 from by decide] at hP hD
            have hP : va_P D vwCl (xw cI cQ a (upd pl 2 x) pq nq (va_up nm 3 (nm 2)) ab lg 2 kn ++ fr) H := hP
            have hD : va_D A (xw cI cQ a (upd pl 2 x) pq nq (va_up nm 3 (nm 2)) ab lg 2 kn ++ fr) := hD
            refine lv_aload_n hx hb dX2_cut_121 rfl (lv_at hl 2 rfl) ?_
            refine lv_dup hx hb dX2_cut_122 rfl ?_
            refine va_get (D := D) (ci := 2) (v := .int 2) (C := RX2) (T := TX2) (N := 5) hx hb hg inX2 hown hK hP 0 rfl rfl 3 (by decide) (hg _ fl_X2_26) (fun _ h9 => h9) rfl dX2_cut_123 ?_
            refine lv_iconst (v := 1) hx hb dX2_cut_126 (by decide) ?_
            refine lv_iadd hx hb dX2_cut_127 ?_
            rw [show (2 : Int32) + 1 = 3 from by decide]
            refine va_put (D := D) (ci := 2) (v := .int 3) (ty := .int) (C := RX2) (T := TX2) (N := 5) hx hb hg inX2 tyX2 tyX2_ok nmX2 hown hK hP hD hS 0 rfl rfl 3 (by decide) (hg _ fl_X2_26) (fun _ h9 => h9) rfl (by decide +kernel) rfl rfl (Nat.le_of_ble_eq_true rfl) dX2_cut_128 (fun H locs hP hD hS => ?_)
            have hP : va_P D vwCl (xw cI cQ a (upd pl 2 x) pq nq (va_up nm 3 (nm 2)) ab lg 3 kn ++ fr) H := hP
            have hD : va_D A (xw cI cQ a (upd pl 2 x) pq nq (va_up nm 3 (nm 2)) ab lg 3 kn ++ fr) := hD
            refine lv_iload_n hx hb dX2_cut_131 rfl (lv_at hl 1 rfl) ?_
            refine vx_ret ?_
            refine W.widen (k := 1) (n := 6) (Nat.zero_le _) (Nat.zero_le _) ?_
            exact W.iret (v := 2) hx hb hr (fun t ht hW => ⟨⟨2, ((upd pl 2 x), (va_up nm 3 (nm 2))), rfl, ⟨hi6, hcu, by omega, rfl, fun j hj => by rcases (show j = 0 ∨ j = 1 ∨ j = 2 by omega) with rfl | rfl | rfl <;> simp [upd], fun j hj => by rcases (show j = 0 ∨ j = 1 ∨ j = 2 ∨ j = 3 by omega) with rfl | rfl | rfl | rfl <;> simp [va_up]⟩, wd_E.at hK hP hD ht hW⟩, hS.F ht⟩) hS.2.2 dX2_cut_132
      · replace c_5 : ¬ cnt < 3 := fun h => c_5 ((nI_ltI (a := cnt) (b := 3) (by omega) (by omega)).mpr h)
        obtain ⟨sa, hsa⟩ := hG.2.2.2.1 (52, "there are 3 cuts") (by decide)
        exact vx_throwS (names := ["java/lang/RuntimeException", "java/lang/Exception"]) (A := A) (sa := sa) hx hb hlt hown (by decide) (by decide) (hg _ cl_X2_50) (hg _ ini_IllegalStateException) hsa (fun w hw => (xa_54 w hw).elim (hg w) (fun h => hG.nest h)) xg_54 hG.2.2.2.2.1 hG.2.2.2.2.2.1 hS (hl.1.trans hml.symm) dX2_cut_35 dX2_cut_38 dX2_cut_39 dX2_cut_41 dX2_cut_44 (fun x hx9 => (htab x hx9).elim) (Nat.le_of_ble_eq_true rfl) (Nat.le_of_ble_eq_true rfl) (Nat.le_of_ble_eq_true rfl) (Nat.le_of_ble_eq_true rfl) hlocks (fun t hal hsz hq => ⟨(), trivial, ⟨Or.inr ⟨rfl, by rw [c_2, c_4]; rfl, by omega⟩, (wd_thr hK hP hD hS t hal hsz hq).1⟩, (wd_thr hK hP hD hS t hal hsz hq).2⟩) hS.2.2 (Nat.le_of_ble_eq_true rfl) (Nat.le_of_ble_eq_true rfl)
    · replace c_4 := zi_n0 c_4
      obtain ⟨sa, hsa⟩ := hG.2.2.2.1 (45, "no place for a cut") (by decide)
      exact vx_throwS (names := ["java/lang/RuntimeException", "java/lang/Exception"]) (A := A) (sa := sa) hx hb hlt hown (by decide) (by decide) (hg _ cl_X2_43) (hg _ ini_IllegalArgumentException) hsa (fun w hw => (xa_47 w hw).elim (hg w) (fun h => hG.nest h)) xg_47 hG.2.2.2.2.1 hG.2.2.2.2.2.1 hS (hl.1.trans hml.symm) dX2_cut_17 dX2_cut_20 dX2_cut_21 dX2_cut_23 dX2_cut_26 (fun x hx9 => (htab x hx9).elim) (Nat.le_of_ble_eq_true rfl) (Nat.le_of_ble_eq_true rfl) (Nat.le_of_ble_eq_true rfl) (Nat.le_of_ble_eq_true rfl) hlocks (fun t hal hsz hq => ⟨(), trivial, ⟨Or.inl ⟨rfl, by simp [c_2, c_4]⟩, (wd_thr hK hP hD hS t hal hsz hq).1⟩, (wd_thr hK hP hD hS t hal hsz hq).2⟩) hS.2.2 (Nat.le_of_ble_eq_true rfl) (Nat.le_of_ble_eq_true rfl)
set_option maxHeartbeats 4000000 in
set_option maxRecDepth 100000 in
theorem c_X2_join (l : Launch) (hlt : l.stackTraces = false) (A : Nat → Prop) (D : va_G) (cI cL cQ : ClassId) (fr : va_W) (a : Nat → Nat) (pl : Nat → Int32) (pq nq : Nat → Nat) (nm : Nat → Nat → Int32) (ab : Int64) (lg : Nat → Int32) (cnt : Nat) (hc : cnt ≤ 3) (kn : Int32) (k : Int32) : vx_Met l yX2_join wsX2_join { frames := 7, cells := 1, slots := 6, locals := 90 } (va_Pc [.ref (a 0), .int k] (wd_B D (ty3 cI cL cQ) A (xw cI cQ a pl pq nq nm ab lg (nI cnt) kn ++ fr))) (va_Qv (fun (u : (Nat → Int32) × (Nat → Nat → Int32)) => x_kc k cnt = false ∧ ∃ i, i < cnt ∧ k = nI i ∧ (∀ j, j < cnt - 1 → u.1 j = if j < i then pl j else pl (j + 1)) ∧ (∀ j, j < cnt → u.2 j = if j ≤ i then nm j else nm (j + 1))) (fun u t => wd_E D (ty3 cI cL cQ) A (xw cI cQ a u.1 pq nq u.2 ab lg (nI (cnt - 1)) kn ++ fr) t) A) (vx_X (fun _ : Unit => True) (fun E _ t => (E = "java/lang/IndexOutOfBoundsException" ∧ x_kc k cnt = true) ∧ wd_E D (ty3 cI cL cQ) A (xw cI cQ a pl pq nq nm ab lg (nI cnt) kn ++ fr) t) A) 1 6 A := by
  refine vx_ofW (cc := cX2_join) (maxL := 3) (ret := none) (by decide) rfl ?_
  intro p e s m args below meth c s₁ B hml htab hv
  obtain ⟨rfl, hG, hK, hP, hD, hA⟩ := hv
  have hx := B.exec
  have hb := B.bytes
  have hr := B.returns
  have hts := atoms_spec (ws := wsX2_join) B.pre
  have hg : ∀ w ∈ gw, w.before ([.ref (a 0), .int k] : List Value).toArray s = true := fun w h => hts w (List.mem_cons_of_mem _ h)
  have hown : s.vm.findClass RX2 = some m.cls := findClass_of_methodNamed B.named
  have hlocks := B.notSynchronized
  have hS : va_S A s.heap s.heap [] := va_S.rf
  have hl := lv_entry ([.ref (a 0), .int k]) (n := 3) (Nat.le_of_ble_eq_true rfl)
  rw [lg_entry_eq]
  generalize (lg_sl ([.ref (a 0), .int k]) ++ List.replicate (3 - (lg_sl ([.ref (a 0), .int k])).length) Slot.unset).toArray = ls at hl ⊢
  have hl : lv_has ls 3 [(0, .ref (a 0)), (1, .int k)] := hl
  refine lv_iload_n hx hb dX2_join_0 rfl (lv_at hl 1 rfl) ?_
  refine lv_if_lt (tgt := 12) hx hb dX2_join_1 (by decide) (fun c_1 => ?_) (fun c_1 => ?_)
  · obtain ⟨sa, hsa⟩ := hG.2.2.2.1 (65, "no such cut") (by decide)
    exact vx_throwS (names := ["java/lang/RuntimeException", "java/lang/Exception"]) (A := A) (sa := sa) hx hb hlt hown (by decide) (by decide) (hg _ cl_X2_63) (hg _ ini_IndexOutOfBoundsException) hsa (fun w hw => (xa_67 w hw).elim (hg w) (fun h => hG.nest h)) xg_67 hG.2.2.2.2.1 hG.2.2.2.2.2.1 hS (hl.1.trans hml.symm) dX2_join_12 dX2_join_15 dX2_join_16 dX2_join_18 dX2_join_21 (fun x hx9 => (htab x hx9).elim) (Nat.le_of_ble_eq_true rfl) (Nat.le_of_ble_eq_true rfl) (Nat.le_of_ble_eq_true rfl) (Nat.le_of_ble_eq_true rfl) hlocks (fun t hal hsz hq => ⟨(), trivial, ⟨⟨rfl, by simp [x_kc, c_1]⟩, (wd_thr hK hP hD hS t hal hsz hq).1⟩, (wd_thr hK hP hD hS t hal hsz hq).2⟩) hS.2.2 (Nat.le_of_ble_eq_true rfl) (Nat.le_of_ble_eq_true rfl)
  · refine lv_iload_n hx hb dX2_join_4 rfl (lv_at hl 1 rfl) ?_
    refine lv_aload_n hx hb dX2_join_5 rfl (lv_at hl 0 rfl) ?_
    refine va_get (D := D) (ci := 2) (v := .int (nI cnt)) (C := RX2) (T := TX2) (N := 5) hx hb hg inX2 hown hK hP 0 rfl rfl 3 (by decide) (hg _ fl_X2_26) (fun _ h9 => h9) rfl dX2_join_6 ?_
    refine lv_icmp_lt (tgt := 22) hx hb dX2_join_9 (by decide) (fun c_2 => ?_) (fun c_2 => ?_)
    · have hj5 : x_kc k cnt = false := by simp [x_kc, c_1, c_2]
      obtain ⟨i, hi, rfl⟩ := x_kn hc c_1 c_2
      rcases (show (cnt = 1 ∧ i = 0) ∨ (cnt = 2 ∧ i = 0) ∨ (cnt = 2 ∧ i = 1) ∨ (cnt = 3 ∧ i = 0) ∨ (cnt = 3 ∧ i = 1) ∨ (cnt = 3 ∧ i = 2) by omega) with ⟨rfl, rfl⟩ | ⟨rfl, rfl⟩ | ⟨rfl, rfl⟩ | ⟨rfl, rfl⟩ | ⟨rfl, rfl⟩ | ⟨rfl, rfl⟩
      · have hP : va_P D vwCl (xw cI cQ a pl pq nq nm ab lg 1 kn ++ fr) s.heap := hP
        have hD : va_D A (xw cI cQ a pl pq nq nm ab lg 1 kn ++ fr) := hD
        have hl : lv_has ls 3 [(0, .ref (a 0)), (1, .int 0)] := hl
        refine lv_iload_n hx hb dX2_join_22 rfl (lv_at hl 1 rfl) ?_
        refine lv_istore_n (lv' := [(2, .int 0), (0, .ref (a 0)), (1, .int 0)]) hx hb dX2_join_23 rfl hl (by decide) rfl (fun ls hl => ?_)
        refine lv_iload_n hx hb dX2_join_24 rfl (lv_at hl 0 rfl) ?_
        refine lv_aload_n hx hb dX2_join_25 rfl (lv_at hl 1 rfl) ?_
        refine va_get (D := D) (ci := 2) (v := .int 1) (C := RX2) (T := TX2) (N := 5) hx hb hg inX2 hown hK hP 0 rfl rfl 3 (by decide) (hg _ fl_X2_26) (fun _ h9 => h9) rfl dX2_join_26 ?_
        refine lv_iconst (v := 1) hx hb dX2_join_29 (by decide) ?_
        refine lv_isub hx hb dX2_join_30 ?_
        rw [show (1 : Int32) - 1 = 0 from by decide]
        refine lv_icmp_ge (tgt := 73) hx hb dX2_join_31 (by decide) (fun _ => ?_) (fun c_3 => absurd c_3 (by decide))
        refine lv_aload_n hx hb dX2_join_73 rfl (lv_at hl 1 rfl) ?_
        refine lv_dup hx hb dX2_join_74 rfl ?_
        refine va_get (D := D) (ci := 2) (v := .int 1) (C := RX2) (T := TX2) (N := 5) hx hb hg inX2 hown hK hP 0 rfl rfl 3 (by decide) (hg _ fl_X2_26) (fun _ h9 => h9) rfl dX2_join_75 ?_
        refine lv_iconst (v := 1) hx hb dX2_join_78 (by decide) ?_
        refine lv_isub hx hb dX2_join_79 ?_
        rw [show (1 : Int32) - 1 = 0 from by decide]
        refine va_put (D := D) (ci := 2) (v := .int 0) (ty := .int) (C := RX2) (T := TX2) (N := 5) hx hb hg inX2 tyX2 tyX2_ok nmX2 hown hK hP hD hS 0 rfl rfl 3 (by decide) (hg _ fl_X2_26) (fun _ h9 => h9) rfl (by decide +kernel) rfl rfl (Nat.le_of_ble_eq_true rfl) dX2_join_80 (fun H locs hP hD hS => ?_)
        have hP : va_P D vwCl (xw cI cQ a pl pq nq nm ab lg 0 kn ++ fr) H := hP
        have hD : va_D A (xw cI cQ a pl pq nq nm ab lg 0 kn ++ fr) := hD
        refine vx_ret ?_
        refine W.widen (k := 1) (n := 6) (Nat.zero_le _) (Nat.zero_le _) ?_
        exact W.vret hx hb hr (fun t ht hW => ⟨⟨(pl, nm), rfl, ⟨hj5, 0, by omega, rfl, fun j hj => by exact absurd hj (by omega) <;> rfl, fun j hj => by rcases (show j = 0 by omega) with rfl <;> simp [va_up]⟩, wd_E.at hK hP hD ht hW⟩, hS.F ht⟩) hS.2.2 dX2_join_83
      · have hP : va_P D vwCl (xw cI cQ a pl pq nq nm ab lg 2 kn ++ fr) s.heap := hP
        have hD : va_D A (xw cI cQ a pl pq nq nm ab lg 2 kn ++ fr) := hD
        have hl : lv_has ls 3 [(0, .ref (a 0)), (1, .int 0)] := hl
        refine lv_iload_n hx hb dX2_join_22 rfl (lv_at hl 1 rfl) ?_
        refine lv_istore_n (lv' := [(2, .int 0), (0, .ref (a 0)), (1, .int 0)]) hx hb dX2_join_23 rfl hl (by decide) rfl (fun ls hl => ?_)
        refine lv_iload_n hx hb dX2_join_24 rfl (lv_at hl 0 rfl) ?_
        refine lv_aload_n hx hb dX2_join_25 rfl (lv_at hl 1 rfl) ?_
        refine va_get (D := D) (ci := 2) (v := .int 2) (C := RX2) (T := TX2) (N := 5) hx hb hg inX2 hown hK hP 0 rfl rfl 3 (by decide) (hg _ fl_X2_26) (fun _ h9 => h9) rfl dX2_join_26 ?_
        refine lv_iconst (v := 1) hx hb dX2_join_29 (by decide) ?_
        refine lv_isub hx hb dX2_join_30 ?_
        rw [show (2 : Int32) - 1 = 1 from by decide]
        refine lv_icmp_ge (tgt := 73) hx hb dX2_join_31 (by decide) (fun c_4 => absurd c_4 (by decide)) (fun _ => ?_)
        refine lv_aload_n hx hb dX2_join_34 rfl (lv_at hl 1 rfl) ?_
        refine va_get (D := D) (ci := 2) (v := .ref (a 1)) (C := RX2) (T := TX2) (N := 5) hx hb hg inX2 hown hK hP 0 rfl rfl 0 (by decide) (hg _ fl_X2_9) (fun _ h9 => h9) rfl dX2_join_35 ?_
        refine lv_iload_n hx hb dX2_join_38 rfl (lv_at hl 0 rfl) ?_
        refine lv_aload_n hx hb dX2_join_39 rfl (lv_at hl 1 rfl) ?_
        refine va_get (D := D) (ci := 2) (v := .ref (a 1)) (C := RX2) (T := TX2) (N := 5) hx hb hg inX2 hown hK hP 0 rfl rfl 0 (by decide) (hg _ fl_X2_9) (fun _ h9 => h9) rfl dX2_join_40 ?_
        refine lv_iload_n hx hb dX2_join_43 rfl (lv_at hl 0 rfl) ?_
        refine lv_iconst (v := 1) hx hb dX2_join_44 (by decide) ?_
        refine lv_iadd hx hb dX2_join_45 ?_
        rw [show (0 : Int32) + 1 = 1 from by decide]
        refine va_iald (D := D) (n := 3) (f := pl) hx hb hK hP 1 0 rfl rfl (vp_in_nI (show 1 < 3 by decide) (by decide)) dX2_join_46 ?_
        rw [show (1 : Int32).toNatClampNeg = 1 from by decide]
        refine lv_topi (fun v_5 ev_5 => ?_)
        refine va_iast (D := D) (n := 3) (f := pl) (x := v_5) hx hb hK hP hD hS 1 0 rfl rfl (vp_in_nI (show 0 < 3 by decide) (by decide)) dX2_join_47 (fun H locs hP hD hS => ?_)
        rw [show (0 : Int32).toNatClampNeg = 0 from by decide] at hP hD
        have hP : va_P D vwCl (xw cI cQ a (upd pl 0 v_5) pq nq nm ab lg 2 kn ++ fr) H := hP
        have hD : va_D A (xw cI cQ a (upd pl 0 v_5) pq nq nm ab lg 2 kn ++ fr) := hD
        refine lv_aload_n hx hb dX2_join_48 rfl (lv_at hl 1 rfl) ?_
        refine va_get (D := D) (ci := 2) (v := .ref (a 2)) (C := RX2) (T := TX2) (N := 5) hx hb hg inX2 hown hK hP 0 rfl rfl 1 (by decide) (hg _ fl_X2_15) (fun _ h9 => h9) rfl dX2_join_49 ?_
        refine lv_iload_n hx hb dX2_join_52 rfl (lv_at hl 0 rfl) ?_
        refine lv_iconst (v := 1) hx hb dX2_join_53 (by decide) ?_
        refine lv_iadd hx hb dX2_join_54 ?_
        rw [show (0 : Int32) + 1 = 1 from by decide]
        refine va_aldq (D := D) (n := 4) (f := (fun j => some (pq j))) hx hb hK hP 2 2 rfl rfl (vp_in_nI (show 1 < 4 by decide) (by decide)) dX2_join_55 ?_
        refine W.eq (g2 := F0 m 56 ls [.ref (pq 1)]) rfl ?_
        refine lv_aload_n hx hb dX2_join_56 rfl (lv_at hl 1 rfl) ?_
        refine va_get (D := D) (ci := 2) (v := .ref (a 2)) (C := RX2) (T := TX2) (N := 5) hx hb hg inX2 hown hK hP 0 rfl rfl 1 (by decide) (hg _ fl_X2_15) (fun _ h9 => h9) rfl dX2_join_57 ?_
        refine lv_iload_n hx hb dX2_join_60 rfl (lv_at hl 0 rfl) ?_
        refine lv_iconst (v := 2) hx hb dX2_join_61 (by decide) ?_
        refine lv_iadd hx hb dX2_join_62 ?_
        rw [show (0 : Int32) + 2 = 2 from by decide]
        refine va_aldq (D := D) (n := 4) (f := (fun j => some (pq j))) hx hb hK hP 2 2 rfl rfl (vp_in_nI (show 2 < 4 by decide) (by decide)) dX2_join_63 ?_
        refine W.eq (g2 := F0 m 64 ls [.ref (pq 2), .ref (pq 1)]) rfl ?_
        refine va_callv (va_runVN (As := [.ref (pq 2)]) (rest := []) ⟨hx, hb, hml, hown, hg⟩ (c_X0_become l A D cI cL cQ (xw cI cQ a (upd pl 0 v_5) pq nq nm ab lg 2 kn ++ fr) 7 8 (pq 1) (nq 1) (nm 1) rfl rfl 9 10 (pq 2) (nq 2) (nm 2) rfl rfl) ⟨va_cnB 1 hg (gw_C co_X0_become) rfl rfl rfl (hG.1 _ mn_X2_59) (hg _ ini_X0) (by decide +kernel) ⟨Nat.le_of_ble_eq_true rfl, Nat.le_of_ble_eq_true rfl⟩, hg _ im_X0_become, hg _ se_X0_become⟩ ⟨wd_B.blind, va_recv hK hP (ci := 0) (q0 := 7) rfl rfl, (fun U hU hW => ⟨rfl, wd_B.at hG hK hP hD hS hA hU hW⟩)⟩ rfl rfl hl.1 rfl (lv_room (Nat.le_of_ble_eq_true rfl)) dX2_join_64 ⟨Nat.le_of_ble_eq_true rfl, Nat.le_of_ble_eq_true rfl⟩) hS (fun q _ h => h) (fun q h => h) (fun u t H1 locs ht hvm hr_6 hB hz1 hk1 hS => ?_)
        obtain ⟨hK, hP, hD⟩ := hB.back ht hvm
        generalize H1 = H at hP hS ⊢
        have hP : va_P D vwCl (xw cI cQ a (upd pl 0 v_5) pq nq (va_up nm 1 (nm 2)) ab lg 2 kn ++ fr) H := hP
        have hD : va_D A (xw cI cQ a (upd pl 0 v_5) pq nq (va_up nm 1 (nm 2)) ab lg 2 kn ++ fr) := hD
        refine lv_iinc (v := 1) (lv' := [(2, .int 1), (0, .ref (a 0)), (1, .int 0)]) hx hb dX2_join_67 hl (k := 0) rfl (by decide) (by decide) rfl (fun ls hl => ?_)
        refine lv_goto (tgt := 24) hx hb dX2_join_70 (by decide) ?_
        refine lv_iload_n hx hb dX2_join_24 rfl (lv_at hl 0 rfl) ?_
        refine lv_aload_n hx hb dX2_join_25 rfl (lv_at hl 1 rfl) ?_
        refine va_get (D := D) (ci := 2) (v := .int 2) (C := RX2) (T := TX2) (N := 5) hx hb hg inX2 hown hK hP 0 rfl rfl 3 (by decide) (hg _ fl_X2_26) (fun _ h9 => h9) rfl dX2_join_26 ?_
        refine lv_iconst (v := 1) hx hb dX2_join_29 (by decide) ?_
        refine lv_isub hx hb dX2_join_30 ?_
        rw [show (2 : Int32) - 1 = 1 from by decide]
        refine lv_icmp_ge (tgt := 73) hx hb dX2_join_31 (by decide) (fun _ => ?_) (fun c_7 => absurd c_7 (by decide))
        refine lv_aload_n hx hb dX2_join_73 rfl (lv_at hl 1 rfl) ?_
        refine lv_dup hx hb dX2_join_74 rfl ?_
        refine va_get (D := D) (ci := 2) (v := .int 2) (C := RX2) (T := TX2) (N := 5) hx hb hg inX2 hown hK hP 0 rfl rfl 3 (by decide) (hg _ fl_X2_26) (fun _ h9 => h9) rfl dX2_join_75 ?_
        refine lv_iconst (v := 1) hx hb dX2_join_78 (by decide) ?_
        refine lv_isub hx hb dX2_join_79 ?_
        rw [show (2 : Int32) - 1 = 1 from by decide]
        refine va_put (D := D) (ci := 2) (v := .int 1) (ty := .int) (C := RX2) (T := TX2) (N := 5) hx hb hg inX2 tyX2 tyX2_ok nmX2 hown hK hP hD hS 0 rfl rfl 3 (by decide) (hg _ fl_X2_26) (fun _ h9 => h9) rfl (by decide +kernel) rfl rfl (Nat.le_of_ble_eq_true rfl) dX2_join_80 (fun H locs hP hD hS => ?_)
        have hP : va_P D vwCl (xw cI cQ a (upd pl 0 v_5) pq nq (va_up nm 1 (nm 2)) ab lg 1 kn ++ fr) H := hP
        have hD : va_D A (xw cI cQ a (upd pl 0 v_5) pq nq (va_up nm 1 (nm 2)) ab lg 1 kn ++ fr) := hD
        refine vx_ret ?_
        refine W.widen (k := 1) (n := 6) (Nat.zero_le _) (Nat.zero_le _) ?_
        exact W.vret hx hb hr (fun t ht hW => ⟨⟨((upd pl 0 v_5), (va_up nm 1 (nm 2))), rfl, ⟨hj5, 0, by omega, rfl, fun j hj => by rcases (show j = 0 by omega) with rfl <;> simp [upd, ev_5], fun j hj => by rcases (show j = 0 ∨ j = 1 by omega) with rfl | rfl <;> simp [va_up]⟩, wd_E.at hK hP hD ht hW⟩, hS.F ht⟩) hS.2.2 dX2_join_83
      · have hP : va_P D vwCl (xw cI cQ a pl pq nq nm ab lg 2 kn ++ fr) s.heap := hP
        have hD : va_D A (xw cI cQ a pl pq nq nm ab lg 2 kn ++ fr) := hD
        have hl : lv_has ls 3 [(0, .ref (a 0)), (1, .int 1)] := hl
        refine lv_iload_n hx hb dX2_join_22 rfl (lv_at hl 1 rfl) ?_
        refine lv_istore_n (lv' := [(2, .int 1), (0, .ref (a 0)), (1, .int 1)]) hx hb dX2_join_23 rfl hl (by decide) rfl (fun ls hl => ?_)
        refine lv_iload_n hx hb dX2_join_24 rfl (lv_at hl 0 rfl) ?_
        refine lv_aload_n hx hb dX2_join_25 rfl (lv_at hl 1 rfl) ?_
        refine va_get (D := D) (ci := 2) (v := .int 2) (C := RX2) (T := TX2) (N := 5) hx hb hg inX2 hown hK hP 0 rfl rfl 3 (by decide) (hg _ fl_X2_26) (fun _ h9 => h9) rfl dX2_join_26 ?_
        refine lv_iconst (v := 1) hx hb dX2_join_29 (by decide) ?_
        refine lv_isub hx hb dX2_join_30 ?_
        rw [show (2 : Int32) - 1 = 1 from by decide]
        refine lv_icmp_ge (tgt := 73) hx hb dX2_join_31 (by decide) (fun _ => ?_) (fun c_8 => absurd c_8 (by decide))
        refine lv_aload_n hx hb dX2_join_73 rfl (lv_at hl 1 rfl) ?_
        refine lv_dup hx hb dX2_join_74 rfl ?_
        refine va_get (D := D) (ci := 2) (v := .int 2) (C := RX2) (T := TX2) (N := 5) hx hb hg inX2 hown hK hP 0 rfl rfl 3 (by decide) (hg _ fl_X2_26) (fun _ h9 => h9) rfl dX2_join_75 ?_
        refine lv_iconst (v := 1) hx hb dX2_join_78 (by decide) ?_
        refine lv_isub hx hb dX2_join_79 ?_
        rw [show (2 : Int32) - 1 = 1 from by decide]
        refine va_put (D := D) (ci := 2) (v := .int 1) (ty := .int) (C := RX2) (T := TX2) (N := 5) hx hb hg inX2 tyX2 tyX2_ok nmX2 hown hK hP hD hS 0 rfl rfl 3 (by decide) (hg _ fl_X2_26) (fun _ h9 => h9) rfl (by decide +kernel) rfl rfl (Nat.le_of_ble_eq_true rfl) dX2_join_80 (fun H locs hP hD hS => ?_)
        have hP : va_P D vwCl (xw cI cQ a pl pq nq nm ab lg 1 kn ++ fr) H := hP
        have hD : va_D A (xw cI cQ a pl pq nq nm ab lg 1 kn ++ fr) := hD
        refine vx_ret ?_
        refine W.widen (k := 1) (n := 6) (Nat.zero_le _) (Nat.zero_le _) ?_
        exact W.vret hx hb hr (fun t ht hW => ⟨⟨(pl, nm), rfl, ⟨hj5, 1, by omega, rfl, fun j hj => by rcases (show j = 0 by omega) with rfl <;> simp [upd], fun j hj => by rcases (show j = 0 ∨ j = 1 by omega) with rfl | rfl <;> simp [va_up]⟩, wd_E.at hK hP hD ht hW⟩, hS.F ht⟩) hS.2.2 dX2_join_83
      · have hP : va_P D vwCl (xw cI cQ a pl pq nq nm ab lg 3 kn ++ fr) s.heap := hP
        have hD : va_D A (xw cI cQ a pl pq nq nm ab lg 3 kn ++ fr) := hD
        have hl : lv_has ls 3 [(0, .ref (a 0)), (1, .int 0)] := hl
        refine lv_iload_n hx hb dX2_join_22 rfl (lv_at hl 1 rfl) ?_
        refine lv_istore_n (lv' := [(2, .int 0), (0, .ref (a 0)), (1, .int 0)]) hx hb dX2_join_23 rfl hl (by decide) rfl (fun ls hl => ?_)
        refine lv_iload_n hx hb dX2_join_24 rfl (lv_at hl 0 rfl) ?_
        refine lv_aload_n hx hb dX2_join_25 rfl (lv_at hl 1 rfl) ?_
        refine va_get (D := D) (ci := 2) (v := .int 3) (C := RX2) (T := TX2) (N := 5) hx hb hg inX2 hown hK hP 0 rfl rfl 3 (by decide) (hg _ fl_X2_26) (fun _ h9 => h9) rfl dX2_join_26 ?_
        refine lv_iconst (v := 1) hx hb dX2_join_29 (by decide) ?_
        refine lv_isub hx hb dX2_join_30 ?_
        rw [show (3 : Int32) - 1 = 2 from by decide]
        refine lv_icmp_ge (tgt := 73) hx hb dX2_join_31 (by decide) (fun c_9 => absurd c_9 (by decide)) (fun _ => ?_)
        refine lv_aload_n hx hb dX2_join_34 rfl (lv_at hl 1 rfl) ?_
        refine va_get (D := D) (ci := 2) (v := .ref (a 1)) (C := RX2) (T := TX2) (N := 5) hx hb hg inX2 hown hK hP 0 rfl rfl 0 (by decide) (hg _ fl_X2_9) (fun _ h9 => h9) rfl dX2_join_35 ?_
        refine lv_iload_n hx hb dX2_join_38 rfl (lv_at hl 0 rfl) ?_
        refine lv_aload_n hx hb dX2_join_39 rfl (lv_at hl 1 rfl) ?_
        refine va_get (D := D) (ci := 2) (v := .ref (a 1)) (C := RX2) (T := TX2) (N := 5) hx hb hg inX2 hown hK hP 0 rfl rfl 0 (by decide) (hg _ fl_X2_9) (fun _ h9 => h9) rfl dX2_join_40 ?_
        refine lv_iload_n hx hb dX2_join_43 rfl (lv_at hl 0 rfl) ?_
        refine lv_iconst (v := 1) hx hb dX2_join_44 (by decide) ?_
        refine lv_iadd hx hb dX2_join_45 ?_
        rw [show (0 : Int32) + 1 = 1 from by decide]
        refine va_iald (D := D) (n := 3) (f := pl) hx hb hK hP 1 0 rfl rfl (vp_in_nI (show 1 < 3 by decide) (by decide)) dX2_join_46 ?_
        rw [show (1 : Int32).toNatClampNeg = 1 from by decide]
        refine lv_topi (fun v_10 ev_10 => ?_)
        refine va_iast (D := D) (n := 3) (f := pl) (x := v_10) hx hb hK hP hD hS 1 0 rfl rfl (vp_in_nI (show 0 < 3 by decide) (by decide)) dX2_join_47 (fun H locs hP hD hS => ?_)
        rw [show (0 : Int32).toNatClampNeg = 0 from by decide] at hP hD
        have hP : va_P D vwCl (xw cI cQ a (upd pl 0 v_10) pq nq nm ab lg 3 kn ++ fr) H := hP
        have hD : va_D A (xw cI cQ a (upd pl 0 v_10) pq nq nm ab lg 3 kn ++ fr) := hD
        refine lv_aload_n hx hb dX2_join_48 rfl (lv_at hl 1 rfl) ?_
        refine va_get (D := D) (ci := 2) (v := .ref (a 2)) (C := RX2) (T := TX2) (N := 5) hx hb hg inX2 hown hK hP 0 rfl rfl 1 (by decide) (hg _ fl_X2_15) (fun _ h9 => h9) rfl dX2_join_49 ?_
        refine lv_iload_n hx hb dX2_join_52 rfl (lv_at hl 0 rfl) ?_
        refine lv_iconst (v := 1) hx hb dX2_join_53 (by decide) ?_
        refine lv_iadd hx hb dX2_join_54 ?_
        rw [show (0 : Int32) + 1 = 1 from by decide]
        refine va_aldq (D := D) (n := 4) (f := (fun j => some (pq j))) hx hb hK hP 2 2 rfl rfl (vp_in_nI (show 1 < 4 by decide) (by decide)) dX2_join_55 ?_
        refine W.eq (g2 := F0 m 56 ls [.ref (pq 1)]) rfl ?_
        refine lv_aload_n hx hb dX2_join_56 rfl (lv_at hl 1 rfl) ?_
        refine va_get (D := D) (ci := 2) (v := .ref (a 2)) (C := RX2) (T := TX2) (N := 5) hx hb hg inX2 hown hK hP 0 rfl rfl 1 (by decide) (hg _ fl_X2_15) (fun _ h9 => h9) rfl dX2_join_57 ?_
        refine lv_iload_n hx hb dX2_join_60 rfl (lv_at hl 0 rfl) ?_
        refine lv_iconst (v := 2) hx hb dX2_join_61 (by decide) ?_
        refine lv_iadd hx hb dX2_join_62 ?_
        rw [show (0 : Int32) + 2 = 2 from by decide]
        refine va_aldq (D := D) (n := 4) (f := (fun j => some (pq j))) hx hb hK hP 2 2 rfl rfl (vp_in_nI (show 2 < 4 by decide) (by decide)) dX2_join_63 ?_
        refine W.eq (g2 := F0 m 64 ls [.ref (pq 2), .ref (pq 1)]) rfl ?_
        refine va_callv (va_runVN (As := [.ref (pq 2)]) (rest := []) ⟨hx, hb, hml, hown, hg⟩ (c_X0_become l A D cI cL cQ (xw cI cQ a (upd pl 0 v_10) pq nq nm ab lg 3 kn ++ fr) 7 8 (pq 1) (nq 1) (nm 1) rfl rfl 9 10 (pq 2) (nq 2) (nm 2) rfl rfl) ⟨va_cnB 1 hg (gw_C co_X0_become) rfl rfl rfl (hG.1 _ mn_X2_59) (hg _ ini_X0) (by decide +kernel) ⟨Nat.le_of_ble_eq_true rfl, Nat.le_of_ble_eq_true rfl⟩, hg _ im_X0_become, hg _ se_X0_become⟩ ⟨wd_B.blind, va_recv hK hP (ci := 0) (q0 := 7) rfl rfl, (fun U hU hW => ⟨rfl, wd_B.at hG hK hP hD hS hA hU hW⟩)⟩ rfl rfl hl.1 rfl (lv_room (Nat.le_of_ble_eq_true rfl)) dX2_join_64 ⟨Nat.le_of_ble_eq_true rfl, Nat.le_of_ble_eq_true rfl⟩) hS (fun q _ h => h) (fun q h => h) (fun u t H1 locs ht hvm hr_11 hB hz1 hk1 hS => ?_)
        obtain ⟨hK, hP, hD⟩ := hB.back ht hvm
        generalize H1 = H at hP hS ⊢
        have hP : va_P D vwCl (xw cI cQ a (upd pl 0 v_10) pq nq (va_up nm 1 (nm 2)) ab lg 3 kn ++ fr) H := hP
        have hD : va_D A (xw cI cQ a (upd pl 0 v_10) pq nq (va_up nm 1 (nm 2)) ab lg 3 kn ++ fr) := hD
        refine lv_iinc (v := 1) (lv' := [(2, .int 1), (0, .ref (a 0)), (1, .int 0)]) hx hb dX2_join_67 hl (k := 0) rfl (by decide) (by decide) rfl (fun ls hl => ?_)
        refine lv_goto (tgt := 24) hx hb dX2_join_70 (by decide) ?_
        refine lv_iload_n hx hb dX2_join_24 rfl (lv_at hl 0 rfl) ?_
        refine lv_aload_n hx hb dX2_join_25 rfl (lv_at hl 1 rfl) ?_
        refine va_get (D := D) (ci := 2) (v := .int 3) (C := RX2) (T := TX2) (N := 5) hx hb hg inX2 hown hK hP 0 rfl rfl 3 (by decide) (hg _ fl_X2_26) (fun _ h9 => h9) rfl dX2_join_26 ?_
        refine lv_iconst (v := 1) hx hb dX2_join_29 (by decide) ?_
        refine lv_isub hx hb dX2_join_30 ?_
        rw [show (3 : Int32) - 1 = 2 from by decide]
        refine lv_icmp_ge (tgt := 73) hx hb dX2_join_31 (by decide) (fun c_12 => absurd c_12 (by decide)) (fun _ => ?_)
        refine lv_aload_n hx hb dX2_join_34 rfl (lv_at hl 1 rfl) ?_
        refine va_get (D := D) (ci := 2) (v := .ref (a 1)) (C := RX2) (T := TX2) (N := 5) hx hb hg inX2 hown hK hP 0 rfl rfl 0 (by decide) (hg _ fl_X2_9) (fun _ h9 => h9) rfl dX2_join_35 ?_
        refine lv_iload_n hx hb dX2_join_38 rfl (lv_at hl 0 rfl) ?_
        refine lv_aload_n hx hb dX2_join_39 rfl (lv_at hl 1 rfl) ?_
        refine va_get (D := D) (ci := 2) (v := .ref (a 1)) (C := RX2) (T := TX2) (N := 5) hx hb hg inX2 hown hK hP 0 rfl rfl 0 (by decide) (hg _ fl_X2_9) (fun _ h9 => h9) rfl dX2_join_40 ?_
        refine lv_iload_n hx hb dX2_join_43 rfl (lv_at hl 0 rfl) ?_
        refine lv_iconst (v := 1) hx hb dX2_join_44 (by decide) ?_
        refine lv_iadd hx hb dX2_join_45 ?_
        rw [show (1 : Int32) + 1 = 2 from by decide]
        refine va_iald (D := D) (n := 3) (f := (upd pl 0 v_10)) hx hb hK hP 1 0 rfl rfl (vp_in_nI (show 2 < 3 by decide) (by decide)) dX2_join_46 ?_
        rw [show (2 : Int32).toNatClampNeg = 2 from by decide]
        refine lv_topi (fun v_13 ev_13 => ?_)
        refine va_iast (D := D) (n := 3) (f := (upd pl 0 v_10)) (x := v_13) hx hb hK hP hD hS 1 0 rfl rfl (vp_in_nI (show 1 < 3 by decide) (by decide)) dX2_join_47 (fun H locs hP hD hS => ?_)
        rw [show (1 : Int32).toNatClampNeg = 1 from by decide] at hP hD
        have hP : va_P D vwCl (xw cI cQ a (upd (upd pl 0 v_10) 1 v_13) pq nq (va_up nm 1 (nm 2)) ab lg 3 kn ++ fr) H := hP
        have hD : va_D A (xw cI cQ a (upd (upd pl 0 v_10) 1 v_13) pq nq (va_up nm 1 (nm 2)) ab lg 3 kn ++ fr) := hD
        refine lv_aload_n hx hb dX2_join_48 rfl (lv_at hl 1 rfl) ?_
        refine va_get (D := D) (ci := 2) (v := .ref (a 2)) (C := RX2) (T := TX2) (N := 5) hx hb hg inX2 hown hK hP 0 rfl rfl 1 (by decide) (hg _ fl_X2_15) (fun _ h9 => h9) rfl dX2_join_49 ?_
        refine lv_iload_n hx hb dX2_join_52 rfl (lv_at hl 0 rfl) ?_
        refine lv_iconst (v := 1) hx hb dX2_join_53 (by decide) ?_
        refine lv_iadd hx hb dX2_join_54 ?_
        rw [show (1 : Int32) + 1 = 2 from by decide]
        refine va_aldq (D := D) (n := 4) (f := (fun j => some (pq j))) hx hb hK hP 2 2 rfl rfl (vp_in_nI (show 2 < 4 by decide) (by decide)) dX2_join_55 ?_
        refine W.eq (g2 := F0 m 56 ls [.ref (pq 2)]) rfl ?_
        refine lv_aload_n hx hb dX2_join_56 rfl (lv_at hl 1 rfl) ?_
        refine va_get (D := D) (ci := 2) (v := .ref (a 2)) (C := RX2) (T := TX2) (N := 5) hx hb hg inX2 hown hK hP 0 rfl rfl 1 (by decide) (hg _ fl_X2_15) (fun _ h9 => h9) rfl dX2_join_57 ?_
        refine lv_iload_n hx hb dX2_join_60 rfl (lv_at hl 0 rfl) ?_
        refine lv_iconst (v := 2) hx hb dX2_join_61 (by decide) ?_
        refine lv_iadd hx hb dX2_join_62 ?_
        rw [show (1 : Int32) + 2 = 3 from by decide]
        refine va_aldq (D := D) (n := 4) (f := (fun j => some (pq j))) hx hb hK hP 2 2 rfl rfl (vp_in_nI (show 3 < 4 by decide) (by decide)) dX2_join_63 ?_
        refine W.eq (g2 := F0 m 64 ls [.ref (pq 3), .ref (pq 2)]) rfl ?_
        refine va_callv (va_runVN (As := [.ref (pq 3)]) (rest := []) ⟨hx, hb, hml, hown, hg⟩ (c_X0_become l A D cI cL cQ (xw cI cQ a (upd (upd pl 0 v_10) 1 v_13) pq nq (va_up nm 1 (nm 2)) ab lg 3 kn ++ fr) 9 10 (pq 2) (nq 2) ((va_up nm 1 (nm 2)) 2) rfl rfl 11 12 (pq 3) (nq 3) ((va_up nm 1 (nm 2)) 3) rfl rfl) ⟨va_cnB 1 hg (gw_C co_X0_become) rfl rfl rfl (hG.1 _ mn_X2_59) (hg _ ini_X0) (by decide +kernel) ⟨Nat.le_of_ble_eq_true rfl, Nat.le_of_ble_eq_true rfl⟩, hg _ im_X0_become, hg _ se_X0_become⟩ ⟨wd_B.blind, va_recv hK hP (ci := 0) (q0 := 9) rfl rfl, (fun U hU hW => ⟨rfl, wd_B.at hG hK hP hD hS hA hU hW⟩)⟩ rfl rfl hl.1 rfl (lv_room (Nat.le_of_ble_eq_true rfl)) dX2_join_64 ⟨Nat.le_of_ble_eq_true rfl, Nat.le_of_ble_eq_true rfl⟩) hS (fun q _ h => h) (fun q h => h) (fun u t H1 locs ht hvm hr_14 hB hz1 hk1 hS => ?_)
        obtain ⟨hK, hP, hD⟩ := hB.back ht hvm
        generalize H1 = H at hP hS ⊢
        have hP : va_P D vwCl (xw cI cQ a (upd (upd pl 0 v_10) 1 v_13) pq nq (va_up (va_up nm 1 (nm 2)) 2 ((va_up nm 1 (nm 2)) 3)) ab lg 3 kn ++ fr) H := hP
        have hD : va_D A (xw cI cQ a (upd (upd pl 0 v_10) 1 v_13) pq nq (va_up (va_up nm 1 (nm 2)) 2 ((va_up nm 1 (nm 2)) 3)) ab lg 3 kn ++ fr) := hD
        refine lv_iinc (v := 2) (lv' := [(2, .int 2), (0, .ref (a 0)), (1, .int 0)]) hx hb dX2_join_67 hl (k := 0) rfl (by decide) (by decide) rfl (fun ls hl => ?_)
        refine lv_goto (tgt := 24) hx hb dX2_join_70 (by decide) ?_
        refine lv_iload_n hx hb dX2_join_24 rfl (lv_at hl 0 rfl) ?_
        refine lv_aload_n hx hb dX2_join_25 rfl (lv_at hl 1 rfl) ?_
        refine va_get (D := D) (ci := 2) (v := .int 3) (C := RX2) (T := TX2) (N := 5) hx hb hg inX2 hown hK hP 0 rfl rfl 3 (by decide) (hg _ fl_X2_26) (fun _ h9 => h9) rfl dX2_join_26 ?_
        refine lv_iconst (v := 1) hx hb dX2_join_29 (by decide) ?_
        refine lv_isub hx hb dX2_join_30 ?_
        rw [show (3 : Int32) - 1 = 2 from by decide]
        refine lv_icmp_ge (tgt := 73) hx hb dX2_join_31 (by decide) (fun _ => ?_) (fun c_15 => absurd c_15 (by decide))
        refine lv_aload_n hx hb dX2_join_73 rfl (lv_at hl 1 rfl) ?_
        refine lv_dup hx hb dX2_join_74 rfl ?_
        refine va_get (D := D) (ci := 2) (v := .int 3) (C := RX2) (T := TX2) (N := 5) hx hb hg inX2 hown hK hP 0 rfl rfl 3 (by decide) (hg _ fl_X2_26) (fun _ h9 => h9) rfl dX2_join_75 ?_
        refine lv_iconst (v := 1) hx hb dX2_join_78 (by decide) ?_
        refine lv_isub hx hb dX2_join_79 ?_
        rw [show (3 : Int32) - 1 = 2 from by decide]
        refine va_put (D := D) (ci := 2) (v := .int 2) (ty := .int) (C := RX2) (T := TX2) (N := 5) hx hb hg inX2 tyX2 tyX2_ok nmX2 hown hK hP hD hS 0 rfl rfl 3 (by decide) (hg _ fl_X2_26) (fun _ h9 => h9) rfl (by decide +kernel) rfl rfl (Nat.le_of_ble_eq_true rfl) dX2_join_80 (fun H locs hP hD hS => ?_)
        have hP : va_P D vwCl (xw cI cQ a (upd (upd pl 0 v_10) 1 v_13) pq nq (va_up (va_up nm 1 (nm 2)) 2 ((va_up nm 1 (nm 2)) 3)) ab lg 2 kn ++ fr) H := hP
        have hD : va_D A (xw cI cQ a (upd (upd pl 0 v_10) 1 v_13) pq nq (va_up (va_up nm 1 (nm 2)) 2 ((va_up nm 1 (nm 2)) 3)) ab lg 2 kn ++ fr) := hD
        refine vx_ret ?_
        refine W.widen (k := 1) (n := 6) (Nat.zero_le _) (Nat.zero_le _) ?_
        exact W.vret hx hb hr (fun t ht hW => ⟨⟨((upd (upd pl 0 v_10) 1 v_13), (va_up (va_up nm 1 (nm 2)) 2 ((va_up nm 1 (nm 2)) 3))), rfl, ⟨hj5, 0, by omega, rfl, fun j hj => by rcases (show j = 0 ∨ j = 1 by omega) with rfl | rfl <;> simp [upd, ev_10, ev_13], fun j hj => by rcases (show j = 0 ∨ j = 1 ∨ j = 2 by omega) with rfl | rfl | rfl <;> simp [va_up]⟩, wd_E.at hK hP hD ht hW⟩, hS.F ht⟩) hS.2.2 dX2_join_83
      · have hP : va_P D vwCl (xw cI cQ a pl pq nq nm ab lg 3 kn ++ fr) s.heap := hP
        have hD : va_D A (xw cI cQ a pl pq nq nm ab lg 3 kn ++ fr) := hD
        have hl : lv_has ls 3 [(0, .ref (a 0)), (1, .int 1)] := hl
        refine lv_iload_n hx hb dX2_join_22 rfl (lv_at hl 1 rfl) ?_
        refine lv_istore_n (lv' := [(2, .int 1), (0, .ref (a 0)), (1, .int 1)]) hx hb dX2_join_23 rfl hl (by decide) rfl (fun ls hl => ?_)
        refine lv_iload_n hx hb dX2_join_24 rfl (lv_at hl 0 rfl) ?_
        refine lv_aload_n hx hb dX2_join_25 rfl (lv_at hl 1 rfl) ?_
        refine va_get (D := D) (ci := 2) (v := .int 3) (C := RX2) (T := TX2) (N := 5) hx hb hg inX2 hown hK hP 0 rfl rfl 3 (by decide) (hg _ fl_X2_26) (fun _ h9 => h9) rfl dX2_join_26 ?_
        refine lv_iconst (v := 1) hx hb dX2_join_29 (by decide) ?_
        refine lv_isub hx hb dX2_join_30 ?_
        rw [show (3 : Int32) - 1 = 2 from by decide]
        refine lv_icmp_ge (tgt := 73) hx hb dX2_join_31 (by decide) (fun c_16 => absurd c_16 (by decide)) (fun _ => ?_)
        refine lv_aload_n hx hb dX2_join_34 rfl (lv_at hl 1 rfl) ?_
        refine va_get (D := D) (ci := 2) (v := .ref (a 1)) (C := RX2) (T := TX2) (N := 5) hx hb hg inX2 hown hK hP 0 rfl rfl 0 (by decide) (hg _ fl_X2_9) (fun _ h9 => h9) rfl dX2_join_35 ?_
        refine lv_iload_n hx hb dX2_join_38 rfl (lv_at hl 0 rfl) ?_
        refine lv_aload_n hx hb dX2_join_39 rfl (lv_at hl 1 rfl) ?_
        refine va_get (D := D) (ci := 2) (v := .ref (a 1)) (C := RX2) (T := TX2) (N := 5) hx hb hg inX2 hown hK hP 0 rfl rfl 0 (by decide) (hg _ fl_X2_9) (fun _ h9 => h9) rfl dX2_join_40 ?_
        refine lv_iload_n hx hb dX2_join_43 rfl (lv_at hl 0 rfl) ?_
        refine lv_iconst (v := 1) hx hb dX2_join_44 (by decide) ?_
        refine lv_iadd hx hb dX2_join_45 ?_
        rw [show (1 : Int32) + 1 = 2 from by decide]
        refine va_iald (D := D) (n := 3) (f := pl) hx hb hK hP 1 0 rfl rfl (vp_in_nI (show 2 < 3 by decide) (by decide)) dX2_join_46 ?_
        rw [show (2 : Int32).toNatClampNeg = 2 from by decide]
        refine lv_topi (fun v_17 ev_17 => ?_)
        refine va_iast (D := D) (n := 3) (f := pl) (x := v_17) hx hb hK hP hD hS 1 0 rfl rfl (vp_in_nI (show 1 < 3 by decide) (by decide)) dX2_join_47 (fun H locs hP hD hS => ?_)
        rw [show (1 : Int32).toNatClampNeg = 1 from by decide] at hP hD
        have hP : va_P D vwCl (xw cI cQ a (upd pl 1 v_17) pq nq nm ab lg 3 kn ++ fr) H := hP
        have hD : va_D A (xw cI cQ a (upd pl 1 v_17) pq nq nm ab lg 3 kn ++ fr) := hD
        refine lv_aload_n hx hb dX2_join_48 rfl (lv_at hl 1 rfl) ?_
        refine va_get (D := D) (ci := 2) (v := .ref (a 2)) (C := RX2) (T := TX2) (N := 5) hx hb hg inX2 hown hK hP 0 rfl rfl 1 (by decide) (hg _ fl_X2_15) (fun _ h9 => h9) rfl dX2_join_49 ?_
        refine lv_iload_n hx hb dX2_join_52 rfl (lv_at hl 0 rfl) ?_
        refine lv_iconst (v := 1) hx hb dX2_join_53 (by decide) ?_
        refine lv_iadd hx hb dX2_join_54 ?_
        rw [show (1 : Int32) + 1 = 2 from by decide]
        refine va_aldq (D := D) (n := 4) (f := (fun j => some (pq j))) hx hb hK hP 2 2 rfl rfl (vp_in_nI (show 2 < 4 by decide) (by decide)) dX2_join_55 ?_
        refine W.eq (g2 := F0 m 56 ls [.ref (pq 2)]) rfl ?_
        refine lv_aload_n hx hb dX2_join_56 rfl (lv_at hl 1 rfl) ?_
        refine va_get (D := D) (ci := 2) (v := .ref (a 2)) (C := RX2) (T := TX2) (N := 5) hx hb hg inX2 hown hK hP 0 rfl rfl 1 (by decide) (hg _ fl_X2_15) (fun _ h9 => h9) rfl dX2_join_57 ?_
        refine lv_iload_n hx hb dX2_join_60 rfl (lv_at hl 0 rfl) ?_
        refine lv_iconst (v := 2) hx hb dX2_join_61 (by decide) ?_
        refine lv_iadd hx hb dX2_join_62 ?_
        rw [show (1 : Int32) + 2 = 3 from by decide]
        refine va_aldq (D := D) (n := 4) (f := (fun j => some (pq j))) hx hb hK hP 2 2 rfl rfl (vp_in_nI (show 3 < 4 by decide) (by decide)) dX2_join_63 ?_
        refine W.eq (g2 := F0 m 64 ls [.ref (pq 3), .ref (pq 2)]) rfl ?_
        refine va_callv (va_runVN (As := [.ref (pq 3)]) (rest := []) ⟨hx, hb, hml, hown, hg⟩ (c_X0_become l A D cI cL cQ (xw cI cQ a (upd pl 1 v_17) pq nq nm ab lg 3 kn ++ fr) 9 10 (pq 2) (nq 2) (nm 2) rfl rfl 11 12 (pq 3) (nq 3) (nm 3) rfl rfl) ⟨va_cnB 1 hg (gw_C co_X0_become) rfl rfl rfl (hG.1 _ mn_X2_59) (hg _ ini_X0) (by decide +kernel) ⟨Nat.le_of_ble_eq_true rfl, Nat.le_of_ble_eq_true rfl⟩, hg _ im_X0_become, hg _ se_X0_become⟩ ⟨wd_B.blind, va_recv hK hP (ci := 0) (q0 := 9) rfl rfl, (fun U hU hW => ⟨rfl, wd_B.at hG hK hP hD hS hA hU hW⟩)⟩ rfl rfl hl.1 rfl (lv_room (Nat.le_of_ble_eq_true rfl)) dX2_join_64 ⟨Nat.le_of_ble_eq_true rfl, Nat.le_of_ble_eq_true rfl⟩) hS (fun q _ h => h) (fun q h => h) (fun u t H1 locs ht hvm hr_18 hB hz1 hk1 hS => ?_)
        obtain ⟨hK, hP, hD⟩ := hB.back ht hvm
        generalize H1 = H at hP hS ⊢
        have hP : va_P D vwCl (xw cI cQ a (upd pl 1 v_17) pq nq (va_up nm 2 (nm 3)) ab lg 3 kn ++ fr) H := hP
        have hD : va_D A (xw cI cQ a (upd pl 1 v_17) pq nq (va_up nm 2 (nm 3)) ab lg 3 kn ++ fr) := hD
        refine lv_iinc (v := 2) (lv' := [(2, .int 2), (0, .ref (a 0)), (1, .int 1)]) hx hb dX2_join_67 hl (k := 0) rfl (by decide) (by decide) rfl (fun ls hl => ?_)
        refine lv_goto (tgt := 24) hx hb dX2_join_70 (by decide) ?_
        refine lv_iload_n hx hb dX2_join_24 rfl (lv_at hl 0 rfl) ?_
        refine lv_aload_n hx hb dX2_join_25 rfl (lv_at hl 1 rfl) ?_
        refine va_get (D := D) (ci := 2) (v := .int 3) (C := RX2) (T := TX2) (N := 5) hx hb hg inX2 hown hK hP 0 rfl rfl 3 (by decide) (hg _ fl_X2_26) (fun _ h9 => h9) rfl dX2_join_26 ?_
        refine lv_iconst (v := 1) hx hb dX2_join_29 (by decide) ?_
        refine lv_isub hx hb dX2_join_30 ?_
        rw [show (3 : Int32) - 1 = 2 from by decide]
        refine lv_icmp_ge (tgt := 73) hx hb dX2_join_31 (by decide) (fun _ => ?_) (fun c_19 => absurd c_19 (by decide))
        refine lv_aload_n hx hb dX2_join_73 rfl (lv_at hl 1 rfl) ?_
        refine lv_dup hx hb dX2_join_74 rfl ?_
        refine va_get (D := D) (ci := 2) (v := .int 3) (C := RX2) (T := TX2) (N := 5) hx hb hg inX2 hown hK hP 0 rfl rfl 3 (by decide) (hg _ fl_X2_26) (fun _ h9 => h9) rfl dX2_join_75 ?_
        refine lv_iconst (v := 1) hx hb dX2_join_78 (by decide) ?_
        refine lv_isub hx hb dX2_join_79 ?_
        rw [show (3 : Int32) - 1 = 2 from by decide]
        refine va_put (D := D) (ci := 2) (v := .int 2) (ty := .int) (C := RX2) (T := TX2) (N := 5) hx hb hg inX2 tyX2 tyX2_ok nmX2 hown hK hP hD hS 0 rfl rfl 3 (by decide) (hg _ fl_X2_26) (fun _ h9 => h9) rfl (by decide +kernel) rfl rfl (Nat.le_of_ble_eq_true rfl) dX2_join_80 (fun H locs hP hD hS => ?_)
        have hP : va_P D vwCl (xw cI cQ a (upd pl 1 v_17) pq nq (va_up nm 2 (nm 3)) ab lg 2 kn ++ fr) H := hP
        have hD : va_D A (xw cI cQ a (upd pl 1 v_17) pq nq (va_up nm 2 (nm 3)) ab lg 2 kn ++ fr) := hD
        refine vx_ret ?_
        refine W.widen (k := 1) (n := 6) (Nat.zero_le _) (Nat.zero_le _) ?_
        exact W.vret hx hb hr (fun t ht hW => ⟨⟨((upd pl 1 v_17), (va_up nm 2 (nm 3))), rfl, ⟨hj5, 1, by omega, rfl, fun j hj => by rcases (show j = 0 ∨ j = 1 by omega) with rfl | rfl <;> simp [upd, ev_17], fun j hj => by rcases (show j = 0 ∨ j = 1 ∨ j = 2 by omega) with rfl | rfl | rfl <;> simp [va_up]⟩, wd_E.at hK hP hD ht hW⟩, hS.F ht⟩) hS.2.2 dX2_join_83
      · have hP : va_P D vwCl (xw cI cQ a pl pq nq nm ab lg 3 kn ++ fr) s.heap := hP
        have hD : va_D A (xw cI cQ a pl pq nq nm ab lg 3 kn ++ fr) := hD
        have hl : lv_has ls 3 [(0, .ref (a 0)), (1, .int 2)] := hl
        refine lv_iload_n hx hb dX2_join_22 rfl (lv_at hl 1 rfl) ?_
        refine lv_istore_n (lv' := [(2, .int 2), (0, .ref (a 0)), (1, .int 2)]) hx hb dX2_join_23 rfl hl (by decide) rfl (fun ls hl => ?_)
        refine lv_iload_n hx hb dX2_join_24 rfl (lv_at hl 0 rfl) ?_
        refine lv_aload_n hx hb dX2_join_25 rfl (lv_at hl 1 rfl) ?_
        refine va_get (D := D) (ci := 2) (v := .int 3) (C := RX2) (T := TX2) (N := 5) hx hb hg inX2 hown hK hP 0 rfl rfl 3 (by decide) (hg _ fl_X2_26) (fun _ h9 => h9) rfl dX2_join_26 ?_
        refine lv_iconst (v := 1) hx hb dX2_join_29 (by decide) ?_
        refine lv_isub hx hb dX2_join_30 ?_
        rw [show (3 : Int32) - 1 = 2 from by decide]
        refine lv_icmp_ge (tgt := 73) hx hb dX2_join_31 (by decide) (fun _ => ?_) (fun c_20 => absurd c_20 (by decide))
        refine lv_aload_n hx hb dX2_join_73 rfl (lv_at hl 1 rfl) ?_
        refine lv_dup hx hb dX2_join_74 rfl ?_
        refine va_get (D := D) (ci := 2) (v := .int 3) (C := RX2) (T := TX2) (N := 5) hx hb hg inX2 hown hK hP 0 rfl rfl 3 (by decide) (hg _ fl_X2_26) (fun _ h9 => h9) rfl dX2_join_75 ?_
        refine lv_iconst (v := 1) hx hb dX2_join_78 (by decide) ?_
        refine lv_isub hx hb dX2_join_79 ?_
        rw [show (3 : Int32) - 1 = 2 from by decide]
        refine va_put (D := D) (ci := 2) (v := .int 2) (ty := .int) (C := RX2) (T := TX2) (N := 5) hx hb hg inX2 tyX2 tyX2_ok nmX2 hown hK hP hD hS 0 rfl rfl 3 (by decide) (hg _ fl_X2_26) (fun _ h9 => h9) rfl (by decide +kernel) rfl rfl (Nat.le_of_ble_eq_true rfl) dX2_join_80 (fun H locs hP hD hS => ?_)
        have hP : va_P D vwCl (xw cI cQ a pl pq nq nm ab lg 2 kn ++ fr) H := hP
        have hD : va_D A (xw cI cQ a pl pq nq nm ab lg 2 kn ++ fr) := hD
        refine vx_ret ?_
        refine W.widen (k := 1) (n := 6) (Nat.zero_le _) (Nat.zero_le _) ?_
        exact W.vret hx hb hr (fun t ht hW => ⟨⟨(pl, nm), rfl, ⟨hj5, 2, by omega, rfl, fun j hj => by rcases (show j = 0 ∨ j = 1 by omega) with rfl | rfl <;> simp [upd], fun j hj => by rcases (show j = 0 ∨ j = 1 ∨ j = 2 by omega) with rfl | rfl | rfl <;> simp [va_up]⟩, wd_E.at hK hP hD ht hW⟩, hS.F ht⟩) hS.2.2 dX2_join_83
    · obtain ⟨sa, hsa⟩ := hG.2.2.2.1 (65, "no such cut") (by decide)
      exact vx_throwS (names := ["java/lang/RuntimeException", "java/lang/Exception"]) (A := A) (sa := sa) hx hb hlt hown (by decide) (by decide) (hg _ cl_X2_63) (hg _ ini_IndexOutOfBoundsException) hsa (fun w hw => (xa_67 w hw).elim (hg w) (fun h => hG.nest h)) xg_67 hG.2.2.2.2.1 hG.2.2.2.2.2.1 hS (hl.1.trans hml.symm) dX2_join_12 dX2_join_15 dX2_join_16 dX2_join_18 dX2_join_21 (fun x hx9 => (htab x hx9).elim) (Nat.le_of_ble_eq_true rfl) (Nat.le_of_ble_eq_true rfl) (Nat.le_of_ble_eq_true rfl) (Nat.le_of_ble_eq_true rfl) hlocks (fun t hal hsz hq => ⟨(), trivial, ⟨⟨rfl, by simp [x_kc, c_1, c_2]⟩, (wd_thr hK hP hD hS t hal hsz hq).1⟩, (wd_thr hK hP hD hS t hal hsz hq).2⟩) hS.2.2 (Nat.le_of_ble_eq_true rfl) (Nat.le_of_ble_eq_true rfl)
end
