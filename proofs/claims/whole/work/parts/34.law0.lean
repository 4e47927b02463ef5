/-! the law: what holds at its start, its end, and between two of its calls -/
def R_law : String := "DefiniteRowsLaw"
def lw_P (b : Addr) (xs : List Int32) (args : Array Value) (s : State) : Prop := args = #[.ref b] ∧ s.IntsAt b xs ∧ xs.length ≤ 2048 ∧ (Jvm.Cond.and given_1 narrow_1).before args s = true
def lw_Q (_ : Array Value) (s : State) (o : Outcome) (t : State) : Prop := o = .returned (some (.int 1)) ∧ Framed s o t [] 671320 7082144
def lw_Z (below : List Frame) (a : Array Value) (s : State) : State → Prop := fun t => ∃ o, t.status = .running ∧ Ended t below o ∧ lw_Q a s o t
/-- the law's own end, with 1 on the stack, nothing written that was there before, its room as the claim has it -/
theorem lw_ret {p : Program} {l : Launch} {e : Env} {s : State} {m : MethodId} {below : List Frame} {meth : Method} {c : Code} {b : Nat} (hx : p.tables.exec = Jvm.exec) (hb : c.code = code) (hr : meth.sig.returnType = ret) (hlocks : meth.locks = false) {pc : Nat} {H : Heap} {ls : Array Slot} (hdg : decode code pc = .ok (.ireturn, 1)) : W p l e room_1 s m #[Value.ref b] below meth c H [] 671320 7082144 (lw_Z below #[Value.ref b] s) (F0 m pc ls [.int 1]) := by
  intro T hT X
  obtain ⟨fs, hret, hrun, hended, hW, hframe⟩ := X.leave (v := some (.int 1)) (hlocks := hlocks) (fun h => by rw [hr] at h; cases h)
  have hmeth' : T.vm.method? m = some meth := X.method'
  refine ⟨T.setFrames fs, ?_, .returned (some (.int 1)), hrun, hended, rfl, ⟨_, rfl⟩, hW, hframe⟩
  jvm_step X.here [X.here.top, hx, hb, hdg, hmeth', hr, ret, narrow_b1]
  (try refine ⟨rfl, ?_⟩); (try refine ⟨rfl, ?_⟩)
  first | (intro acts; rw [hret _ acts rfl rfl rfl]) | rw [hret _ _ rfl rfl rfl]
  exact Steps.refl _
/-- what holds at the law's entry -/
def lw_At (p : Program) (s : State) (m : MethodId) (meth : Method) (c : Code) (b L : Nat) (xs : Nat → Int32) : Prop :=
  p.tables.exec = Jvm.exec ∧ c.code = code ∧ meth.sig.returnType = ret ∧ c.maxLocals = 8 ∧ s.vm.findClass R_law = some m.cls ∧ (∀ w ∈ lw_tbl, w.before #[Value.ref b] s = true) ∧ va_X b L xs s s.heap ∧ b < s.heap.size ∧ meth.locks = false ∧ (Jvm.Cond.and given_1 narrow_1).before #[Value.ref b] s = true
theorem gw_SW {own : String} {y : MethodName} {bytes : ByteArray} {maxL idx : Nat} {ret : Option FieldType} {hh : List (Nat × Nat × Nat × Nat)} (h1 : Cond.methodLink own idx y ∈ gw) (h2 : Cond.static y ∈ gw) (h4 : Cond.initialized y.cls ∈ gw) (h5 : Cond.codeWith y bytes maxL ret hh ∈ gw) : GoodIn gw (va_wsS own idx y (Cond.codeWith y bytes maxL ret hh :: gw)) := by
  intro w hw
  have hm : w ∈ gw := by
    simp only [va_wsS, List.mem_append, List.mem_cons, List.not_mem_nil, or_false] at hw
    rcases hw with hw | hw
    · rcases hw with rfl | rfl | rfl <;> assumption
    · rcases hw with rfl | hw <;> assumption
  exact ⟨hm, good_of_word (gw_good w hm)⟩
/-- where the law may write: what it made -/
abbrev lA (s : State) : Nat → Prop := fun q => s.heap.size ≤ q
/-- what stays over the whole run of the law -/
def lw_C (p : Program) (l : Launch) (s : State) (m : MethodId) (meth : Method) (c : Code) (D : va_G) (cI cL cQ : ClassId) (sc L : Nat) (xs : Nat → Int32) : Prop :=
  p.tables.exec = Jvm.exec ∧ c.code = cL_law ∧ meth.sig.returnType = ret ∧ c.maxLocals = 8 ∧ s.vm.findClass RL = some m.cls ∧ (∀ w ∈ gw, w.before #[Value.ref sc] s = true) ∧ gl_G (lA s) s s.heap ∧ va_K D vwCl (ty3 cI cL cQ) s ∧ va_X sc L xs s s.heap ∧ sc < s.heap.size ∧ meth.locks = false ∧ l.stackTraces = false ∧ L ≤ 2048
/-- the cells between two calls -/
abbrev lww (cI cL cQ : ClassId) (a b : Nat → Nat) (o : Nat) (pl : Nat → Int32) (pq nq : Nat → Nat) (nm : Nat → Nat → Int32) (ab : Int64) (lg : Nat → Int32) (cnt : Nat) (kb : Bool) (f : Nat → Int64) (cod : Int32) (cnt2 : Nat) (pl' nm' od op : Nat → Int32) (kb2 : Bool) (kU kD : Int64) (kl : Nat → Int32) (up dn : Int64) (ml : Nat → Int32) : va_W :=
  xw cI cQ a pl pq nq nm ab lg (nI cnt) (zi kb) ++ (ow cL o f :: mw cI b cod (nI cnt2) pl' nm' od op (zi kb2) kU kD kl up dn ml)
/-- the same, the reference's first -/
abbrev lwm (cI cL cQ : ClassId) (a b : Nat → Nat) (o : Nat) (pl : Nat → Int32) (pq nq : Nat → Nat) (nm : Nat → Nat → Int32) (ab : Int64) (lg : Nat → Int32) (cnt : Nat) (kb : Bool) (f : Nat → Int64) (cod : Int32) (cnt2 : Nat) (pl' nm' od op : Nat → Int32) (kb2 : Bool) (kU kD : Int64) (kl : Nat → Int32) (up dn : Int64) (ml : Nat → Int32) : va_W :=
  mw cI b cod (nI cnt2) pl' nm' od op (zi kb2) kU kD kl up dn ml ++ (xw cI cQ a pl pq nq nm ab lg (nI cnt) (zi kb) ++ [ow cL o f])
section PM
variable {cI cL cQ : ClassId} {a b : Nat → Nat} {o : Nat} {pl : Nat → Int32} {pq nq : Nat → Nat} {nm : Nat → Nat → Int32} {ab : Int64} {lg : Nat → Int32} {cnt : Nat} {kb : Bool} {f : Nat → Int64} {cod : Int32} {cnt2 : Nat} {pl' nm' od op : Nat → Int32} {kb2 : Bool} {kU kD : Int64} {kl : Nat → Int32} {up dn : Int64} {ml : Nat → Int32} {D : va_G} {A : Nat → Prop} {H : Heap}
theorem pm_P (h : va_P D vwCl (lww cI cL cQ a b o pl pq nq nm ab lg cnt kb f cod cnt2 pl' nm' od op kb2 kU kD kl up dn ml) H) : va_P D vwCl (lwm cI cL cQ a b o pl pq nq nm ab lg cnt kb f cod cnt2 pl' nm' od op kb2 kU kD kl up dn ml) H := h.sub [14, 15, 16, 17, 18, 19, 20, 0, 1, 2, 3, 4, 5, 6, 7, 8, 9, 10, 11, 12, 13] rfl
theorem pm_D (h : va_D A (lww cI cL cQ a b o pl pq nq nm ab lg cnt kb f cod cnt2 pl' nm' od op kb2 kU kD kl up dn ml)) : va_D A (lwm cI cL cQ a b o pl pq nq nm ab lg cnt kb f cod cnt2 pl' nm' od op kb2 kU kD kl up dn ml) := h.sub [14, 15, 16, 17, 18, 19, 20, 0, 1, 2, 3, 4, 5, 6, 7, 8, 9, 10, 11, 12, 13] (by decide) rfl
theorem mp_P (h : va_P D vwCl (lwm cI cL cQ a b o pl pq nq nm ab lg cnt kb f cod cnt2 pl' nm' od op kb2 kU kD kl up dn ml) H) : va_P D vwCl (lww cI cL cQ a b o pl pq nq nm ab lg cnt kb f cod cnt2 pl' nm' od op kb2 kU kD kl up dn ml) H := h.sub [7, 8, 9, 10, 11, 12, 13, 14, 15, 16, 17, 18, 19, 20, 0, 1, 2, 3, 4, 5, 6] rfl
theorem mp_D (h : va_D A (lwm cI cL cQ a b o pl pq nq nm ab lg cnt kb f cod cnt2 pl' nm' od op kb2 kU kD kl up dn ml)) : va_D A (lww cI cL cQ a b o pl pq nq nm ab lg cnt kb f cod cnt2 pl' nm' od op kb2 kU kD kl up dn ml) := h.sub [7, 8, 9, 10, 11, 12, 13, 14, 15, 16, 17, 18, 19, 20, 0, 1, 2, 3, 4, 5, 6] (by decide) rfl
end PM
/-- ready at pc, in the round i: from any such cells the law comes to its end -/
def lw_R (p : Program) (l : Launch) (e : Env) (s : State) (m : MethodId) (below : List Frame) (meth : Method) (c : Code) (D : va_G) (cI cL cQ : ClassId) (sc : Nat) (a b : Nat → Nat) (o : Nat) (pc i k1 k2 : Nat) : Prop :=
  ∀ (pl : Nat → Int32) (pq nq : Nat → Nat) (nm : Nat → Nat → Int32) (ab : Int64) (lg : Nat → Int32) (cnt : Nat) (kb : Bool) (f : Nat → Int64) (cod : Int32) (pl' nm' od op : Nat → Int32) (kU kD : Int64) (kl : Nat → Int32) (up dn : Int64) (ml : Nat → Int32) (H : Heap) (locs : List Loc) (ls : Array Slot),
    iv pl nm ab lg cnt kb pl' nm' kU kD kl → va_P D vwCl (lww cI cL cQ a b o pl pq nq nm ab lg cnt kb f cod cnt pl' nm' od op kb kU kD kl up dn ml) H → va_D (lA s) (lww cI cL cQ a b o pl pq nq nm ab lg cnt kb f cod cnt pl' nm' od op kb kU kD kl up dn ml) → va_S (lA s) s.heap H locs →
    lv_has ls 8 [(4, .int (nI (4 * i))), (3, .ref o), (2, .ref (b 0)), (1, .ref (a 0)), (0, .ref sc)] → W p l e room_1 s m #[Value.ref sc] below meth c H locs k1 k2 (lw_Z below #[Value.ref sc] s) (F0 m pc ls [])
