/-! what is given at the start and stays; the worlds of the class and of the reference -/
def gl_prime (k : Nat) : Int32 := match k with
  | 0 => 2
  | 1 => 3
  | 2 => 5
  | 3 => 7
  | _ => 11
def gl_sign (k : Nat) : Int32 := match k with
  | 0 => 1
  | 1 => -1
  | 2 => 1
  | 3 => -1
  | 4 => -1
  | 5 => 1
  | 6 => -1
  | _ => -1
def gl_strs : List (Nat × String) := [(45, "no place for a cut"), (52, "there are 3 cuts"), (65, "no such cut"), (68, "no such piece"), (70, "no such number"), (72, "the number can't be that"), (83, "no such place or part"), (97, "a pole is there"), (105, "no such ends"), (120, "no integral is known"), (122, "no such part"), (136, "not 2, 3, 5, 7 or 11")]
def gl_ncs : List (String × String) := [("java/lang/IllegalStateException", "java/lang/IllegalArgumentException"), ("java/lang/IllegalArgumentException", "java/lang/IndexOutOfBoundsException"), ("java/lang/IllegalArgumentException", "java/lang/IllegalStateException")]
def gl_G (A : Nat → Prop) (U : State) (H : Heap) : Prop :=
  (∀ w ∈ gn, va_Nw w U) ∧
  (∃ t, va_Z RX2 "PRIMES" "[I" (.ref t) A U H ∧ va_T .int t 5 (fun k => .int (gl_prime k)) A U H) ∧
  (∃ t, va_Z RX2 "MIRROR_SIGNS" "[I" (.ref t) A U H ∧ va_T .int t 8 (fun k => .int (gl_sign k)) A U H) ∧
  (∀ q ∈ gl_strs, ∃ sa, vk_R RX2 q.1 q.2 sa U) ∧
  vx_Zq Bundle.tN "UNASSIGNED_STACK" Bundle.steD A U H ∧ vx_Zq Bundle.tN "SUPPRESSED_SENTINEL" Bundle.listD A U H ∧
  (∀ q ∈ gl_ncs, va_Nc q.1 q.2 U)
theorem gn_on {w : Cond} (h : w ∈ gn) : w.onTables = true := by
  have h2 := (List.mem_filter.mp h).2
  cases w <;> first | rfl | (simp [gn_is] at h2)
theorem gn_warm {w : Cond} {s U : State} (h : w ∈ gn) (hW : s.WarmedH U.vm) (hZ : va_Nw w s) : va_Nw w U := by
  have h2 := (List.mem_filter.mp h).2
  cases w <;> first | exact va_Nw.warmF hW hZ | exact va_Nw.warmM hW hZ | exact va_Nw.warmC hW hZ | exact va_Nw.warmD hW hZ | (simp [gn_is] at h2)
theorem gl_G.call {A : Nat → Prop} {U : State} {g : JFrame} {mk : MethodId} {a : Array Value} (h : gl_G A U U.heap) : gl_G A (U.calling g mk a) (U.calling g mk a).heap := by
  obtain ⟨h1, ⟨t1, z1, u1⟩, ⟨t2, z2, u2⟩, h4, h5, h6, h7⟩ := h
  have al : U.vm.Alike (U.calling g mk a).vm := Vm.Alike.refl U.vm
  refine ⟨fun w hw => va_Nw.same (gn_on hw) (show U.vm = (U.calling g mk a).vm from rfl) (h1 w hw), ⟨t1, z1.moved al, u1.moved al⟩, ⟨t2, z2.moved al, u2.moved al⟩, fun q hq => ?_, h5.moved al, h6.moved al, fun q hq => (h7 q hq).moved al⟩
  obtain ⟨sa, hsa⟩ := h4 q hq
  exact ⟨sa, vk_R.same rfl hsa⟩
theorem gl_G.warm {A : Nat → Prop} {s U : State} {H : Heap} {locs : List Loc} (h : gl_G A s s.heap) (hS : va_S A s.heap H locs) (hU : U.heap = H) (hW : s.WarmedH U.vm) : gl_G A U U.heap := by
  obtain ⟨h1, ⟨t1, z1, u1⟩, ⟨t2, z2, u2⟩, h4, h5, h6, h7⟩ := h
  have al := hW.alike
  rw [hU]
  refine ⟨fun w hw => gn_warm hw hW (h1 w hw), ⟨t1, (z1.moved al).kept hS.2.1, (u1.moved al).kept hS.2.1⟩, ⟨t2, (z2.moved al).kept hS.2.1, (u2.moved al).kept hS.2.1⟩, fun q hq => ?_, (h5.moved al).kept hS.2.1, (h6.moved al).kept hS.2.1, fun q hq => (h7 q hq).moved al⟩
  obtain ⟨sa, hsa⟩ := h4 q hq
  exact ⟨sa, vk_R.warm hW hsa⟩
theorem gl_G.nest {A : Nat → Prop} {s : State} {H : Heap} {args : Array Value} {w : Cond} (h : gl_G A s H) (hw : w ∈ gn) : w.before args s = true := va_Nw.use (gn_on hw) (h.1 w hw)
/-- the arrays' classes: of ints, of longs, of pieces -/
abbrev ty3 (cI cL cQ : ClassId) : List (ClassId × FieldType) := [(cI, .int), (cL, .long), (cQ, .object RX0)]
/-- what a method that only reads wants -/
def pu_B (D : va_G) (tys : List (ClassId × FieldType)) (ws : va_W) (U : State) : Prop := va_K D vwCl tys U ∧ va_P D vwCl ws U.heap
theorem pu_B.blind {D : va_G} {tys : List (ClassId × FieldType)} {ws : va_W} {av : List Value} : FrameBlind (va_Pc av (pu_B D tys ws)) := fun _ U _ _ q => ⟨q.1, va_K.moved (Vm.Alike.refl U.vm) q.2.1, q.2.2⟩
theorem pu_B.at {D : va_G} {tys : List (ClassId × FieldType)} {ws : va_W} {s U : State} {H : Heap} (hK : va_K D vwCl tys s) (hP : va_P D vwCl ws H) (hU : U.heap = H) (hW : s.WarmedH U.vm) : pu_B D tys ws U := ⟨va_K.moved hW.alike hK, by rw [hU]; exact hP⟩
theorem tt_blind {av : List Value} : FrameBlind (va_Pc av (fun _ => True)) := fun _ _ _ _ q => q
/-- what a method that reads and writes wants: the given, the world, the places where it may write -/
def wd_B (D : va_G) (tys : List (ClassId × FieldType)) (A : Nat → Prop) (ws : va_W) (U : State) : Prop := gl_G A U U.heap ∧ va_K D vwCl tys U ∧ va_P D vwCl ws U.heap ∧ va_D A ws ∧ ∀ q, U.heap.size ≤ q → A q
theorem wd_B.blind {D : va_G} {tys : List (ClassId × FieldType)} {A : Nat → Prop} {ws : va_W} {av : List Value} : FrameBlind (va_Pc av (wd_B D tys A ws)) := fun _ U _ _ q => ⟨q.1, q.2.1.call, va_K.moved (Vm.Alike.refl U.vm) q.2.2.1, q.2.2.2.1, q.2.2.2.2.1, q.2.2.2.2.2⟩
theorem wd_B.at {D : va_G} {tys : List (ClassId × FieldType)} {A : Nat → Prop} {ws : va_W} {s U : State} {H : Heap} {locs : List Loc} (hG : gl_G A s s.heap) (hK : va_K D vwCl tys s) (hP : va_P D vwCl ws H) (hD : va_D A ws) (hS : va_S A s.heap H locs) (hA : ∀ q, s.heap.size ≤ q → A q) (hU : U.heap = H) (hW : s.WarmedH U.vm) : wd_B D tys A ws U :=
  ⟨hG.warm hS hU hW, va_K.moved hW.alike hK, by rw [hU]; exact hP, hD, fun q h => hA q (Nat.le_trans hS.1 (by rw [← hU]; exact h))⟩
/-- .. and what it leaves -/
def wd_E (D : va_G) (tys : List (ClassId × FieldType)) (A : Nat → Prop) (ws : va_W) (t : State) : Prop := va_K D vwCl tys t ∧ va_P D vwCl ws t.heap ∧ va_D A ws
theorem wd_E.at {D : va_G} {tys : List (ClassId × FieldType)} {A : Nat → Prop} {ws : va_W} {s t : State} {H : Heap} (hK : va_K D vwCl tys s) (hP : va_P D vwCl ws H) (hD : va_D A ws) (ht : t.heap = H) (hW : s.WarmedH t.vm) : wd_E D tys A ws t := ⟨va_K.moved hW.alike hK, by rw [ht]; exact hP, hD⟩
theorem wd_E.back {D : va_G} {tys : List (ClassId × FieldType)} {A : Nat → Prop} {ws : va_W} {s t : State} {H : Heap} (h : wd_E D tys A ws t) (ht : t.heap = H) (hvm : s.vm.Alike t.vm) : va_K D vwCl tys s ∧ va_P D vwCl ws H ∧ va_D A ws := ⟨va_K.moved hvm.symm h.1, by rw [← ht]; exact h.2.1, h.2.2⟩
/-- a truth value as an int -/
def zi (b : Bool) : Int32 := if b then 1 else 0
theorem zi_0 {b : Bool} (h : zi b = 0) : b = false := by cases b <;> first | rfl | (simp [zi] at h)
theorem zi_n0 {b : Bool} (h : ¬ zi b = 0) : b = true := by cases b <;> first | rfl | (simp [zi] at h)
theorem zi_nar (b : Bool) : narrow .boolean (.int (zi b)) = .int (zi b) := by cases b <;> rfl
