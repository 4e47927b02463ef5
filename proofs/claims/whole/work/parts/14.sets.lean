/-! worlds of any cells, by places: what a store leaves; the worlds of the class and of the reference -/
theorem st_at {ws : va_W} {p : Nat} {x : Nat × va_E} (h : ws[p]? = some x) (y : Nat × va_E) : (ws.set p y)[p]? = some y := by
  have hp : p < ws.length := (List.getElem?_eq_some_iff.mp h).1
  simp [hp]
theorem st_ne {ws : va_W} {p q : Nat} {x y : Nat × va_E} (h : ws[q]? = some x) (hpq : p ≠ q) : (ws.set p y)[q]? = some x := by
  rw [List.getElem?_set_ne hpq]; exact h
theorem pc_cg {cA : ClassId} {n : Nat} {f g : Nat → Int32} (h : ∀ j, j < n → f j = g j) : vp_cell cA (n, .inl f) = vp_cell cA (n, .inl g) := by
  rw [vp_cell_i, vp_cell_i, arrV, arrV]
  congr 1
  apply Array.ext_getElem?
  intro j
  rcases Nat.lt_or_ge j n with hj | hj
  · simp [hj, h j hj]
  · simp [hj]
theorem va_P.cg {D : va_G} {cl : List vw_C} {ws : va_W} {H : Heap} {p a n : Nat} {cA : ClassId} {f g : Nat → Int32} (hP : va_P D cl ws H) (hp : ws[p]? = some (a, .inl (cA, n, .inl f))) (h : ∀ j, j < n → f j = g j) : va_P D cl (ws.set p (a, .inl (cA, n, .inl g))) H := by
  intro k q hk
  have hl : p < ws.length := (List.getElem?_eq_some_iff.mp hp).1
  by_cases e : p = k
  · subst e
    rw [st_at hp] at hk
    cases hk
    have h1 := hP p _ hp
    show H[a]? = some (vp_cell cA (n, .inl g))
    rw [← pc_cg h]
    exact h1
  · rw [List.getElem?_set_ne e] at hk
    exact hP k q hk
/-- the class's cells: the object, places, the row of pieces, the sum, its logarithms, the pieces each with its numbers -/
abbrev xw (cI cQ : ClassId) (a : Nat → Nat) (pl : Nat → Int32) (pq nq : Nat → Nat) (nm : Nat → Nat → Int32) (ab : Int64) (lg : Nat → Int32) (cnt kn : Int32) : va_W :=
  [(a 0, .inr (2, [.ref (a 1), .ref (a 2), .ref (a 3), .int cnt, .int kn])), (a 1, .inl (cI, 3, .inl pl)), (a 2, .inl (cQ, 4, .inr (.inr (.inr (.inr (fun j => some (pq j))))))), (a 3, .inr (1, [.long ab, .ref (a 4)])), (a 4, .inl (cI, 5, .inl lg)),
    (pq 0, .inr (0, [.ref (nq 0)])), (nq 0, .inl (cI, 8, .inl (nm 0))), (pq 1, .inr (0, [.ref (nq 1)])), (nq 1, .inl (cI, 8, .inl (nm 1))), (pq 2, .inr (0, [.ref (nq 2)])), (nq 2, .inl (cI, 8, .inl (nm 2))), (pq 3, .inr (0, [.ref (nq 3)])), (nq 3, .inl (cI, 8, .inl (nm 3)))]
theorem xw_p {cI cQ : ClassId} {a : Nat → Nat} {pl : Nat → Int32} {pq nq : Nat → Nat} {nm : Nat → Nat → Int32} {ab : Int64} {lg : Nat → Int32} {cnt kn : Int32} {fr : va_W} {k : Nat} (hk : k < 4) : (xw cI cQ a pl pq nq nm ab lg cnt kn ++ fr)[5 + 2 * k]? = some (pq k, .inr (0, [.ref (nq k)])) := by
  rcases (show k = 0 ∨ k = 1 ∨ k = 2 ∨ k = 3 by omega) with rfl | rfl | rfl | rfl <;> rfl
theorem xw_n {cI cQ : ClassId} {a : Nat → Nat} {pl : Nat → Int32} {pq nq : Nat → Nat} {nm : Nat → Nat → Int32} {ab : Int64} {lg : Nat → Int32} {cnt kn : Int32} {fr : va_W} {k : Nat} (hk : k < 4) : (xw cI cQ a pl pq nq nm ab lg cnt kn ++ fr)[6 + 2 * k]? = some (nq k, .inl (cI, 8, .inl (nm k))) := by
  rcases (show k = 0 ∨ k = 1 ∨ k = 2 ∨ k = 3 by omega) with rfl | rfl | rfl | rfl <;> rfl
theorem xw_s {cI cQ : ClassId} {a : Nat → Nat} {pl : Nat → Int32} {pq nq : Nat → Nat} {nm : Nat → Nat → Int32} {ab : Int64} {lg : Nat → Int32} {cnt kn : Int32} {fr : va_W} {k : Nat} {g : Nat → Int32} (hk : k < 4) : (xw cI cQ a pl pq nq nm ab lg cnt kn ++ fr).set (6 + 2 * k) (nq k, .inl (cI, 8, .inl g)) = xw cI cQ a pl pq nq (va_up nm k g) ab lg cnt kn ++ fr := by
  rcases (show k = 0 ∨ k = 1 ∨ k = 2 ∨ k = 3 by omega) with rfl | rfl | rfl | rfl <;> rfl
/-- the reference's cells -/
abbrev mw (cI : ClassId) (b : Nat → Nat) (cod cu : Int32) (pl nm od op : Nat → Int32) (kn : Int32) (kU kD : Int64) (kl : Nat → Int32) (up dn : Int64) (lg : Nat → Int32) : va_W :=
  [(b 0, .inr (3, [.int cod, .int cu, .ref (b 1), .ref (b 2), .ref (b 3), .ref (b 4), .int kn, .long kU, .long kD, .ref (b 5), .long up, .long dn, .ref (b 6)])), (b 1, .inl (cI, 3, .inl pl)), (b 2, .inl (cI, 32, .inl nm)), (b 3, .inl (cI, 32, .inl od)), (b 4, .inl (cI, 3, .inl op)), (b 5, .inl (cI, 5, .inl kl)), (b 6, .inl (cI, 5, .inl lg))]
theorem st_id {ws : va_W} {p : Nat} {x : Nat × va_E} (h : ws[p]? = some x) : ws.set p x = ws := by
  apply List.ext_getElem?
  intro k
  by_cases e : p = k
  · subst e; rw [st_at h, h]
  · rw [List.getElem?_set_ne e]
theorem zi_fit (b : Bool) : fits .boolean (.int (zi b)) = true := by cases b <;> rfl
theorem gp_blind {A : Nat → Prop} {D : va_G} {tys : List (ClassId × FieldType)} {ws : va_W} {av : List Value} : FrameBlind (va_Pc av (fun U => gl_G A U U.heap ∧ pu_B D tys ws U)) := fun _ U _ _ q => ⟨q.1, q.2.1.call, va_K.moved (Vm.Alike.refl U.vm) q.2.2.1, q.2.2.2⟩
