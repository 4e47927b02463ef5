theorem wd_thr {D : va_G} {tys : List (ClassId × FieldType)} {A : Nat → Prop} {ws : va_W} {s : State} {H : Heap} {locs : List Loc} (hK : va_K D vwCl tys s) (hP : va_P D vwCl ws H) (hD : va_D A ws) (hS : va_S A s.heap H locs) (t : State) (hal : s.vm.Alike t.vm) (hsz : H.size ≤ t.heap.size) (hq : ∀ q : Nat, q < H.size → t.heap[q]? = H[q]?) : wd_E D tys A ws t ∧ va_F A s t :=
  ⟨⟨va_K.moved hal hK, va_P.kept hP (fun k q hk => hq _ (vx_lt hP hk)), hD⟩, ⟨Nat.le_trans hS.1 hsz, fun q h1 h2 => (hq q (Nat.lt_of_lt_of_le h1 hS.1)).trans (hS.2.1 q h1 h2)⟩⟩
def x_kc (k : Int32) (cnt : Nat) : Bool := decide (k < 0) || !decide (k < nI cnt)
def x_pc (k : Int32) (cnt : Nat) : Bool := decide (k < 0) || !decide (k ≤ nI cnt)
def x_nc (k : Int32) : Bool := decide (k < 0) || !decide (k < 8)
theorem x_kn {k : Int32} {cnt : Nat} (hc : cnt ≤ 3) (h1 : ¬ k < 0) (h2 : k < nI cnt) : ∃ j, j < cnt ∧ k = nI j := by
  rcases pk_ix k (show cnt < 2 ^ 31 by omega) with h | h | h
  · exact absurd h h1
  · exact absurd h2 (Int32.not_lt.mpr h)
  · exact h
theorem x_pn {k : Int32} {cnt : Nat} (hc : cnt ≤ 3) (h1 : ¬ k < 0) (h2 : k ≤ nI cnt) : ∃ j, j ≤ cnt ∧ k = nI j := by
  rcases pk_ix k (show cnt + 1 < 2 ^ 31 by omega) with h | h | ⟨j, hj, h⟩
  · exact absurd h h1
  · exfalso
    rw [Int32.le_iff_toInt_le, nI_toInt (by omega)] at h h2
    omega
  · exact ⟨j, by omega, h⟩
theorem x_nn {k : Int32} (h1 : ¬ k < 0) (h2 : k < 8) : ∃ j, j < 8 ∧ k = nI j := by
  rcases pk_ix k (show 8 < 2 ^ 31 by omega) with h | h | h
  · exact absurd h h1
  · exact absurd h2 (Int32.not_lt.mpr h)
  · exact h
set_option maxHeartbeats 4000000 in
set_option maxRecDepth 100000 in
theorem c_X2_place (l : Launch) (hlt : l.stackTraces = false) (A : Nat → Prop) (D : va_G) (cI cL cQ : ClassId) (fr : va_W) (a : Nat → Nat) (pl : Nat → Int32) (pq nq : Nat → Nat) (nm : Nat → Nat → Int32) (ab : Int64) (lg : Nat → Int32) (cnt : Nat) (hc : cnt ≤ 3) (kn : Int32) (k : Int32) : vx_Met l yX2_place wsX2_place { frames := 7, cells := 1, slots := 6, locals := 90 } (va_Pc [.ref (a 0), .int k] (wd_B D (ty3 cI cL cQ) A (xw cI cQ a pl pq nq nm ab lg (nI cnt) kn ++ fr))) (va_Qi (fun r (_ : Unit) => x_kc k cnt = false ∧ ∃ j, j < cnt ∧ k = nI j ∧ r = pl j) (fun _ t => wd_E D (ty3 cI cL cQ) A (xw cI cQ a pl pq nq nm ab lg (nI cnt) kn ++ fr) t) A) (vx_X (fun _ : Unit => True) (fun E _ t => (E = "java/lang/IndexOutOfBoundsException" ∧ x_kc k cnt = true) ∧ wd_E D (ty3 cI cL cQ) A (xw cI cQ a pl pq nq nm ab lg (nI cnt) kn ++ fr) t) A) 1 6 A := by
  refine vx_ofW (cc := cX2_place) (maxL := 2) (ret := (some .int)) (by decide) rfl ?_
  intro p e s m args below meth c s₁ B hml htab hv
  obtain ⟨rfl, hG, hK, hP, hD, hA⟩ := hv
  have hx := B.exec
  have hb := B.bytes
  have hr := B.returns
  have hts := atoms_spec (ws := wsX2_place) B.pre
  have hg : ∀ w ∈ gw, w.before ([.ref (a 0), .int k] : List Value).toArray s = true := fun w h => hts w (List.mem_cons_of_mem _ h)
  have hown : s.vm.findClass RX2 = some m.cls := findClass_of_methodNamed B.named
  have hlocks := B.notSynchronized
  have hS : va_S A s.heap s.heap [] := va_S.rf
  have hl := lv_entry ([.ref (a 0), .int k]) (n := 2) (Nat.le_of_ble_eq_true rfl)
  rw [lg_entry_eq]
  generalize (lg_sl ([.ref (a 0), .int k]) ++ List.replicate (2 - (lg_sl ([.ref (a 0), .int k])).length) Slot.unset).toArray = ls at hl ⊢
  have hl : lv_has ls 2 [(0, .ref (a 0)), (1, .int k)] := hl
  refine lv_iload_n hx hb dX2_place_0 rfl (lv_at hl 1 rfl) ?_
  refine lv_if_lt (tgt := 12) hx hb dX2_place_1 (by decide) (fun c_1 => ?_) (fun c_1 => ?_)
  · obtain ⟨sa, hsa⟩ := hG.2.2.2.1 (65, "no such cut") (by decide)
    exact vx_throwS (names := ["java/lang/RuntimeException", "java/lang/Exception"]) (A := A) (sa := sa) hx hb hlt hown (by decide) (by decide) (hg _ cl_X2_63) (hg _ ini_IndexOutOfBoundsException) hsa (fun w hw => (xa_67 w hw).elim (hg w) (fun h => hG.nest h)) xg_67 hG.2.2.2.2.1 hG.2.2.2.2.2.1 hS (hl.1.trans hml.symm) dX2_place_12 dX2_place_15 dX2_place_16 dX2_place_18 dX2_place_21 (fun x hx9 => (htab x hx9).elim) (Nat.le_of_ble_eq_true rfl) (Nat.le_of_ble_eq_true rfl) (Nat.le_of_ble_eq_true rfl) (Nat.le_of_ble_eq_true rfl) hlocks (fun t hal hsz hq => ⟨(), trivial, ⟨⟨rfl, by simp [x_kc, c_1]⟩, (wd_thr hK hP hD hS t hal hsz hq).1⟩, (wd_thr hK hP hD hS t hal hsz hq).2⟩) hS.2.2 (Nat.le_of_ble_eq_true rfl) (Nat.le_of_ble_eq_true rfl)
  · refine lv_iload_n hx hb dX2_place_4 rfl (lv_at hl 1 rfl) ?_
    refine lv_aload_n hx hb dX2_place_5 rfl (lv_at hl 0 rfl) ?_
    refine va_get (D := D) (ci := 2) (v := .int (nI cnt)) (C := RX2) (T := TX2) (N := 5) hx hb hg inX2 hown hK hP 0 rfl rfl 3 (by decide) (hg _ fl_X2_26) (fun _ h9 => h9) rfl dX2_place_6 ?_
    refine lv_icmp_lt (tgt := 22) hx hb dX2_place_9 (by decide) (fun c_2 => ?_) (fun c_2 => ?_)
    · have hj2 := c_1
      have hj3 := c_2
      obtain ⟨j, hj, rfl⟩ := x_kn hc c_1 c_2
      refine lv_aload_n hx hb dX2_place_22 rfl (lv_at hl 0 rfl) ?_
      refine va_get (D := D) (ci := 2) (v := .ref (a 1)) (C := RX2) (T := TX2) (N := 5) hx hb hg inX2 hown hK hP 0 rfl rfl 0 (by decide) (hg _ fl_X2_9) (fun _ h9 => h9) rfl dX2_place_23 ?_
      refine lv_iload_n hx hb dX2_place_26 rfl (lv_at hl 1 rfl) ?_
      refine va_iald (D := D) (n := 3) (f := pl) hx hb hK hP 1 0 rfl rfl (vp_in_nI (show j < 3 by omega) (by decide)) dX2_place_27 ?_
      rw [nI_clamp (show j < 2 ^ 31 by omega)]
      refine vx_ret ?_
      refine W.widen (k := 1) (n := 6) (Nat.zero_le _) (Nat.zero_le _) ?_
      exact W.iret (v := (pl j)) hx hb hr (fun t ht hW => ⟨⟨(pl j), (), rfl, ⟨by simp [x_kc, hj2, hj3], j, hj, rfl, rfl⟩, wd_E.at hK hP hD ht hW⟩, hS.F ht⟩) hS.2.2 dX2_place_28
    · obtain ⟨sa, hsa⟩ := hG.2.2.2.1 (65, "no such cut") (by decide)
      exact vx_throwS (names := ["java/lang/RuntimeException", "java/lang/Exception"]) (A := A) (sa := sa) hx hb hlt hown (by decide) (by decide) (hg _ cl_X2_63) (hg _ ini_IndexOutOfBoundsException) hsa (fun w hw => (xa_67 w hw).elim (hg w) (fun h => hG.nest h)) xg_67 hG.2.2.2.2.1 hG.2.2.2.2.2.1 hS (hl.1.trans hml.symm) dX2_place_12 dX2_place_15 dX2_place_16 dX2_place_18 dX2_place_21 (fun x hx9 => (htab x hx9).elim) (Nat.le_of_ble_eq_true rfl) (Nat.le_of_ble_eq_true rfl) (Nat.le_of_ble_eq_true rfl) (Nat.le_of_ble_eq_true rfl) hlocks (fun t hal hsz hq => ⟨(), trivial, ⟨⟨rfl, by simp [x_kc, c_1, c_2]⟩, (wd_thr hK hP hD hS t hal hsz hq).1⟩, (wd_thr hK hP hD hS t hal hsz hq).2⟩) hS.2.2 (Nat.le_of_ble_eq_true rfl) (Nat.le_of_ble_eq_true rfl)
set_option maxHeartbeats 4000000 in
set_option maxRecDepth 100000 in
theorem c_X2_at (l : Launch) (hlt : l.stackTraces = false) (A : Nat → Prop) (D : va_G) (cI cL cQ : ClassId) (fr : va_W) (a : Nat → Nat) (pl : Nat → Int32) (pq nq : Nat → Nat) (nm : Nat → Nat → Int32) (ab : Int64) (lg : Nat → Int32) (cnt : Nat) (hc : cnt ≤ 3) (kn : Int32) (k n : Int32) : vx_Met l yX2_at wsX2_at { frames := 7, cells := 1, slots := 6, locals := 90 } (va_Pc [.ref (a 0), .int k, .int n] (wd_B D (ty3 cI cL cQ) A (xw cI cQ a pl pq nq nm ab lg (nI cnt) kn ++ fr))) (va_Qi (fun r (_ : Unit) => x_pc k cnt = false ∧ x_nc n = false ∧ ∃ i j, i ≤ cnt ∧ j < 8 ∧ k = nI i ∧ n = nI j ∧ r = nm i j) (fun _ t => wd_E D (ty3 cI cL cQ) A (xw cI cQ a pl pq nq nm ab lg (nI cnt) kn ++ fr) t) A) (vx_X (fun _ : Unit => True) (fun E _ t => ((E = "java/lang/IndexOutOfBoundsException" ∧ x_pc k cnt = true) ∨ (E = "java/lang/IllegalArgumentException" ∧ x_pc k cnt = false ∧ x_nc n = true)) ∧ wd_E D (ty3 cI cL cQ) A (xw cI cQ a pl pq nq nm ab lg (nI cnt) kn ++ fr) t) A) 1 6 A := by
  refine vx_ofW (cc := cX2_at) (maxL := 3) (ret := (some .int)) (by decide) rfl ?_
  intro p e s m args below meth c s₁ B hml htab hv
  obtain ⟨rfl, hG, hK, hP, hD, hA⟩ := hv
  have hx := B.exec
  have hb := B.bytes
  have hr := B.returns
  have hts := atoms_spec (ws := wsX2_at) B.pre
  have hg : ∀ w ∈ gw, w.before ([.ref (a 0), .int k, .int n] : List Value).toArray s = true := fun w h => hts w (List.mem_cons_of_mem _ h)
  have hown : s.vm.findClass RX2 = some m.cls := findClass_of_methodNamed B.named
  have hlocks := B.notSynchronized
  have hS : va_S A s.heap s.heap [] := va_S.rf
  have hl := lv_entry ([.ref (a 0), .int k, .int n]) (n := 3) (Nat.le_of_ble_eq_true rfl)
  rw [lg_entry_eq]
  generalize (lg_sl ([.ref (a 0), .int k, .int n]) ++ List.replicate (3 - (lg_sl ([.ref (a 0), .int k, .int n])).length) Slot.unset).toArray = ls at hl ⊢
  have hl : lv_has ls 3 [(0, .ref (a 0)), (1, .int k), (2, .int n)] := hl
  refine lv_iload_n hx hb dX2_at_0 rfl (lv_at hl 1 rfl) ?_
  refine lv_if_lt (tgt := 12) hx hb dX2_at_1 (by decide) (fun c_1 => ?_) (fun c_1 => ?_)
  · obtain ⟨sa, hsa⟩ := hG.2.2.2.1 (68, "no such piece") (by decide)
    exact vx_throwS (names := ["java/lang/RuntimeException", "java/lang/Exception"]) (A := A) (sa := sa) hx hb hlt hown (by decide) (by decide) (hg _ cl_X2_63) (hg _ ini_IndexOutOfBoundsException) hsa (fun w hw => (xa_67 w hw).elim (hg w) (fun h => hG.nest h)) xg_67 hG.2.2.2.2.1 hG.2.2.2.2.2.1 hS (hl.1.trans hml.symm) dX2_at_12 dX2_at_15 dX2_at_16 dX2_at_18 dX2_at_21 (fun x hx9 => (htab x hx9).elim) (Nat.le_of_ble_eq_true rfl) (Nat.le_of_ble_eq_true rfl) (Nat.le_of_ble_eq_true rfl) (Nat.le_of_ble_eq_true rfl) hlocks (fun t hal hsz hq => ⟨(), trivial, ⟨Or.inl ⟨rfl, by simp [x_pc, c_1]⟩, (wd_thr hK hP hD hS t hal hsz hq).1⟩, (wd_thr hK hP hD hS t hal hsz hq).2⟩) hS.2.2 (Nat.le_of_ble_eq_true rfl) (Nat.le_of_ble_eq_true rfl)
  · refine lv_iload_n hx hb dX2_at_4 rfl (lv_at hl 1 rfl) ?_
    refine lv_aload_n hx hb dX2_at_5 rfl (lv_at hl 0 rfl) ?_
    refine va_get (D := D) (ci := 2) (v := .int (nI cnt)) (C := RX2) (T := TX2) (N := 5) hx hb hg inX2 hown hK hP 0 rfl rfl 3 (by decide) (hg _ fl_X2_26) (fun _ h9 => h9) rfl dX2_at_6 ?_
    refine lv_icmp_le (tgt := 22) hx hb dX2_at_9 (by decide) (fun c_2 => ?_) (fun c_2 => ?_)
    · refine lv_iload_n hx hb dX2_at_22 rfl (lv_at hl 2 rfl) ?_
      refine lv_if_lt (tgt := 32) hx hb dX2_at_23 (by decide) (fun c_3 => ?_) (fun c_3 => ?_)
      · obtain ⟨sa, hsa⟩ := hG.2.2.2.1 (70, "no such number") (by decide)
        exact vx_throwS (names := ["java/lang/RuntimeException", "java/lang/Exception"]) (A := A) (sa := sa) hx hb hlt hown (by decide) (by decide) (hg _ cl_X2_43) (hg _ ini_IllegalArgumentException) hsa (fun w hw => (xa_47 w hw).elim (hg w) (fun h => hG.nest h)) xg_47 hG.2.2.2.2.1 hG.2.2.2.2.2.1 hS (hl.1.trans hml.symm) dX2_at_32 dX2_at_35 dX2_at_36 dX2_at_38 dX2_at_41 (fun x hx9 => (htab x hx9).elim) (Nat.le_of_ble_eq_true rfl) (Nat.le_of_ble_eq_true rfl) (Nat.le_of_ble_eq_true rfl) (Nat.le_of_ble_eq_true rfl) hlocks (fun t hal hsz hq => ⟨(), trivial, ⟨Or.inr ⟨rfl, by simp [x_pc, c_1, c_2], by simp [x_nc, c_3]⟩, (wd_thr hK hP hD hS t hal hsz hq).1⟩, (wd_thr hK hP hD hS t hal hsz hq).2⟩) hS.2.2 (Nat.le_of_ble_eq_true rfl) (Nat.le_of_ble_eq_true rfl)
      · refine lv_iload_n hx hb dX2_at_26 rfl (lv_at hl 2 rfl) ?_
        refine lv_bipush (v := 8) hx hb dX2_at_27 (by decide) ?_
        refine lv_icmp_lt (tgt := 42) hx hb dX2_at_29 (by decide) (fun c_4 => ?_) (fun c_4 => ?_)
        · have hj5 : x_pc k cnt = false := by simp [x_pc, c_1, c_2]
          have hj6 : x_nc n = false := by simp [x_nc, c_3, c_4]
          obtain ⟨i, hi, rfl⟩ := x_pn hc c_1 c_2
          obtain ⟨j, hj, rfl⟩ := x_nn c_3 c_4
          refine lv_aload_n hx hb dX2_at_42 rfl (lv_at hl 0 rfl) ?_
          refine va_get (D := D) (ci := 2) (v := .ref (a 2)) (C := RX2) (T := TX2) (N := 5) hx hb hg inX2 hown hK hP 0 rfl rfl 1 (by decide) (hg _ fl_X2_15) (fun _ h9 => h9) rfl dX2_at_43 ?_
          refine lv_iload_n hx hb dX2_at_46 rfl (lv_at hl 1 rfl) ?_
          refine va_aldq (D := D) (n := 4) (f := (fun j => some (pq j))) hx hb hK hP 2 2 rfl rfl (vp_in_nI (show i < 4 by omega) (by decide)) dX2_at_47 ?_
          rw [nI_clamp (show i < 2 ^ 31 by omega)]
          refine W.eq (g2 := F0 m 48 ls [.ref (pq i)]) rfl ?_
          refine va_getN (D := D) (ci := 0) (v := .ref (nq i)) (C := RX0) (T := TX0) (N := 1) hx hb hg inX0 hown hK hP (5 + 2 * i) (xw_p (show i < 4 by omega)) rfl 0 (by decide) (hG.nest fn_X2_74) (fun _ h9 => h9) rfl dX2_at_48 ?_
          refine lv_iload_n hx hb dX2_at_51 rfl (lv_at hl 2 rfl) ?_
          refine va_iald (D := D) (n := 8) (f := (nm i)) hx hb hK hP (6 + 2 * i) 0 (xw_n (show i < 4 by omega)) rfl (vp_in_nI (show j < 8 by omega) (by decide)) dX2_at_52 ?_
          rw [nI_clamp (show j < 2 ^ 31 by omega)]
          refine vx_ret ?_
          refine W.widen (k := 1) (n := 6) (Nat.zero_le _) (Nat.zero_le _) ?_
          exact W.iret (v := ((nm i) j)) hx hb hr (fun t ht hW => ⟨⟨((nm i) j), (), rfl, ⟨hj5, hj6, i, j, hi, hj, rfl, rfl, rfl⟩, wd_E.at hK hP hD ht hW⟩, hS.F ht⟩) hS.2.2 dX2_at_53
        · obtain ⟨sa, hsa⟩ := hG.2.2.2.1 (70, "no such number") (by decide)
          exact vx_throwS (names := ["java/lang/RuntimeException", "java/lang/Exception"]) (A := A) (sa := sa) hx hb hlt hown (by decide) (by decide) (hg _ cl_X2_43) (hg _ ini_IllegalArgumentException) hsa (fun w hw => (xa_47 w hw).elim (hg w) (fun h => hG.nest h)) xg_47 hG.2.2.2.2.1 hG.2.2.2.2.2.1 hS (hl.1.trans hml.symm) dX2_at_32 dX2_at_35 dX2_at_36 dX2_at_38 dX2_at_41 (fun x hx9 => (htab x hx9).elim) (Nat.le_of_ble_eq_true rfl) (Nat.le_of_ble_eq_true rfl) (Nat.le_of_ble_eq_true rfl) (Nat.le_of_ble_eq_true rfl) hlocks (fun t hal hsz hq => ⟨(), trivial, ⟨Or.inr ⟨rfl, by simp [x_pc, c_1, c_2], by simp [x_nc, c_3, c_4]⟩, (wd_thr hK hP hD hS t hal hsz hq).1⟩, (wd_thr hK hP hD hS t hal hsz hq).2⟩) hS.2.2 (Nat.le_of_ble_eq_true rfl) (Nat.le_of_ble_eq_true rfl)
    · obtain ⟨sa, hsa⟩ := hG.2.2.2.1 (68, "no such piece") (by decide)
      exact vx_throwS (names := ["java/lang/RuntimeException", "java/lang/Exception"]) (A := A) (sa := sa) hx hb hlt hown (by decide) (by decide) (hg _ cl_X2_63) (hg _ ini_IndexOutOfBoundsException) hsa (fun w hw => (xa_67 w hw).elim (hg w) (fun h => hG.nest h)) xg_67 hG.2.2.2.2.1 hG.2.2.2.2.2.1 hS (hl.1.trans hml.symm) dX2_at_12 dX2_at_15 dX2_at_16 dX2_at_18 dX2_at_21 (fun x hx9 => (htab x hx9).elim) (Nat.le_of_ble_eq_true rfl) (Nat.le_of_ble_eq_true rfl) (Nat.le_of_ble_eq_true rfl) (Nat.le_of_ble_eq_true rfl) hlocks (fun t hal hsz hq => ⟨(), trivial, ⟨Or.inl ⟨rfl, by simp [x_pc, c_1, c_2]⟩, (wd_thr hK hP hD hS t hal hsz hq).1⟩, (wd_thr hK hP hD hS t hal hsz hq).2⟩) hS.2.2 (Nat.le_of_ble_eq_true rfl) (Nat.le_of_ble_eq_true rfl)
set_option maxHeartbeats 4000000 in
set_option maxRecDepth 100000 in
theorem c_X2_put (l : Launch) (hlt : l.stackTraces = false) (A : Nat → Prop) (D : va_G) (cI cL cQ : ClassId) (fr : va_W) (a : Nat → Nat) (pl : Nat → Int32) (pq nq : Nat → Nat) (nm : Nat → Nat → Int32) (ab : Int64) (lg : Nat → Int32) (cnt : Nat) (hc : cnt ≤ 3) (kn : Int32) (k n v : Int32) : vx_Met l yX2_put wsX2_put { frames := 7, cells := 1, slots := 6, locals := 90 } (va_Pc [.ref (a 0), .int k, .int n, .int v] (wd_B D (ty3 cI cL cQ) A (xw cI cQ a pl pq nq nm ab lg (nI cnt) kn ++ fr))) (va_Qi (fun r (u : Nat → Nat → Int32) => x_pc k cnt = false ∧ x_nc n = false ∧ x_in v (if n = 7 then 6 else 5) = true ∧ ∃ i j, i ≤ cnt ∧ j < 8 ∧ k = nI i ∧ n = nI j ∧ u = va_up nm i (upd (nm i) j v) ∧ r = zi (!decide (nm i j = v))) (fun u t => wd_E D (ty3 cI cL cQ) A (xw cI cQ a pl pq nq u ab lg (nI cnt) kn ++ fr) t) A) (vx_X (fun _ : Unit => True) (fun E _ t => ((E = "java/lang/IndexOutOfBoundsException" ∧ x_pc k cnt = true) ∨ (E = "java/lang/IllegalArgumentException" ∧ x_pc k cnt = false ∧ (x_nc n = true ∨ x_in v (if n = 7 then 6 else 5) = false))) ∧ wd_E D (ty3 cI cL cQ) A (xw cI cQ a pl pq nq nm ab lg (nI cnt) kn ++ fr) t) A) 1 6 A := by
  refine vx_ofW (cc := cX2_put) (maxL := 6) (ret := (some .boolean)) (by decide) rfl ?_
  intro p e s m args below meth c s₁ B hml htab hv
  obtain ⟨rfl, hG, hK, hP, hD, hA⟩ := hv
  have hx := B.exec
  have hb := B.bytes
  have hr := B.returns
  have hts := atoms_spec (ws := wsX2_put) B.pre
  have hg : ∀ w ∈ gw, w.before ([.ref (a 0), .int k, .int n, .int v] : List Value).toArray s = true := fun w h => hts w (List.mem_cons_of_mem _ h)
  have hown : s.vm.findClass RX2 = some m.cls := findClass_of_methodNamed B.named
  have hlocks := B.notSynchronized
  have hS : va_S A s.heap s.heap [] := va_S.rf
  have hl := lv_entry ([.ref (a 0), .int k, .int n, .int v]) (n := 6) (Nat.le_of_ble_eq_true rfl)
  rw [lg_entry_eq]
  generalize (lg_sl ([.ref (a 0), .int k, .int n, .int v]) ++ List.replicate (6 - (lg_sl ([.ref (a 0), .int k, .int n, .int v])).length) Slot.unset).toArray = ls at hl ⊢
  have hl : lv_has ls 6 [(0, .ref (a 0)), (1, .int k), (2, .int n), (3, .int v)] := hl
  refine lv_iload_n hx hb dX2_put_0 rfl (lv_at hl 1 rfl) ?_
  refine lv_if_lt (tgt := 12) hx hb dX2_put_1 (by decide) (fun c_1 => ?_) (fun c_1 => ?_)
  · obtain ⟨sa, hsa⟩ := hG.2.2.2.1 (68, "no such piece") (by decide)
    exact vx_throwS (names := ["java/lang/RuntimeException", "java/lang/Exception"]) (A := A) (sa := sa) hx hb hlt hown (by decide) (by decide) (hg _ cl_X2_63) (hg _ ini_IndexOutOfBoundsException) hsa (fun w hw => (xa_67 w hw).elim (hg w) (fun h => hG.nest h)) xg_67 hG.2.2.2.2.1 hG.2.2.2.2.2.1 hS (hl.1.trans hml.symm) dX2_put_12 dX2_put_15 dX2_put_16 dX2_put_18 dX2_put_21 (fun x hx9 => (htab x hx9).elim) (Nat.le_of_ble_eq_true rfl) (Nat.le_of_ble_eq_true rfl) (Nat.le_of_ble_eq_true rfl) (Nat.le_of_ble_eq_true rfl) hlocks (fun t hal hsz hq => ⟨(), trivial, ⟨Or.inl ⟨rfl, by simp [x_pc, c_1]⟩, (wd_thr hK hP hD hS t hal hsz hq).1⟩, (wd_thr hK hP hD hS t hal hsz hq).2⟩) hS.2.2 (Nat.le_of_ble_eq_true rfl) (Nat.le_of_ble_eq_true rfl)
  · refine lv_iload_n hx hb dX2_put_4 rfl (lv_at hl 1 rfl) ?_
    refine lv_aload_n hx hb dX2_put_5 rfl (lv_at hl 0 rfl) ?_
    refine va_get (D := D) (ci := 2) (v := .int (nI cnt)) (C := RX2) (T := TX2) (N := 5) hx hb hg inX2 hown hK hP 0 rfl rfl 3 (by decide) (hg _ fl_X2_26) (fun _ h9 => h9) rfl dX2_put_6 ?_
    refine lv_icmp_le (tgt := 22) hx hb dX2_put_9 (by decide) (fun c_2 => ?_) (fun c_2 => ?_)
    · refine lv_iload_n hx hb dX2_put_22 rfl (lv_at hl 2 rfl) ?_
      refine lv_if_lt (tgt := 32) hx hb dX2_put_23 (by decide) (fun c_3 => ?_) (fun c_3 => ?_)
      · obtain ⟨sa, hsa⟩ := hG.2.2.2.1 (70, "no such number") (by decide)
        exact vx_throwS (names := ["java/lang/RuntimeException", "java/lang/Exception"]) (A := A) (sa := sa) hx hb hlt hown (by decide) (by decide) (hg _ cl_X2_43) (hg _ ini_IllegalArgumentException) hsa (fun w hw => (xa_47 w hw).elim (hg w) (fun h => hG.nest h)) xg_47 hG.2.2.2.2.1 hG.2.2.2.2.2.1 hS (hl.1.trans hml.symm) dX2_put_32 dX2_put_35 dX2_put_36 dX2_put_38 dX2_put_41 (fun x hx9 => (htab x hx9).elim) (Nat.le_of_ble_eq_true rfl) (Nat.le_of_ble_eq_true rfl) (Nat.le_of_ble_eq_true rfl) (Nat.le_of_ble_eq_true rfl) hlocks (fun t hal hsz hq => ⟨(), trivial, ⟨Or.inr ⟨rfl, by simp [x_pc, c_1, c_2], Or.inl (by simp [x_nc, c_3])⟩, (wd_thr hK hP hD hS t hal hsz hq).1⟩, (wd_thr hK hP hD hS t hal hsz hq).2⟩) hS.2.2 (Nat.le_of_ble_eq_true rfl) (Nat.le_of_ble_eq_true rfl)
      · refine lv_iload_n hx hb dX2_put_26 rfl (lv_at hl 2 rfl) ?_
        refine lv_bipush (v := 8) hx hb dX2_put_27 (by decide) ?_
        refine lv_icmp_lt (tgt := 42) hx hb dX2_put_29 (by decide) (fun c_4 => ?_) (fun c_4 => ?_)
        · have hcut : W p l e (headSpec wsX2_put { frames := 7, cells := 1, slots := 6, locals := 90 }).room s m ([.ref (a 0), .int k, .int n, .int v] : List Value).toArray below meth c s.heap [] 0 0 (vx_MQ below (va_Qi (fun r (u : Nat → Nat → Int32) => x_pc k cnt = false ∧ x_nc n = false ∧ x_in v (if n = 7 then 6 else 5) = true ∧ ∃ i j, i ≤ cnt ∧ j < 8 ∧ k = nI i ∧ n = nI j ∧ u = va_up nm i (upd (nm i) j v) ∧ r = zi (!decide (nm i j = v))) (fun u t => wd_E D (ty3 cI cL cQ) A (xw cI cQ a pl pq nq u ab lg (nI cnt) kn ++ fr) t) A) (vx_X (fun _ : Unit => True) (fun E _ t => ((E = "java/lang/IndexOutOfBoundsException" ∧ x_pc k cnt = true) ∨ (E = "java/lang/IllegalArgumentException" ∧ x_pc k cnt = false ∧ (x_nc n = true ∨ x_in v (if n = 7 then 6 else 5) = false))) ∧ wd_E D (ty3 cI cL cQ) A (xw cI cQ a pl pq nq nm ab lg (nI cnt) kn ++ fr) t) A) ([.ref (a 0), .int k, .int n, .int v] : List Value).toArray s 1 6 A) (F0 m 55 ls [.int (if n = 7 then 6 else 5), .int v]) := by
            refine vp_callSi (W.runS (As := [.int v, .int (if n = 7 then 6 else 5)]) (rest := []) ⟨hx, hb, hml, hown, hg⟩ (c_X2_isWithin l v (if n = 7 then 6 else 5)) (va_cwS 2 hg (gw_S ml_X2_35 sm_X2_isWithin ini_X2 co_X2_isWithin) rfl rfl rfl (by decide +kernel) ⟨Nat.le_of_ble_eq_true rfl, Nat.le_of_ble_eq_true rfl⟩) ⟨tt_blind, (fun U hU hW => ⟨rfl, trivial⟩)⟩ rfl rfl hl.1 rfl (lv_room (Nat.le_of_ble_eq_true rfl)) dX2_put_55 ⟨Nat.le_of_ble_eq_true rfl, Nat.le_of_ble_eq_true rfl⟩) (fun r_5 hr_5 => ?_)
            subst hr_5
            refine lv_if_ne (tgt := 71) hx hb dX2_put_58 (by decide) (fun c_6 => ?_) (fun c_6 => ?_)
            · replace c_6 := zi_n0 c_6
              have hj5 : x_pc k cnt = false := by simp [x_pc, c_1, c_2]
              have hj6 : x_nc n = false := by simp [x_nc, c_3, c_4]
              have hj7 := c_6
              obtain ⟨i, hi, rfl⟩ := x_pn hc c_1 c_2
              obtain ⟨j, hj, rfl⟩ := x_nn c_3 c_4
              refine lv_aload_n hx hb dX2_put_71 rfl (lv_at hl 0 rfl) ?_
              refine va_get (D := D) (ci := 2) (v := .ref (a 2)) (C := RX2) (T := TX2) (N := 5) hx hb hg inX2 hown hK hP 0 rfl rfl 1 (by decide) (hg _ fl_X2_15) (fun _ h9 => h9) rfl dX2_put_72 ?_
              refine lv_iload_n hx hb dX2_put_75 rfl (lv_at hl 1 rfl) ?_
              refine va_aldq (D := D) (n := 4) (f := (fun j => some (pq j))) hx hb hK hP 2 2 rfl rfl (vp_in_nI (show i < 4 by omega) (by decide)) dX2_put_76 ?_
              rw [nI_clamp (show i < 2 ^ 31 by omega)]
              refine W.eq (g2 := F0 m 77 ls [.ref (pq i)]) rfl ?_
              refine va_getN (D := D) (ci := 0) (v := .ref (nq i)) (C := RX0) (T := TX0) (N := 1) hx hb hg inX0 hown hK hP (5 + 2 * i) (xw_p (show i < 4 by omega)) rfl 0 (by decide) (hG.nest fn_X2_74) (fun _ h9 => h9) rfl dX2_put_77 ?_
              refine lv_astore (lv' := [(4, .ref (nq i)), (0, .ref (a 0)), (1, .int (nI i)), (2, .int (nI j)), (3, .int v)]) hx hb dX2_put_80 hl (by decide) rfl (fun ls hl => ?_)
              refine lv_aload hx hb dX2_put_82 (lv_at hl 0 rfl) ?_
              refine lv_iload_n hx hb dX2_put_84 rfl (lv_at hl 3 rfl) ?_
              refine va_iald (D := D) (n := 8) (f := (nm i)) hx hb hK hP (6 + 2 * i) 0 (xw_n (show i < 4 by omega)) rfl (vp_in_nI (show j < 8 by omega) (by decide)) dX2_put_85 ?_
              rw [nI_clamp (show j < 2 ^ 31 by omega)]
              refine lv_iload_n hx hb dX2_put_86 rfl (lv_at hl 4 rfl) ?_
              refine lv_icmp_eq (tgt := 94) hx hb dX2_put_87 (by decide) (fun c_7 => ?_) (fun c_7 => ?_)
              · refine lv_iconst (v := 0) hx hb dX2_put_94 (by decide) ?_
                refine lv_istore (lv' := [(5, .int 0), (4, .ref (nq i)), (0, .ref (a 0)), (1, .int (nI i)), (2, .int (nI j)), (3, .int v)]) hx hb dX2_put_95 hl (by decide) rfl (fun ls hl => ?_)
                refine lv_aload hx hb dX2_put_97 (lv_at hl 1 rfl) ?_
                refine lv_iload_n hx hb dX2_put_99 rfl (lv_at hl 4 rfl) ?_
                refine lv_iload_n hx hb dX2_put_100 rfl (lv_at hl 5 rfl) ?_
                refine va_iast (D := D) (n := 8) (f := (nm i)) (x := v) hx hb hK hP hD hS (6 + 2 * i) 0 (xw_n (show i < 4 by omega)) rfl (vp_in_nI (show j < 8 by omega) (by decide)) dX2_put_101 (fun H locs hP hD hS => ?_)
                rw [nI_clamp (show j < 2 ^ 31 by omega)] at hP hD
                rw [xw_s (show i < 4 by omega)] at hP hD
                have hP : va_P D vwCl (xw cI cQ a pl pq nq (va_up nm i (upd (nm i) j v)) ab lg (nI cnt) kn ++ fr) H := hP
                have hD : va_D A (xw cI cQ a pl pq nq (va_up nm i (upd (nm i) j v)) ab lg (nI cnt) kn ++ fr) := hD
                refine lv_iload hx hb dX2_put_102 (lv_at hl 0 rfl) ?_
                refine vx_ret ?_
                refine W.widen (k := 1) (n := 6) (Nat.zero_le _) (Nat.zero_le _) ?_
                exact W.zret (v := 0) hx hb hr rfl (fun t ht hW => ⟨⟨0, (va_up nm i (upd (nm i) j v)), rfl, ⟨hj5, hj6, hj7, i, j, hi, hj, rfl, rfl, rfl, by simp [zi, c_7]⟩, wd_E.at hK hP hD ht hW⟩, hS.F ht⟩) hS.2.2 dX2_put_104
              · refine lv_iconst (v := 1) hx hb dX2_put_90 (by decide) ?_
                refine lv_goto (tgt := 95) hx hb dX2_put_91 (by decide) ?_
                refine lv_istore (lv' := [(5, .int 1), (4, .ref (nq i)), (0, .ref (a 0)), (1, .int (nI i)), (2, .int (nI j)), (3, .int v)]) hx hb dX2_put_95 hl (by decide) rfl (fun ls hl => ?_)
                refine lv_aload hx hb dX2_put_97 (lv_at hl 1 rfl) ?_
                refine lv_iload_n hx hb dX2_put_99 rfl (lv_at hl 4 rfl) ?_
                refine lv_iload_n hx hb dX2_put_100 rfl (lv_at hl 5 rfl) ?_
                refine va_iast (D := D) (n := 8) (f := (nm i)) (x := v) hx hb hK hP hD hS (6 + 2 * i) 0 (xw_n (show i < 4 by omega)) rfl (vp_in_nI (show j < 8 by omega) (by decide)) dX2_put_101 (fun H locs hP hD hS => ?_)
                rw [nI_clamp (show j < 2 ^ 31 by omega)] at hP hD
                rw [xw_s (show i < 4 by omega)] at hP hD
                have hP : va_P D vwCl (xw cI cQ a pl pq nq (va_up nm i (upd (nm i) j v)) ab lg (nI cnt) kn ++ fr) H := hP
                have hD : va_D A (xw cI cQ a pl pq nq (va_up nm i (upd (nm i) j v)) ab lg (nI cnt) kn ++ fr) := hD
                refine lv_iload hx hb dX2_put_102 (lv_at hl 0 rfl) ?_
                refine vx_ret ?_
                refine W.widen (k := 1) (n := 6) (Nat.zero_le _) (Nat.zero_le _) ?_
                exact W.zret (v := 1) hx hb hr rfl (fun t ht hW => ⟨⟨1, (va_up nm i (upd (nm i) j v)), rfl, ⟨hj5, hj6, hj7, i, j, hi, hj, rfl, rfl, rfl, by simp [zi, c_7]⟩, wd_E.at hK hP hD ht hW⟩, hS.F ht⟩) hS.2.2 dX2_put_104
            · replace c_6 := zi_0 c_6
              obtain ⟨sa, hsa⟩ := hG.2.2.2.1 (72, "the number can't be that") (by decide)
              exact vx_throwS (names := ["java/lang/RuntimeException", "java/lang/Exception"]) (A := A) (sa := sa) hx hb hlt hown (by decide) (by decide) (hg _ cl_X2_43) (hg _ ini_IllegalArgumentException) hsa (fun w hw => (xa_47 w hw).elim (hg w) (fun h => hG.nest h)) xg_47 hG.2.2.2.2.1 hG.2.2.2.2.2.1 hS (hl.1.trans hml.symm) dX2_put_61 dX2_put_64 dX2_put_65 dX2_put_67 dX2_put_70 (fun x hx9 => (htab x hx9).elim) (Nat.le_of_ble_eq_true rfl) (Nat.le_of_ble_eq_true rfl) (Nat.le_of_ble_eq_true rfl) (Nat.le_of_ble_eq_true rfl) hlocks (fun t hal hsz hq => ⟨(), trivial, ⟨Or.inr ⟨rfl, by simp [x_pc, c_1, c_2], Or.inr c_6⟩, (wd_thr hK hP hD hS t hal hsz hq).1⟩, (wd_thr hK hP hD hS t hal hsz hq).2⟩) hS.2.2 (Nat.le_of_ble_eq_true rfl) (Nat.le_of_ble_eq_true rfl)
          refine lv_iload_n hx hb dX2_put_42 rfl (lv_at hl 3 rfl) ?_
          refine lv_iload_n hx hb dX2_put_43 rfl (lv_at hl 2 rfl) ?_
          refine lv_bipush (v := 7) hx hb dX2_put_44 (by decide) ?_
          refine lv_icmp_ne (tgt := 54) hx hb dX2_put_46 (by decide) (fun c_8 => ?_) (fun c_8 => ?_)
          · refine lv_iconst (v := 5) hx hb dX2_put_54 (by decide) ?_
            have e9 : (if n = 7 then 6 else 5) = (5 : Int32) := if_neg c_8
            exact W.eq (by rw [e9]) hcut
          · refine lv_bipush (v := 6) hx hb dX2_put_49 (by decide) ?_
            refine lv_goto (tgt := 55) hx hb dX2_put_51 (by decide) ?_
            have e9 : (if n = 7 then 6 else 5) = (6 : Int32) := if_pos c_8
            exact W.eq (by rw [e9]) hcut
        · obtain ⟨sa, hsa⟩ := hG.2.2.2.1 (70, "no such number") (by decide)
          exact vx_throwS (names := ["java/lang/RuntimeException", "java/lang/Exception"]) (A := A) (sa := sa) hx hb hlt hown (by decide) (by decide) (hg _ cl_X2_43) (hg _ ini_IllegalArgumentException) hsa (fun w hw => (xa_47 w hw).elim (hg w) (fun h => hG.nest h)) xg_47 hG.2.2.2.2.1 hG.2.2.2.2.2.1 hS (hl.1.trans hml.symm) dX2_put_32 dX2_put_35 dX2_put_36 dX2_put_38 dX2_put_41 (fun x hx9 => (htab x hx9).elim) (Nat.le_of_ble_eq_true rfl) (Nat.le_of_ble_eq_true rfl) (Nat.le_of_ble_eq_true rfl) (Nat.le_of_ble_eq_true rfl) hlocks (fun t hal hsz hq => ⟨(), trivial, ⟨Or.inr ⟨rfl, by simp [x_pc, c_1, c_2], Or.inl (by simp [x_nc, c_3, c_4])⟩, (wd_thr hK hP hD hS t hal hsz hq).1⟩, (wd_thr hK hP hD hS t hal hsz hq).2⟩) hS.2.2 (Nat.le_of_ble_eq_true rfl) (Nat.le_of_ble_eq_true rfl)
    · obtain ⟨sa, hsa⟩ := hG.2.2.2.1 (68, "no such piece") (by decide)
      exact vx_throwS (names := ["java/lang/RuntimeException", "java/lang/Exception"]) (A := A) (sa := sa) hx hb hlt hown (by decide) (by decide) (hg _ cl_X2_63) (hg _ ini_IndexOutOfBoundsException) hsa (fun w hw => (xa_67 w hw).elim (hg w) (fun h => hG.nest h)) xg_67 hG.2.2.2.2.1 hG.2.2.2.2.2.1 hS (hl.1.trans hml.symm) dX2_put_12 dX2_put_15 dX2_put_16 dX2_put_18 dX2_put_21 (fun x hx9 => (htab x hx9).elim) (Nat.le_of_ble_eq_true rfl) (Nat.le_of_ble_eq_true rfl) (Nat.le_of_ble_eq_true rfl) (Nat.le_of_ble_eq_true rfl) hlocks (fun t hal hsz hq => ⟨(), trivial, ⟨Or.inl ⟨rfl, by simp [x_pc, c_1, c_2]⟩, (wd_thr hK hP hD hS t hal hsz hq).1⟩, (wd_thr hK hP hD hS t hal hsz hq).2⟩) hS.2.2 (Nat.le_of_ble_eq_true rfl) (Nat.le_of_ble_eq_true rfl)
set_option maxHeartbeats 4000000 in
set_option maxRecDepth 100000 in
theorem c_X2_fraction (l : Launch) (hlt : l.stackTraces = false) (A : Nat → Prop) (D : va_G) (cI cL cQ : ClassId) (fr : va_W) (a : Nat → Nat) (pl : Nat → Int32) (pq nq : Nat → Nat) (nm : Nat → Nat → Int32) (ab : Int64) (lg : Nat → Int32) (cnt : Nat) (hc : cnt ≤ 3) (kb : Bool) (k : Int32) : vx_Met l yX2_fraction wsX2_fraction { frames := 7, cells := 1, slots := 6, locals := 90 } (va_Pc [.ref (a 0), .int k] (wd_B D (ty3 cI cL cQ) A (xw cI cQ a pl pq nq nm ab lg (nI cnt) (zi kb) ++ fr))) (va_Ql (fun r (_ : Unit) => kb = true ∧ x_part k = true ∧ r = x_low ab 1536796800 k) (fun _ t => wd_E D (ty3 cI cL cQ) A (xw cI cQ a pl pq nq nm ab lg (nI cnt) (zi kb) ++ fr) t) A) (vx_X (fun _ : Unit => True) (fun E _ t => ((E = "java/lang/IllegalStateException" ∧ kb = false) ∨ (E = "java/lang/IllegalArgumentException" ∧ kb = true ∧ x_part k = false)) ∧ wd_E D (ty3 cI cL cQ) A (xw cI cQ a pl pq nq nm ab lg (nI cnt) (zi kb) ++ fr) t) A) 1 6 A := by
  refine vx_ofW (cc := cX2_fraction) (maxL := 2) (ret := (some .long)) (by decide) rfl ?_
  intro p e s m args below meth c s₁ B hml htab hv
  obtain ⟨rfl, hG, hK, hP, hD, hA⟩ := hv
  have hx := B.exec
  have hb := B.bytes
  have hr := B.returns
  have hts := atoms_spec (ws := wsX2_fraction) B.pre
  have hg : ∀ w ∈ gw, w.before ([.ref (a 0), .int k] : List Value).toArray s = true := fun w h => hts w (List.mem_cons_of_mem _ h)
  have hown : s.vm.findClass RX2 = some m.cls := findClass_of_methodNamed B.named
  have hlocks := B.notSynchronized
  have hS : va_S A s.heap s.heap [] := va_S.rf
  have hl := lv_entry ([.ref (a 0), .int k]) (n := 2) (Nat.le_of_ble_eq_true rfl)
  rw [lg_entry_eq]
  generalize (lg_sl ([.ref (a 0), .int k]) ++ List.replicate (2 - (lg_sl ([.ref (a 0), .int k])).length) Slot.unset).toArray = ls at hl ⊢
  have hl : lv_has ls 2 [(0, .ref (a 0)), (1, .int k)] := hl
  refine lv_aload_n hx hb dX2_fraction_0 rfl (lv_at hl 0 rfl) ?_
  refine va_get (D := D) (ci := 2) (v := .int (zi kb)) (C := RX2) (T := TX2) (N := 5) hx hb hg inX2 hown hK hP 0 rfl rfl 4 (by decide) (hg _ fl_X2_30) (fun _ h9 => h9) rfl dX2_fraction_1 ?_
  refine lv_if_ne (tgt := 17) hx hb dX2_fraction_4 (by decide) (fun c_1 => ?_) (fun c_1 => ?_)
  · replace c_1 := zi_n0 c_1
    refine lv_iload_n hx hb dX2_fraction_17 rfl (lv_at hl 1 rfl) ?_
    refine vp_callSi (W.runS (As := [.int k]) (rest := []) ⟨hx, hb, hml, hown, hg⟩ (c_X2_isPart l k) (va_cwS 1 hg (gw_S ml_X2_80 sm_X2_isPart ini_X2 co_X2_isPart) rfl rfl rfl (by decide +kernel) ⟨Nat.le_of_ble_eq_true rfl, Nat.le_of_ble_eq_true rfl⟩) ⟨tt_blind, (fun U hU hW => ⟨rfl, trivial⟩)⟩ rfl rfl hl.1 rfl (lv_room (Nat.le_of_ble_eq_true rfl)) dX2_fraction_18 ⟨Nat.le_of_ble_eq_true rfl, Nat.le_of_ble_eq_true rfl⟩) (fun r_2 hr_2 => ?_)
    subst hr_2
    refine lv_if_ne (tgt := 34) hx hb dX2_fraction_21 (by decide) (fun c_3 => ?_) (fun c_3 => ?_)
    · replace c_3 := zi_n0 c_3
      refine lv_aload_n hx hb dX2_fraction_34 rfl (lv_at hl 0 rfl) ?_
      refine va_get (D := D) (ci := 2) (v := .ref (a 3)) (C := RX2) (T := TX2) (N := 5) hx hb hg inX2 hown hK hP 0 rfl rfl 2 (by decide) (hg _ fl_X2_22) (fun _ h9 => h9) rfl dX2_fraction_35 ?_
      refine va_getN (D := D) (ci := 1) (v := .long ab) (C := RX1) (T := TX1) (N := 2) hx hb hg inX1 hown hK hP 3 rfl rfl 0 (by decide) (hG.nest fn_X2_124) (fun _ h9 => h9) rfl dX2_fraction_38 ?_
      refine lv_ldc2 (v := 1536796800) hx hb hown (hg _ kl_X2_128) dX2_fraction_41 ?_
      refine lv_iload_n hx hb dX2_fraction_44 rfl (lv_at hl 1 rfl) ?_
      refine vp_callSl (W.runS (As := [.long ab, .long 1536796800, .int k]) (rest := []) ⟨hx, hb, hml, hown, hg⟩ (c_X2_lowestTerms l ab 1536796800 k) (va_cwS 3 hg (gw_S ml_X2_93 sm_X2_lowestTerms ini_X2 co_X2_lowestTerms) rfl rfl rfl (by decide +kernel) ⟨Nat.le_of_ble_eq_true rfl, Nat.le_of_ble_eq_true rfl⟩) ⟨tt_blind, (fun U hU hW => ⟨rfl, trivial⟩)⟩ rfl rfl hl.1 rfl (lv_room (Nat.le_of_ble_eq_true rfl)) dX2_fraction_45 ⟨Nat.le_of_ble_eq_true rfl, Nat.le_of_ble_eq_true rfl⟩) (fun r_4 hr_4 => ?_)
      subst hr_4
      refine vx_ret ?_
      refine W.widen (k := 1) (n := 6) (Nat.zero_le _) (Nat.zero_le _) ?_
      exact W.lret (v := (x_low ab 1536796800 k)) hx hb hr (fun t ht hW => ⟨⟨(x_low ab 1536796800 k), (), rfl, ⟨c_1, c_3, rfl⟩, wd_E.at hK hP hD ht hW⟩, hS.F ht⟩) hS.2.2 dX2_fraction_48
    · replace c_3 := zi_0 c_3
      obtain ⟨sa, hsa⟩ := hG.2.2.2.1 (122, "no such part") (by decide)
      exact vx_throwS (names := ["java/lang/RuntimeException", "java/lang/Exception"]) (A := A) (sa := sa) hx hb hlt hown (by decide) (by decide) (hg _ cl_X2_43) (hg _ ini_IllegalArgumentException) hsa (fun w hw => (xa_47 w hw).elim (hg w) (fun h => hG.nest h)) xg_47 hG.2.2.2.2.1 hG.2.2.2.2.2.1 hS (hl.1.trans hml.symm) dX2_fraction_24 dX2_fraction_27 dX2_fraction_28 dX2_fraction_30 dX2_fraction_33 (fun x hx9 => (htab x hx9).elim) (Nat.le_of_ble_eq_true rfl) (Nat.le_of_ble_eq_true rfl) (Nat.le_of_ble_eq_true rfl) (Nat.le_of_ble_eq_true rfl) hlocks (fun t hal hsz hq => ⟨(), trivial, ⟨Or.inr ⟨rfl, c_1, c_3⟩, (wd_thr hK hP hD hS t hal hsz hq).1⟩, (wd_thr hK hP hD hS t hal hsz hq).2⟩) hS.2.2 (Nat.le_of_ble_eq_true rfl) (Nat.le_of_ble_eq_true rfl)
  · replace c_1 := zi_0 c_1
    obtain ⟨sa, hsa⟩ := hG.2.2.2.1 (120, "no integral is known") (by decide)
    exact vx_throwS (names := ["java/lang/RuntimeException", "java/lang/Exception"]) (A := A) (sa := sa) hx hb hlt hown (by decide) (by decide) (hg _ cl_X2_50) (hg _ ini_IllegalStateException) hsa (fun w hw => (xa_54 w hw).elim (hg w) (fun h => hG.nest h)) xg_54 hG.2.2.2.2.1 hG.2.2.2.2.2.1 hS (hl.1.trans hml.symm) dX2_fraction_7 dX2_fraction_10 dX2_fraction_11 dX2_fraction_13 dX2_fraction_16 (fun x hx9 => (htab x hx9).elim) (Nat.le_of_ble_eq_true rfl) (Nat.le_of_ble_eq_true rfl) (Nat.le_of_ble_eq_true rfl) (Nat.le_of_ble_eq_true rfl) hlocks (fun t hal hsz hq => ⟨(), trivial, ⟨Or.inl ⟨rfl, c_1⟩, (wd_thr hK hP hD hS t hal hsz hq).1⟩, (wd_thr hK hP hD hS t hal hsz hq).2⟩) hS.2.2 (Nat.le_of_ble_eq_true rfl) (Nat.le_of_ble_eq_true rfl)
set_option maxHeartbeats 4000000 in
set_option maxRecDepth 100000 in
theorem c_X2_logarithm (l : Launch) (hlt : l.stackTraces = false) (A : Nat → Prop) (D : va_G) (cI cL cQ : ClassId) (fr : va_W) (a : Nat → Nat) (pl : Nat → Int32) (pq nq : Nat → Nat) (nm : Nat → Nat → Int32) (ab : Int64) (lg : Nat → Int32) (cnt : Nat) (hc : cnt ≤ 3) (kb : Bool) (k : Int32) : vx_Met l yX2_logarithm wsX2_logarithm { frames := 7, cells := 1, slots := 6, locals := 90 } (va_Pc [.ref (a 0), .int k] (wd_B D (ty3 cI cL cQ) A (xw cI cQ a pl pq nq nm ab lg (nI cnt) (zi kb) ++ fr))) (va_Qi (fun r (_ : Unit) => kb = true ∧ ∃ i, i < 5 ∧ gl_prime i = k ∧ r = lg i) (fun _ t => wd_E D (ty3 cI cL cQ) A (xw cI cQ a pl pq nq nm ab lg (nI cnt) (zi kb) ++ fr) t) A) (vx_X (fun _ : Unit => True) (fun E _ t => ((E = "java/lang/IllegalStateException" ∧ kb = false) ∨ (E = "java/lang/IllegalArgumentException" ∧ kb = true ∧ ∀ i, i < 5 → ¬ gl_prime i = k)) ∧ wd_E D (ty3 cI cL cQ) A (xw cI cQ a pl pq nq nm ab lg (nI cnt) (zi kb) ++ fr) t) A) 1 6 A := by
  refine vx_ofW (cc := cX2_logarithm) (maxL := 3) (ret := (some .int)) (by decide) rfl ?_
  intro p e s m args below meth c s₁ B hml htab hv
  obtain ⟨rfl, hG, hK, hP, hD, hA⟩ := hv
  have hx := B.exec
  have hb := B.bytes
  have hr := B.returns
  have hts := atoms_spec (ws := wsX2_logarithm) B.pre
  have hg : ∀ w ∈ gw, w.before ([.ref (a 0), .int k] : List Value).toArray s = true := fun w h => hts w (List.mem_cons_of_mem _ h)
  have hown : s.vm.findClass RX2 = some m.cls := findClass_of_methodNamed B.named
  have hlocks := B.notSynchronized
  have hS : va_S A s.heap s.heap [] := va_S.rf
  have hl := lv_entry ([.ref (a 0), .int k]) (n := 3) (Nat.le_of_ble_eq_true rfl)
  rw [lg_entry_eq]
  generalize (lg_sl ([.ref (a 0), .int k]) ++ List.replicate (3 - (lg_sl ([.ref (a 0), .int k])).length) Slot.unset).toArray = ls at hl ⊢
  have hl : lv_has ls 3 [(0, .ref (a 0)), (1, .int k)] := hl
  obtain ⟨tP, hzP, htP⟩ := hG.2.1
  refine lv_aload_n hx hb dX2_logarithm_0 rfl (lv_at hl 0 rfl) ?_
  refine va_get (D := D) (ci := 2) (v := .int (zi kb)) (C := RX2) (T := TX2) (N := 5) hx hb hg inX2 hown hK hP 0 rfl rfl 4 (by decide) (hg _ fl_X2_30) (fun _ h9 => h9) rfl dX2_logarithm_1 ?_
  refine lv_if_ne (tgt := 17) hx hb dX2_logarithm_4 (by decide) (fun c_1 => ?_) (fun c_1 => ?_)
  · replace c_1 := zi_n0 c_1
    refine lv_iconst (v := 0) hx hb dX2_logarithm_17 (by decide) ?_
    refine lv_istore_n (lv' := [(2, .int 0), (0, .ref (a 0)), (1, .int k)]) hx hb dX2_logarithm_18 rfl hl (by decide) rfl (fun ls hl => ?_)
    have hkb := c_1
    have L19 : ∀ (n9 : Nat) (i : Nat), (i ≤ 5) → (∀ j, j < i → ¬ gl_prime j = k) → (5 - i < n9) → ∀ (ls : Array Slot), lv_has ls 3 [(2, .int (nI i)), (0, .ref (a 0)), (1, .int k)] → W p l e (headSpec wsX2_logarithm { frames := 7, cells := 1, slots := 6, locals := 90 }).room s m ([.ref (a 0), .int k] : List Value).toArray below meth c s.heap [] 0 0 (vx_MQ below (va_Qi (fun r (_ : Unit) => kb = true ∧ ∃ i, i < 5 ∧ gl_prime i = k ∧ r = lg i) (fun _ t => wd_E D (ty3 cI cL cQ) A (xw cI cQ a pl pq nq nm ab lg (nI cnt) (zi kb) ++ fr) t) A) (vx_X (fun _ : Unit => True) (fun E _ t => ((E = "java/lang/IllegalStateException" ∧ kb = false) ∨ (E = "java/lang/IllegalArgumentException" ∧ kb = true ∧ ∀ i, i < 5 → ¬ gl_prime i = k)) ∧ wd_E D (ty3 cI cL cQ) A (xw cI cQ a pl pq nq nm ab lg (nI cnt) (zi kb) ++ fr) t) A) ([.ref (a 0), .int k] : List Value).toArray s 1 6 A) (F0 m 19 ls []) := by
      intro n19
      induction n19 with
      | zero => intro i hi hno h9; exact absurd h9 (by omega)
      | succ n19 ih19 =>
        intro i hi hno h9 ls hl
        refine lv_iload_n hx hb dX2_logarithm_19 rfl (lv_at hl 0 rfl) ?_
        refine va_gets (C := RX2) (n := "PRIMES") (d := "[I") (v := .ref tP) hx hb hzP hS hown (hg _ fl_X2_130) (fun _ h9 => h9) dX2_logarithm_20 ?_
        refine va_tlen (v := 5) hx hb htP hS rfl dX2_logarithm_23 ?_
        refine lv_icmp_ge (tgt := 52) hx hb dX2_logarithm_24 (by decide) (fun c_2 => ?_) (fun c_2 => ?_)
        · replace c_2 : 5 ≤ i := (nI_leI (a := 5) (b := i) (by omega) (by omega)).mp c_2
          obtain ⟨sa, hsa⟩ := hG.2.2.2.1 (136, "not 2, 3, 5, 7 or 11") (by decide)
          exact vx_throwS (names := ["java/lang/RuntimeException", "java/lang/Exception"]) (A := A) (sa := sa) hx hb hlt hown (by decide) (by decide) (hg _ cl_X2_43) (hg _ ini_IllegalArgumentException) hsa (fun w hw => (xa_47 w hw).elim (hg w) (fun h => hG.nest h)) xg_47 hG.2.2.2.2.1 hG.2.2.2.2.2.1 hS (hl.1.trans hml.symm) dX2_logarithm_52 dX2_logarithm_55 dX2_logarithm_56 dX2_logarithm_58 dX2_logarithm_61 (fun x hx9 => (htab x hx9).elim) (Nat.le_of_ble_eq_true rfl) (Nat.le_of_ble_eq_true rfl) (Nat.le_of_ble_eq_true rfl) (Nat.le_of_ble_eq_true rfl) hlocks (fun t hal hsz hq => ⟨(), trivial, ⟨Or.inr ⟨rfl, hkb, fun j hj => hno j (by omega)⟩, (wd_thr hK hP hD hS t hal hsz hq).1⟩, (wd_thr hK hP hD hS t hal hsz hq).2⟩) hS.2.2 (Nat.le_of_ble_eq_true rfl) (Nat.le_of_ble_eq_true rfl)
        · replace c_2 : ¬ 5 ≤ i := fun h => c_2 ((nI_leI (a := 5) (b := i) (by omega) (by omega)).mpr h)
          refine va_gets (C := RX2) (n := "PRIMES") (d := "[I") (v := .ref tP) hx hb hzP hS hown (hg _ fl_X2_130) (fun _ h9 => h9) dX2_logarithm_27 ?_
          refine lv_iload_n hx hb dX2_logarithm_30 rfl (lv_at hl 0 rfl) ?_
          refine va_ti (N := 5) (v := .int (gl_prime i)) hx hb htP hS (vp_in_nI (show i < 5 by omega) (by decide)) (by rw [nI_clamp (show i < 2 ^ 31 by omega)]) dX2_logarithm_31 ?_
          refine lv_iload_n hx hb dX2_logarithm_32 rfl (lv_at hl 2 rfl) ?_
          refine lv_icmp_ne (tgt := 46) hx hb dX2_logarithm_33 (by decide) (fun c_3 => ?_) (fun c_3 => ?_)
          · refine lv_iinc (v := nI (i + 1)) (lv' := [(2, .int (nI (i + 1))), (0, .ref (a 0)), (1, .int k)]) hx hb dX2_logarithm_46 hl (k := 0) rfl (nI_1 i) (by decide) rfl (fun ls hl => ?_)
            refine lv_goto (tgt := 19) hx hb dX2_logarithm_49 (by decide) ?_
            exact ih19 (i + 1) (by omega) (fun j hj => by rcases Nat.lt_or_ge j i with h | h; exact hno j h; rw [show j = i by omega]; exact c_3)  (by omega) ls (lv_sub hl [0, 1, 2] rfl)
          · refine lv_aload_n hx hb dX2_logarithm_36 rfl (lv_at hl 1 rfl) ?_
            refine va_get (D := D) (ci := 2) (v := .ref (a 3)) (C := RX2) (T := TX2) (N := 5) hx hb hg inX2 hown hK hP 0 rfl rfl 2 (by decide) (hg _ fl_X2_22) (fun _ h9 => h9) rfl dX2_logarithm_37 ?_
            refine va_getN (D := D) (ci := 1) (v := .ref (a 4)) (C := RX1) (T := TX1) (N := 2) hx hb hg inX1 hown hK hP 3 rfl rfl 1 (by decide) (hG.nest fn_X2_133) (fun _ h9 => h9) rfl dX2_logarithm_40 ?_
            refine lv_iload_n hx hb dX2_logarithm_43 rfl (lv_at hl 0 rfl) ?_
            refine va_iald (D := D) (n := 5) (f := lg) hx hb hK hP 4 0 rfl rfl (vp_in_nI (show i < 5 by omega) (by decide)) dX2_logarithm_44 ?_
            rw [nI_clamp (show i < 2 ^ 31 by omega)]
            refine vx_ret ?_
            refine W.widen (k := 1) (n := 6) (Nat.zero_le _) (Nat.zero_le _) ?_
            exact W.iret (v := (lg i)) hx hb hr (fun t ht hW => ⟨⟨(lg i), (), rfl, ⟨hkb, i, by omega, c_3, rfl⟩, wd_E.at hK hP hD ht hW⟩, hS.F ht⟩) hS.2.2 dX2_logarithm_45
    exact L19 (5 + 1) 0 (Nat.zero_le _) (fun j hj => absurd hj (Nat.not_lt_zero j))  (Nat.lt_succ_self _) ls (lv_sub hl [0, 1, 2] rfl)
  · replace c_1 := zi_0 c_1
    obtain ⟨sa, hsa⟩ := hG.2.2.2.1 (120, "no integral is known") (by decide)
    exact vx_throwS (names := ["java/lang/RuntimeException", "java/lang/Exception"]) (A := A) (sa := sa) hx hb hlt hown (by decide) (by decide) (hg _ cl_X2_50) (hg _ ini_IllegalStateException) hsa (fun w hw => (xa_54 w hw).elim (hg w) (fun h => hG.nest h)) xg_54 hG.2.2.2.2.1 hG.2.2.2.2.2.1 hS (hl.1.trans hml.symm) dX2_logarithm_7 dX2_logarithm_10 dX2_logarithm_11 dX2_logarithm_13 dX2_logarithm_16 (fun x hx9 => (htab x hx9).elim) (Nat.le_of_ble_eq_true rfl) (Nat.le_of_ble_eq_true rfl) (Nat.le_of_ble_eq_true rfl) (Nat.le_of_ble_eq_true rfl) hlocks (fun t hal hsz hq => ⟨(), trivial, ⟨Or.inl ⟨rfl, c_1⟩, (wd_thr hK hP hD hS t hal hsz hq).1⟩, (wd_thr hK hP hD hS t hal hsz hq).2⟩) hS.2.2 (Nat.le_of_ble_eq_true rfl) (Nat.le_of_ble_eq_true rfl)
def x_vd (x : Int32) (f : Nat → Int32) : Int64 := (x - f 7).toInt64
def x_val (x k : Int32) (f : Nat → Int32) : Int64 := if p_pole f then x_low (p_powers f x.toInt64 * (x_vd x f * x_vd x f * x_vd x f) + p_above f (x_vd x f)) (x_vd x f * x_vd x f * x_vd x f) k else x_low (p_powers f x.toInt64) 1 k
set_option maxHeartbeats 4000000 in
set_option maxRecDepth 100000 in
theorem c_X2_value (l : Launch) (hlt : l.stackTraces = false) (A : Nat → Prop) (D : va_G) (cI cL cQ : ClassId) (fr : va_W) (a : Nat → Nat) (pl : Nat → Int32) (pq nq : Nat → Nat) (nm : Nat → Nat → Int32) (ab : Int64) (lg : Nat → Int32) (cnt : Nat) (hc : cnt ≤ 3) (kn : Int32) (x k : Int32) : vx_Met l yX2_value wsX2_value { frames := 7, cells := 1, slots := 6, locals := 90 } (va_Pc [.ref (a 0), .int x, .int k] (wd_B D (ty3 cI cL cQ) A (xw cI cQ a pl pq nq nm ab lg (nI cnt) kn ++ fr))) (va_Ql (fun r (_ : Unit) => x_in x 6 = true ∧ x_part k = true ∧ (p_pole (nm (x_cnt pl x cnt)) = true → ¬ x_vd x (nm (x_cnt pl x cnt)) = 0) ∧ r = x_val x k (nm (x_cnt pl x cnt))) (fun _ t => wd_E D (ty3 cI cL cQ) A (xw cI cQ a pl pq nq nm ab lg (nI cnt) kn ++ fr) t) A) (vx_X (fun _ : Unit => True) (fun E _ t => ((E = "java/lang/IllegalArgumentException" ∧ (x_in x 6 = false ∨ x_part k = false)) ∨ (E = "java/lang/IllegalStateException" ∧ x_in x 6 = true ∧ x_part k = true ∧ p_pole (nm (x_cnt pl x cnt)) = true ∧ x_vd x (nm (x_cnt pl x cnt)) = 0)) ∧ wd_E D (ty3 cI cL cQ) A (xw cI cQ a pl pq nq nm ab lg (nI cnt) kn ++ fr) t) A) 1 6 A := by
  refine vx_ofW (cc := cX2_value) (maxL := 8) (ret := (some .long)) (by decide) rfl ?_
  intro p e s m args below meth c s₁ B hml htab hv
  obtain ⟨rfl, hG, hK, hP, hD, hA⟩ := hv
  have hx := B.exec
  have hb := B.bytes
  have hr := B.returns
  have hts := atoms_spec (ws := wsX2_value) B.pre
  have hg : ∀ w ∈ gw, w.before ([.ref (a 0), .int x, .int k] : List Value).toArray s = true := fun w h => hts w (List.mem_cons_of_mem _ h)
  have hown : s.vm.findClass RX2 = some m.cls := findClass_of_methodNamed B.named
  have hlocks := B.notSynchronized
  have hS : va_S A s.heap s.heap [] := va_S.rf
  have hl := lv_entry ([.ref (a 0), .int x, .int k]) (n := 8) (Nat.le_of_ble_eq_true rfl)
  rw [lg_entry_eq]
  generalize (lg_sl ([.ref (a 0), .int x, .int k]) ++ List.replicate (8 - (lg_sl ([.ref (a 0), .int x, .int k])).length) Slot.unset).toArray = ls at hl ⊢
  have hl : lv_has ls 8 [(0, .ref (a 0)), (1, .int x), (2, .int k)] := hl
  refine lv_iload_n hx hb dX2_value_0 rfl (lv_at hl 1 rfl) ?_
  refine lv_bipush (v := 6) hx hb dX2_value_1 (by decide) ?_
  refine vp_callSi (W.runS (As := [.int x, .int 6]) (rest := []) ⟨hx, hb, hml, hown, hg⟩ (c_X2_isWithin l x 6) (va_cwS 2 hg (gw_S ml_X2_35 sm_X2_isWithin ini_X2 co_X2_isWithin) rfl rfl rfl (by decide +kernel) ⟨Nat.le_of_ble_eq_true rfl, Nat.le_of_ble_eq_true rfl⟩) ⟨tt_blind, (fun U hU hW => ⟨rfl, trivial⟩)⟩ rfl rfl hl.1 rfl (lv_room (Nat.le_of_ble_eq_true rfl)) dX2_value_3 ⟨Nat.le_of_ble_eq_true rfl, Nat.le_of_ble_eq_true rfl⟩) (fun r_1 hr_1 => ?_)
  subst hr_1
  refine lv_if_eq (tgt := 16) hx hb dX2_value_6 (by decide) (fun c_2 => ?_) (fun c_2 => ?_)
  · replace c_2 := zi_0 c_2
    obtain ⟨sa, hsa⟩ := hG.2.2.2.1 (83, "no such place or part") (by decide)
    exact vx_throwS (names := ["java/lang/RuntimeException", "java/lang/Exception"]) (A := A) (sa := sa) hx hb hlt hown (by decide) (by decide) (hg _ cl_X2_43) (hg _ ini_IllegalArgumentException) hsa (fun w hw => (xa_47 w hw).elim (hg w) (fun h => hG.nest h)) xg_47 hG.2.2.2.2.1 hG.2.2.2.2.2.1 hS (hl.1.trans hml.symm) dX2_value_16 dX2_value_19 dX2_value_20 dX2_value_22 dX2_value_25 (fun x hx9 => (htab x hx9).elim) (Nat.le_of_ble_eq_true rfl) (Nat.le_of_ble_eq_true rfl) (Nat.le_of_ble_eq_true rfl) (Nat.le_of_ble_eq_true rfl) hlocks (fun t hal hsz hq => ⟨(), trivial, ⟨Or.inl ⟨rfl, Or.inl c_2⟩, (wd_thr hK hP hD hS t hal hsz hq).1⟩, (wd_thr hK hP hD hS t hal hsz hq).2⟩) hS.2.2 (Nat.le_of_ble_eq_true rfl) (Nat.le_of_ble_eq_true rfl)
  · replace c_2 := zi_n0 c_2
    refine lv_iload_n hx hb dX2_value_9 rfl (lv_at hl 2 rfl) ?_
    refine vp_callSi (W.runS (As := [.int k]) (rest := []) ⟨hx, hb, hml, hown, hg⟩ (c_X2_isPart l k) (va_cwS 1 hg (gw_S ml_X2_80 sm_X2_isPart ini_X2 co_X2_isPart) rfl rfl rfl (by decide +kernel) ⟨Nat.le_of_ble_eq_true rfl, Nat.le_of_ble_eq_true rfl⟩) ⟨tt_blind, (fun U hU hW => ⟨rfl, trivial⟩)⟩ rfl rfl hl.1 rfl (lv_room (Nat.le_of_ble_eq_true rfl)) dX2_value_10 ⟨Nat.le_of_ble_eq_true rfl, Nat.le_of_ble_eq_true rfl⟩) (fun r_3 hr_3 => ?_)
    subst hr_3
    refine lv_if_ne (tgt := 26) hx hb dX2_value_13 (by decide) (fun c_4 => ?_) (fun c_4 => ?_)
    · replace c_4 := zi_n0 c_4
      refine lv_aload_n hx hb dX2_value_26 rfl (lv_at hl 0 rfl) ?_
      refine va_get (D := D) (ci := 2) (v := .ref (a 2)) (C := RX2) (T := TX2) (N := 5) hx hb hg inX2 hown hK hP 0 rfl rfl 1 (by decide) (hg _ fl_X2_15) (fun _ h9 => h9) rfl dX2_value_27 ?_
      refine lv_aload_n hx hb dX2_value_30 rfl (lv_at hl 0 rfl) ?_
      refine lv_iload_n hx hb dX2_value_31 rfl (lv_at hl 1 rfl) ?_
      have hq_5 := x_cnt_le pl x cnt
      refine vp_callSi (W.runV (As := [.int x]) (rest := [.ref (a 2)]) ⟨hx, hb, hml, hown, hg⟩ (c_X2_pieceAt l D cI cL cQ (a 0) (a 1) [.ref (a 1), .ref (a 2), .ref (a 3), .int (nI cnt), .int kn] rfl cnt rfl hc pl x) (cwV 1 hg (gw_V ml_X2_55 im_X2_pieceAt se_X2_pieceAt ini_X2 co_X2_pieceAt) rfl rfl rfl (by decide +kernel) ⟨Nat.le_of_ble_eq_true rfl, Nat.le_of_ble_eq_true rfl⟩) ⟨pu_B.blind, va_recv hK hP (ci := 2) (q0 := 0) rfl rfl, (fun U hU hW => ⟨rfl, pu_B.at hK (va_P2 hP (i := 0) (j := 1) rfl rfl) hU hW⟩)⟩ rfl rfl hl.1 rfl (lv_room (Nat.le_of_ble_eq_true rfl)) dX2_value_32 ⟨Nat.le_of_ble_eq_true rfl, Nat.le_of_ble_eq_true rfl⟩) (fun r_6 hr_6 => ?_)
      subst hr_6
      refine va_aldq (D := D) (n := 4) (f := (fun j => some (pq j))) hx hb hK hP 2 2 rfl rfl (vp_in_nI (show (x_cnt pl x cnt) < 4 by omega) (by decide)) dX2_value_35 ?_
      rw [nI_clamp (show (x_cnt pl x cnt) < 2 ^ 31 by omega)]
      refine W.eq (g2 := F0 m 36 ls [.ref (pq (x_cnt pl x cnt))]) rfl ?_
      refine lv_astore_n (lv' := [(3, .ref (pq (x_cnt pl x cnt))), (0, .ref (a 0)), (1, .int x), (2, .int k)]) hx hb dX2_value_36 rfl hl (by decide) rfl (fun ls hl => ?_)
      refine lv_aload_n hx hb dX2_value_37 rfl (lv_at hl 0 rfl) ?_
      refine vp_callSi (va_Run.run (va_runVN (As := []) (rest := []) ⟨hx, hb, hml, hown, hg⟩ (c_X0_hasPole l D cI cL cQ (pq (x_cnt pl x cnt)) (nq (x_cnt pl x cnt)) (nm (x_cnt pl x cnt))) ⟨va_cnB 0 hg (gw_C co_X0_hasPole) rfl rfl rfl (hG.1 _ mn_X2_85) (hg _ ini_X0) (by decide +kernel) ⟨Nat.le_of_ble_eq_true rfl, Nat.le_of_ble_eq_true rfl⟩, hg _ im_X0_hasPole, hg _ se_X0_hasPole⟩ ⟨pu_B.blind, va_recv hK hP (ci := 0) (q0 := 5 + 2 * (x_cnt pl x cnt)) rfl (xw_p (by omega)), (fun U hU hW => ⟨rfl, pu_B.at hK (va_P2 hP (xw_p (k := (x_cnt pl x cnt)) (by omega)) (xw_n (k := (x_cnt pl x cnt)) (by omega))) hU hW⟩)⟩ rfl rfl hl.1 rfl (lv_room (Nat.le_of_ble_eq_true rfl)) dX2_value_38 ⟨Nat.le_of_ble_eq_true rfl, Nat.le_of_ble_eq_true rfl⟩)) (fun r_7 hr_7 => ?_)
      subst hr_7
      refine lv_if_ne (tgt := 56) hx hb dX2_value_41 (by decide) (fun c_8 => ?_) (fun c_8 => ?_)
      · replace c_8 := zi_n0 c_8
        refine lv_iload_n hx hb dX2_value_56 rfl (lv_at hl 2 rfl) ?_
        refine lv_aload_n hx hb dX2_value_57 rfl (lv_at hl 0 rfl) ?_
        refine va_getN (D := D) (ci := 0) (v := .ref (nq (x_cnt pl x cnt))) (C := RX0) (T := TX0) (N := 1) hx hb hg inX0 hown hK hP (5 + 2 * (x_cnt pl x cnt)) (xw_p (show (x_cnt pl x cnt) < 4 by omega)) rfl 0 (by decide) (hG.nest fn_X2_74) (fun _ h9 => h9) rfl dX2_value_58 ?_
        refine lv_bipush (v := 7) hx hb dX2_value_61 (by decide) ?_
        refine va_iald (D := D) (n := 8) (f := (nm (x_cnt pl x cnt))) hx hb hK hP (6 + 2 * (x_cnt pl x cnt)) 0 (xw_n (show (x_cnt pl x cnt) < 4 by omega)) rfl (vp_in_nI (show 7 < 8 by decide) (by decide)) dX2_value_63 ?_
        rw [show (7 : Int32).toNatClampNeg = 7 from by decide]
        refine lv_isub hx hb dX2_value_64 ?_
        refine lv_i2l hx hb dX2_value_65 rfl ?_
        refine lv_topl (fun v_9 ev_9 => ?_)
        refine lv_lstore (lv' := [(4, .long v_9), (3, .ref (pq (x_cnt pl x cnt))), (0, .ref (a 0)), (1, .int x), (2, .int k)]) hx hb dX2_value_66 hl (by decide) rfl (fun ls hl => ?_)
        refine lv_lload hx hb dX2_value_68 (lv_at hl 0 rfl) ?_
        refine lv_lconst (v := 0) hx hb dX2_value_70 (by decide) ?_
        refine W.lcmp hx hb dX2_value_71 ?_
        refine lv_if_ne (tgt := 85) hx hb dX2_value_72 (by decide) (fun c_10 => ?_) (fun c_10 => ?_)
        · replace c_10 := fun h => c_10 (lc_eq.mpr h)
          refine lv_lload hx hb dX2_value_85 (lv_at hl 0 rfl) ?_
          refine lv_lload hx hb dX2_value_87 (lv_at hl 0 rfl) ?_
          refine lv_lmul hx hb dX2_value_89 ?_
          refine lv_lload hx hb dX2_value_90 (lv_at hl 0 rfl) ?_
          refine lv_lmul hx hb dX2_value_92 ?_
          refine lv_topl (fun v_11 ev_11 => ?_)
          refine lv_lstore (lv' := [(6, .long v_11), (4, .long v_9), (3, .ref (pq (x_cnt pl x cnt))), (0, .ref (a 0)), (1, .int x), (2, .int k)]) hx hb dX2_value_93 hl (by decide) rfl (fun ls hl => ?_)
          refine lv_aload_n hx hb dX2_value_95 rfl (lv_at hl 2 rfl) ?_
          refine lv_iload_n hx hb dX2_value_96 rfl (lv_at hl 4 rfl) ?_
          refine lv_i2l hx hb dX2_value_97 rfl ?_
          refine vp_callSl (va_Run.run (va_runVN (As := [.long x.toInt64]) (rest := []) ⟨hx, hb, hml, hown, hg⟩ (c_X0_powersAt l D cI cL cQ (pq (x_cnt pl x cnt)) (nq (x_cnt pl x cnt)) (nm (x_cnt pl x cnt)) x.toInt64) ⟨va_cnB 1 hg (gw_C co_X0_powersAt) rfl rfl rfl (hG.1 _ mn_X2_89) (hg _ ini_X0) (by decide +kernel) ⟨Nat.le_of_ble_eq_true rfl, Nat.le_of_ble_eq_true rfl⟩, hg _ im_X0_powersAt, hg _ se_X0_powersAt⟩ ⟨pu_B.blind, va_recv hK hP (ci := 0) (q0 := 5 + 2 * (x_cnt pl x cnt)) rfl (xw_p (by omega)), (fun U hU hW => ⟨rfl, pu_B.at hK (va_P2 hP (xw_p (k := (x_cnt pl x cnt)) (by omega)) (xw_n (k := (x_cnt pl x cnt)) (by omega))) hU hW⟩)⟩ rfl rfl hl.1 rfl (lv_room (Nat.le_of_ble_eq_true rfl)) dX2_value_98 ⟨Nat.le_of_ble_eq_true rfl, Nat.le_of_ble_eq_true rfl⟩)) (fun r_12 hr_12 => ?_)
          subst hr_12
          refine lv_lload hx hb dX2_value_101 (lv_at hl 0 rfl) ?_
          refine lv_lmul hx hb dX2_value_103 ?_
          refine lv_aload_n hx hb dX2_value_104 rfl (lv_at hl 2 rfl) ?_
          refine lv_lload hx hb dX2_value_105 (lv_at hl 1 rfl) ?_
          refine vp_callSl (va_Run.run (va_runVN (As := [.long v_9]) (rest := [.long ((p_powers (nm (x_cnt pl x cnt))  x.toInt64) * v_11)]) ⟨hx, hb, hml, hown, hg⟩ (c_X0_abovePoleAt l D cI cL cQ (pq (x_cnt pl x cnt)) (nq (x_cnt pl x cnt)) (nm (x_cnt pl x cnt)) v_9) ⟨va_cnB 1 hg (gw_C co_X0_abovePoleAt) rfl rfl rfl (hG.1 _ mn_X2_99) (hg _ ini_X0) (by decide +kernel) ⟨Nat.le_of_ble_eq_true rfl, Nat.le_of_ble_eq_true rfl⟩, hg _ im_X0_abovePoleAt, hg _ se_X0_abovePoleAt⟩ ⟨pu_B.blind, va_recv hK hP (ci := 0) (q0 := 5 + 2 * (x_cnt pl x cnt)) rfl (xw_p (by omega)), (fun U hU hW => ⟨rfl, pu_B.at hK (va_P2 hP (xw_p (k := (x_cnt pl x cnt)) (by omega)) (xw_n (k := (x_cnt pl x cnt)) (by omega))) hU hW⟩)⟩ rfl rfl hl.1 rfl (lv_room (Nat.le_of_ble_eq_true rfl)) dX2_value_107 ⟨Nat.le_of_ble_eq_true rfl, Nat.le_of_ble_eq_true rfl⟩)) (fun r_13 hr_13 => ?_)
          subst hr_13
          refine lv_ladd hx hb dX2_value_110 ?_
          refine lv_lload hx hb dX2_value_111 (lv_at hl 0 rfl) ?_
          refine lv_iload_n hx hb dX2_value_113 rfl (lv_at hl 5 rfl) ?_
          refine vp_callSl (W.runS (As := [.long (((p_powers (nm (x_cnt pl x cnt))  x.toInt64) * v_11) + (p_above (nm (x_cnt pl x cnt))  v_9)), .long v_11, .int k]) (rest := []) ⟨hx, hb, hml, hown, hg⟩ (c_X2_lowestTerms l (((p_powers (nm (x_cnt pl x cnt))  x.toInt64) * v_11) + (p_above (nm (x_cnt pl x cnt))  v_9)) v_11 k) (va_cwS 3 hg (gw_S ml_X2_93 sm_X2_lowestTerms ini_X2 co_X2_lowestTerms) rfl rfl rfl (by decide +kernel) ⟨Nat.le_of_ble_eq_true rfl, Nat.le_of_ble_eq_true rfl⟩) ⟨tt_blind, (fun U hU hW => ⟨rfl, trivial⟩)⟩ rfl rfl hl.1 rfl (lv_room (Nat.le_of_ble_eq_true rfl)) dX2_value_114 ⟨Nat.le_of_ble_eq_true rfl, Nat.le_of_ble_eq_true rfl⟩) (fun r_14 hr_14 => ?_)
          subst hr_14
          refine vx_ret ?_
          refine W.widen (k := 1) (n := 6) (Nat.zero_le _) (Nat.zero_le _) ?_
          exact W.lret (v := (x_low (((p_powers (nm (x_cnt pl x cnt))  x.toInt64) * v_11) + (p_above (nm (x_cnt pl x cnt))  v_9)) v_11 k)) hx hb hr (fun t ht hW => ⟨⟨(x_low (((p_powers (nm (x_cnt pl x cnt))  x.toInt64) * v_11) + (p_above (nm (x_cnt pl x cnt))  v_9)) v_11 k), (), rfl, ⟨c_2, c_4, fun _ h9 => c_10 (by rw [ev_9]; exact h9), by rw [x_val, if_pos c_8]; simp only [x_vd]; rw [← ev_9, ← ev_11]⟩, wd_E.at hK hP hD ht hW⟩, hS.F ht⟩) hS.2.2 dX2_value_117
        · replace c_10 := lc_eq.mp c_10
          obtain ⟨sa, hsa⟩ := hG.2.2.2.1 (97, "a pole is there") (by decide)
          exact vx_throwS (names := ["java/lang/RuntimeException", "java/lang/Exception"]) (A := A) (sa := sa) hx hb hlt hown (by decide) (by decide) (hg _ cl_X2_50) (hg _ ini_IllegalStateException) hsa (fun w hw => (xa_54 w hw).elim (hg w) (fun h => hG.nest h)) xg_54 hG.2.2.2.2.1 hG.2.2.2.2.2.1 hS (hl.1.trans hml.symm) dX2_value_75 dX2_value_78 dX2_value_79 dX2_value_81 dX2_value_84 (fun x hx9 => (htab x hx9).elim) (Nat.le_of_ble_eq_true rfl) (Nat.le_of_ble_eq_true rfl) (Nat.le_of_ble_eq_true rfl) (Nat.le_of_ble_eq_true rfl) hlocks (fun t hal hsz hq => ⟨(), trivial, ⟨Or.inr ⟨rfl, c_2, c_4, c_8, by rw [x_vd, ← ev_9]; exact c_10⟩, (wd_thr hK hP hD hS t hal hsz hq).1⟩, (wd_thr hK hP hD hS t hal hsz hq).2⟩) hS.2.2 (Nat.le_of_ble_eq_true rfl) (Nat.le_of_ble_eq_true rfl)
      · replace c_8 := zi_0 c_8
        refine lv_aload_n hx hb dX2_value_44 rfl (lv_at hl 0 rfl) ?_
        refine lv_iload_n hx hb dX2_value_45 rfl (lv_at hl 2 rfl) ?_
        refine lv_i2l hx hb dX2_value_46 rfl ?_
        refine vp_callSl (va_Run.run (va_runVN (As := [.long x.toInt64]) (rest := []) ⟨hx, hb, hml, hown, hg⟩ (c_X0_powersAt l D cI cL cQ (pq (x_cnt pl x cnt)) (nq (x_cnt pl x cnt)) (nm (x_cnt pl x cnt)) x.toInt64) ⟨va_cnB 1 hg (gw_C co_X0_powersAt) rfl rfl rfl (hG.1 _ mn_X2_89) (hg _ ini_X0) (by decide +kernel) ⟨Nat.le_of_ble_eq_true rfl, Nat.le_of_ble_eq_true rfl⟩, hg _ im_X0_powersAt, hg _ se_X0_powersAt⟩ ⟨pu_B.blind, va_recv hK hP (ci := 0) (q0 := 5 + 2 * (x_cnt pl x cnt)) rfl (xw_p (by omega)), (fun U hU hW => ⟨rfl, pu_B.at hK (va_P2 hP (xw_p (k := (x_cnt pl x cnt)) (by omega)) (xw_n (k := (x_cnt pl x cnt)) (by omega))) hU hW⟩)⟩ rfl rfl hl.1 rfl (lv_room (Nat.le_of_ble_eq_true rfl)) dX2_value_47 ⟨Nat.le_of_ble_eq_true rfl, Nat.le_of_ble_eq_true rfl⟩)) (fun r_15 hr_15 => ?_)
        subst hr_15
        refine lv_lconst (v := 1) hx hb dX2_value_50 (by decide) ?_
        refine lv_iload_n hx hb dX2_value_51 rfl (lv_at hl 3 rfl) ?_
        refine vp_callSl (W.runS (As := [.long (p_powers (nm (x_cnt pl x cnt))  x.toInt64), .long 1, .int k]) (rest := []) ⟨hx, hb, hml, hown, hg⟩ (c_X2_lowestTerms l (p_powers (nm (x_cnt pl x cnt))  x.toInt64) 1 k) (va_cwS 3 hg (gw_S ml_X2_93 sm_X2_lowestTerms ini_X2 co_X2_lowestTerms) rfl rfl rfl (by decide +kernel) ⟨Nat.le_of_ble_eq_true rfl, Nat.le_of_ble_eq_true rfl⟩) ⟨tt_blind, (fun U hU hW => ⟨rfl, trivial⟩)⟩ rfl rfl hl.1 rfl (lv_room (Nat.le_of_ble_eq_true rfl)) dX2_value_52 ⟨Nat.le_of_ble_eq_true rfl, Nat.le_of_ble_eq_true rfl⟩) (fun r_16 hr_16 => ?_)
        subst hr_16
        refine vx_ret ?_
        refine W.widen (k := 1) (n := 6) (Nat.zero_le _) (Nat.zero_le _) ?_
        exact W.lret (v := (x_low (p_powers (nm (x_cnt pl x cnt))  x.toInt64) 1 k)) hx hb hr (fun t ht hW => ⟨⟨(x_low (p_powers (nm (x_cnt pl x cnt))  x.toInt64) 1 k), (), rfl, ⟨c_2, c_4, fun h9 => absurd (h9.symm.trans c_8) (by decide), by rw [x_val, if_neg (by rw [c_8]; decide)]⟩, wd_E.at hK hP hD ht hW⟩, hS.F ht⟩) hS.2.2 dX2_value_55
    · replace c_4 := zi_0 c_4
      obtain ⟨sa, hsa⟩ := hG.2.2.2.1 (83, "no such place or part") (by decide)
      exact vx_throwS (names := ["java/lang/RuntimeException", "java/lang/Exception"]) (A := A) (sa := sa) hx hb hlt hown (by decide) (by decide) (hg _ cl_X2_43) (hg _ ini_IllegalArgumentException) hsa (fun w hw => (xa_47 w hw).elim (hg w) (fun h => hG.nest h)) xg_47 hG.2.2.2.2.1 hG.2.2.2.2.2.1 hS (hl.1.trans hml.symm) dX2_value_16 dX2_value_19 dX2_value_20 dX2_value_22 dX2_value_25 (fun x hx9 => (htab x hx9).elim) (Nat.le_of_ble_eq_true rfl) (Nat.le_of_ble_eq_true rfl) (Nat.le_of_ble_eq_true rfl) (Nat.le_of_ble_eq_true rfl) hlocks (fun t hal hsz hq => ⟨(), trivial, ⟨Or.inl ⟨rfl, Or.inr c_4⟩, (wd_thr hK hP hD hS t hal hsz hq).1⟩, (wd_thr hK hP hD hS t hal hsz hq).2⟩) hS.2.2 (Nat.le_of_ble_eq_true rfl) (Nat.le_of_ble_eq_true rfl)
