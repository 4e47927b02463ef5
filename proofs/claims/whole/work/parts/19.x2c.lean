def q_l (x y : Int32) : Int32 := if y < x then y else x
def q_r (x y : Int32) : Int32 := if x < y then y else x
def q_z (x y : Int32) : Int32 := if y < x then -1 else 1
theorem in9_of {x : Int32} (h : x_end x = true) : in9 x := by
  simp only [x_end, x_in, x_less, Bool.or_eq_true, Bool.and_eq_true, Bool.not_eq_true', decide_eq_false_iff_not, decide_eq_true_eq] at h
  rcases h with ⟨h1, h2⟩ | h | h
  · rw [Int32.lt_iff_toInt_lt] at h1 h2
    have e1 : (-(6 : Int32)).toInt = -6 := by decide
    have e2 : (6 : Int32).toInt = 6 := by decide
    rw [e1] at h1
    rw [e2] at h2
    exact ⟨by omega, by omega⟩
  · rw [h]; exact ⟨by decide, by decide⟩
  · rw [h]; exact ⟨by decide, by decide⟩
set_option maxHeartbeats 4000000 in
set_option maxRecDepth 100000 in
theorem c_X2_integral (l : Launch) (hlt : l.stackTraces = false) (A : Nat → Prop) (D : va_G) (cI cL cQ : ClassId) (fr : va_W) (a : Nat → Nat) (pl : Nat → Int32) (pq nq : Nat → Nat) (nm : Nat → Nat → Int32) (ab : Int64) (lg : Nat → Int32) (cnt : Nat) (hc : cnt ≤ 3) (kn : Int32) (x y : Int32) (hp9 : ∀ j, j < cnt → in9 (pl j)) (hn6 : ∀ j, j ≤ cnt → in6 (nm j 7)) : vx_Met l yX2_integral wsX2_integral { frames := 7, cells := 1, slots := 6, locals := 120 } (va_Pc [.ref (a 0), .int x, .int y] (wd_B D (ty3 cI cL cQ) A (xw cI cQ a pl pq nq nm ab lg (nI cnt) kn ++ fr))) (va_Qi (fun r (u : Int64 × (Nat → Int32) × Bool) => (x_end x && x_end y) = true ∧ r = zi u.2.2 ∧ ((a_fold (q_l x y) (q_r x y) (q_z x y) pl nm cnt (cnt + 1) = some (u.1, u.2.1) ∧ u.2.2 = true) ∨ (a_fold (q_l x y) (q_r x y) (q_z x y) pl nm cnt (cnt + 1) = none ∧ u.2.2 = false))) (fun u t => wd_E D (ty3 cI cL cQ) A (xw cI cQ a pl pq nq nm u.1 u.2.1 (nI cnt) (zi u.2.2) ++ fr) t) A) (vx_X (fun _ : Unit => True) (fun E _ t => (E = "java/lang/IllegalArgumentException" ∧ (x_end x && x_end y) = false) ∧ wd_E D (ty3 cI cL cQ) A (xw cI cQ a pl pq nq nm ab lg (nI cnt) kn ++ fr) t) A) 1 6 A := by
  refine vx_ofW (cc := cX2_integral) (maxL := 3) (ret := (some .boolean)) (by decide) rfl ?_
  intro p e s m args below meth c s₁ B hml htab hv
  obtain ⟨rfl, hG, hK, hP, hD, hA⟩ := hv
  have hx := B.exec
  have hb := B.bytes
  have hr := B.returns
  have hts := atoms_spec (ws := wsX2_integral) B.pre
  have hg : ∀ w ∈ gw, w.before ([.ref (a 0), .int x, .int y] : List Value).toArray s = true := fun w h => hts w (List.mem_cons_of_mem _ h)
  have hown : s.vm.findClass RX2 = some m.cls := findClass_of_methodNamed B.named
  have hlocks := B.notSynchronized
  have hS : va_S A s.heap s.heap [] := va_S.rf
  have hl := lv_entry ([.ref (a 0), .int x, .int y]) (n := 3) (Nat.le_of_ble_eq_true rfl)
  rw [lg_entry_eq]
  generalize (lg_sl ([.ref (a 0), .int x, .int y]) ++ List.replicate (3 - (lg_sl ([.ref (a 0), .int x, .int y])).length) Slot.unset).toArray = ls at hl ⊢
  have hl : lv_has ls 3 [(0, .ref (a 0)), (1, .int x), (2, .int y)] := hl
  refine lv_iload_n hx hb dX2_integral_0 rfl (lv_at hl 1 rfl) ?_
  refine vp_callSi (W.runS (As := [.int x]) (rest := []) ⟨hx, hb, hml, hown, hg⟩ (c_X2_isEnd l x) (va_cwS 1 hg (gw_S ml_X2_102 sm_X2_isEnd ini_X2 co_X2_isEnd) rfl rfl rfl (by decide +kernel) ⟨Nat.le_of_ble_eq_true rfl, Nat.le_of_ble_eq_true rfl⟩) ⟨tt_blind, (fun U hU hW => ⟨rfl, trivial⟩)⟩ rfl rfl hl.1 rfl (lv_room (Nat.le_of_ble_eq_true rfl)) dX2_integral_1 ⟨Nat.le_of_ble_eq_true rfl, Nat.le_of_ble_eq_true rfl⟩) (fun r_1 hr_1 => ?_)
  subst hr_1
  refine lv_if_eq (tgt := 14) hx hb dX2_integral_4 (by decide) (fun c_2 => ?_) (fun c_2 => ?_)
  · replace c_2 := zi_0 c_2
    obtain ⟨sa, hsa⟩ := hG.2.2.2.1 (105, "no such ends") (by decide)
    exact vx_throwS (names := ["java/lang/RuntimeException", "java/lang/Exception"]) (A := A) (sa := sa) hx hb hlt hown (by decide) (by decide) (hg _ cl_X2_43) (hg _ ini_IllegalArgumentException) hsa (fun w hw => (xa_47 w hw).elim (hg w) (fun h => hG.nest h)) xg_47 hG.2.2.2.2.1 hG.2.2.2.2.2.1 hS (hl.1.trans hml.symm) dX2_integral_14 dX2_integral_17 dX2_integral_18 dX2_integral_20 dX2_integral_23 (fun x hx9 => (htab x hx9).elim) (Nat.le_of_ble_eq_true rfl) (Nat.le_of_ble_eq_true rfl) (Nat.le_of_ble_eq_true rfl) (Nat.le_of_ble_eq_true rfl) hlocks (fun t hal hsz hq => ⟨(), trivial, ⟨⟨rfl, by simp [c_2]⟩, (wd_thr hK hP hD hS t hal hsz hq).1⟩, (wd_thr hK hP hD hS t hal hsz hq).2⟩) hS.2.2 (Nat.le_of_ble_eq_true rfl) (Nat.le_of_ble_eq_true rfl)
  · replace c_2 := zi_n0 c_2
    refine lv_iload_n hx hb dX2_integral_7 rfl (lv_at hl 2 rfl) ?_
    refine vp_callSi (W.runS (As := [.int y]) (rest := []) ⟨hx, hb, hml, hown, hg⟩ (c_X2_isEnd l y) (va_cwS 1 hg (gw_S ml_X2_102 sm_X2_isEnd ini_X2 co_X2_isEnd) rfl rfl rfl (by decide +kernel) ⟨Nat.le_of_ble_eq_true rfl, Nat.le_of_ble_eq_true rfl⟩) ⟨tt_blind, (fun U hU hW => ⟨rfl, trivial⟩)⟩ rfl rfl hl.1 rfl (lv_room (Nat.le_of_ble_eq_true rfl)) dX2_integral_8 ⟨Nat.le_of_ble_eq_true rfl, Nat.le_of_ble_eq_true rfl⟩) (fun r_3 hr_3 => ?_)
    subst hr_3
    refine lv_if_ne (tgt := 24) hx hb dX2_integral_11 (by decide) (fun c_4 => ?_) (fun c_4 => ?_)
    · replace c_4 := zi_n0 c_4
      refine lv_aload_n hx hb dX2_integral_24 rfl (lv_at hl 0 rfl) ?_
      refine lv_aload_n hx hb dX2_integral_25 rfl (lv_at hl 0 rfl) ?_
      refine lv_iload_n hx hb dX2_integral_26 rfl (lv_at hl 1 rfl) ?_
      refine lv_iload_n hx hb dX2_integral_27 rfl (lv_at hl 2 rfl) ?_
      refine va_mmin hx hb (by rw [hml]; exact hl.1.symm) hown (hg _ ml_X2_107) (hg _ sm_Mmin) (hg _ ini_J9) (hg _ co_Mmin) (Nat.le_of_ble_eq_true rfl) (Nat.le_of_ble_eq_true rfl) (Nat.le_of_ble_eq_true rfl) (Nat.le_of_ble_eq_true rfl) dX2_integral_28 ?_
      refine lv_iload_n hx hb dX2_integral_31 rfl (lv_at hl 1 rfl) ?_
      refine lv_iload_n hx hb dX2_integral_32 rfl (lv_at hl 2 rfl) ?_
      refine va_mmax hx hb (by rw [hml]; exact hl.1.symm) hown (hg _ ml_X2_113) (hg _ sm_Mmax) (hg _ ini_J9) (hg _ co_Mmax) (Nat.le_of_ble_eq_true rfl) (Nat.le_of_ble_eq_true rfl) (Nat.le_of_ble_eq_true rfl) (Nat.le_of_ble_eq_true rfl) dX2_integral_33 ?_
      refine W.eq (g2 := F0 m 36 ls [.int (q_r x y), .int (q_l x y), .ref (a 0), .ref (a 0)]) rfl ?_
      have hcut : W p l e (headSpec wsX2_integral { frames := 7, cells := 1, slots := 6, locals := 120 }).room s m ([.ref (a 0), .int x, .int y] : List Value).toArray below meth c s.heap [] 0 0 (vx_MQ below (va_Qi (fun r (u : Int64 × (Nat → Int32) × Bool) => (x_end x && x_end y) = true ∧ r = zi u.2.2 ∧ ((a_fold (q_l x y) (q_r x y) (q_z x y) pl nm cnt (cnt + 1) = some (u.1, u.2.1) ∧ u.2.2 = true) ∨ (a_fold (q_l x y) (q_r x y) (q_z x y) pl nm cnt (cnt + 1) = none ∧ u.2.2 = false))) (fun u t => wd_E D (ty3 cI cL cQ) A (xw cI cQ a pl pq nq nm u.1 u.2.1 (nI cnt) (zi u.2.2) ++ fr) t) A) (vx_X (fun _ : Unit => True) (fun E _ t => (E = "java/lang/IllegalArgumentException" ∧ (x_end x && x_end y) = false) ∧ wd_E D (ty3 cI cL cQ) A (xw cI cQ a pl pq nq nm ab lg (nI cnt) kn ++ fr) t) A) ([.ref (a 0), .int x, .int y] : List Value).toArray s 1 6 A) (F0 m 46 ls [.int (q_z x y), .int (q_r x y), .int (q_l x y), .ref (a 0), .ref (a 0)]) := by
        refine va_calli (va_runV (As := [.int (q_l x y), .int (q_r x y), .int (q_z x y)]) (rest := [.ref (a 0)]) ⟨hx, hb, hml, hown, hg⟩ (c_X2_addParts l A D cI cL cQ fr a pl pq nq nm ab lg cnt hc kn (q_l x y) (q_r x y) (q_z x y) (by unfold q_l; split; exact in9_of c_4; exact in9_of c_2) (by unfold q_r; split; exact in9_of c_4; exact in9_of c_2) hp9 hn6) (cwV 3 hg (gw_V ml_X2_116 im_X2_addParts se_X2_addParts ini_X2 co_X2_addParts) rfl rfl rfl (by decide +kernel) ⟨Nat.le_of_ble_eq_true rfl, Nat.le_of_ble_eq_true rfl⟩) ⟨wd_B.blind, va_recv hK hP (ci := 2) (q0 := 0) rfl rfl, (fun U hU hW => ⟨rfl, wd_B.at hG hK hP hD hS hA hU hW⟩)⟩ rfl rfl hl.1 rfl (lv_room (Nat.le_of_ble_eq_true rfl)) dX2_integral_46 ⟨Nat.le_of_ble_eq_true rfl, Nat.le_of_ble_eq_true rfl⟩) hS (fun q _ h => h) (fun q h => h) (fun r_5 u t H1 locs ht hvm hr_5 hB hz1 hk1 hS => ?_)
        obtain ⟨hK, hP, hD⟩ := hB.back ht hvm
        generalize H1 = H at hP hS ⊢
        have hP : va_P D vwCl (xw cI cQ a pl pq nq nm u.1 u.2 (nI cnt) kn ++ fr) H := hP
        have hD : va_D A (xw cI cQ a pl pq nq nm u.1 u.2 (nI cnt) kn ++ fr) := hD
        rcases hr_5 with ⟨hfo, rfl⟩ | ⟨hfo, rfl⟩
        · refine va_put (D := D) (ci := 2) (v := .int 1) (ty := .boolean) (C := RX2) (T := TX2) (N := 5) hx hb hg inX2 tyX2 tyX2_ok nmX2 hown hK hP hD hS 0 rfl rfl 4 (by decide) (hg _ fl_X2_30) (fun _ h9 => h9) rfl (by decide +kernel) rfl rfl (Nat.le_of_ble_eq_true rfl) dX2_integral_49 (fun H locs hP hD hS => ?_)
          have hP : va_P D vwCl (xw cI cQ a pl pq nq nm u.1 u.2 (nI cnt) 1 ++ fr) H := hP
          have hD : va_D A (xw cI cQ a pl pq nq nm u.1 u.2 (nI cnt) 1 ++ fr) := hD
          refine lv_aload_n hx hb dX2_integral_52 rfl (lv_at hl 0 rfl) ?_
          refine va_get (D := D) (ci := 2) (v := .int 1) (C := RX2) (T := TX2) (N := 5) hx hb hg inX2 hown hK hP 0 rfl rfl 4 (by decide) (hg _ fl_X2_30) (fun _ h9 => h9) rfl dX2_integral_53 ?_
          refine vx_ret ?_
          refine W.widen (k := 1) (n := 6) (Nat.zero_le _) (Nat.zero_le _) ?_
          exact W.zret (v := 1) hx hb hr rfl (fun t ht hW => ⟨⟨1, (u.1, u.2, true), rfl, ⟨by rw [c_2, c_4]; rfl, rfl, Or.inl ⟨hfo, rfl⟩⟩, wd_E.at hK hP hD ht hW⟩, hS.F ht⟩) hS.2.2 dX2_integral_56
        · refine va_put (D := D) (ci := 2) (v := .int 0) (ty := .boolean) (C := RX2) (T := TX2) (N := 5) hx hb hg inX2 tyX2 tyX2_ok nmX2 hown hK hP hD hS 0 rfl rfl 4 (by decide) (hg _ fl_X2_30) (fun _ h9 => h9) rfl (by decide +kernel) rfl rfl (Nat.le_of_ble_eq_true rfl) dX2_integral_49 (fun H locs hP hD hS => ?_)
          have hP : va_P D vwCl (xw cI cQ a pl pq nq nm u.1 u.2 (nI cnt) 0 ++ fr) H := hP
          have hD : va_D A (xw cI cQ a pl pq nq nm u.1 u.2 (nI cnt) 0 ++ fr) := hD
          refine lv_aload_n hx hb dX2_integral_52 rfl (lv_at hl 0 rfl) ?_
          refine va_get (D := D) (ci := 2) (v := .int 0) (C := RX2) (T := TX2) (N := 5) hx hb hg inX2 hown hK hP 0 rfl rfl 4 (by decide) (hg _ fl_X2_30) (fun _ h9 => h9) rfl dX2_integral_53 ?_
          refine vx_ret ?_
          refine W.widen (k := 1) (n := 6) (Nat.zero_le _) (Nat.zero_le _) ?_
          exact W.zret (v := 0) hx hb hr rfl (fun t ht hW => ⟨⟨0, (u.1, u.2, false), rfl, ⟨by rw [c_2, c_4]; rfl, rfl, Or.inr ⟨hfo, rfl⟩⟩, wd_E.at hK hP hD ht hW⟩, hS.F ht⟩) hS.2.2 dX2_integral_56
      refine lv_iload_n hx hb dX2_integral_36 rfl (lv_at hl 1 rfl) ?_
      refine lv_iload_n hx hb dX2_integral_37 rfl (lv_at hl 2 rfl) ?_
      refine lv_icmp_gt (tgt := 45) hx hb dX2_integral_38 (by decide) (fun c_6 => ?_) (fun c_6 => ?_)
      · refine lv_iconst (v := (-1)) hx hb dX2_integral_45 (by decide) ?_
        have ez : q_z x y = (-1) := by rw [q_z, if_pos c_6]
        exact W.eq (by rw [ez]) hcut
      · refine lv_iconst (v := 1) hx hb dX2_integral_41 (by decide) ?_
        refine lv_goto (tgt := 46) hx hb dX2_integral_42 (by decide) ?_
        have ez : q_z x y = 1 := by rw [q_z, if_neg c_6]
        exact W.eq (by rw [ez]) hcut
    · replace c_4 := zi_0 c_4
      obtain ⟨sa, hsa⟩ := hG.2.2.2.1 (105, "no such ends") (by decide)
      exact vx_throwS (names := ["java/lang/RuntimeException", "java/lang/Exception"]) (A := A) (sa := sa) hx hb hlt hown (by decide) (by decide) (hg _ cl_X2_43) (hg _ ini_IllegalArgumentException) hsa (fun w hw => (xa_47 w hw).elim (hg w) (fun h => hG.nest h)) xg_47 hG.2.2.2.2.1 hG.2.2.2.2.2.1 hS (hl.1.trans hml.symm) dX2_integral_14 dX2_integral_17 dX2_integral_18 dX2_integral_20 dX2_integral_23 (fun x hx9 => (htab x hx9).elim) (Nat.le_of_ble_eq_true rfl) (Nat.le_of_ble_eq_true rfl) (Nat.le_of_ble_eq_true rfl) (Nat.le_of_ble_eq_true rfl) hlocks (fun t hal hsz hq => ⟨(), trivial, ⟨⟨rfl, by simp [c_2, c_4]⟩, (wd_thr hK hP hD hS t hal hsz hq).1⟩, (wd_thr hK hP hD hS t hal hsz hq).2⟩) hS.2.2 (Nat.le_of_ble_eq_true rfl) (Nat.le_of_ble_eq_true rfl)
set_option maxHeartbeats 4000000 in
set_option maxRecDepth 100000 in
theorem c_X2_cut (l : Launch) (hlt : l.stackTraces = false) (A : Nat → Prop) (D : va_G) (cI cL cQ : ClassId) (fr : va_W) (a : Nat → Nat) (pl : Nat → Int32) (pq nq : Nat → Nat) (nm : Nat → Nat → Int32) (ab : Int64) (lg : Nat → Int32) (cnt : Nat) (hc : cnt ≤ 3) (kn : Int32) (x : Int32) : vx_Met l yX2_cut wsX2_cut { frames := 7, cells := 1, slots := 6, locals := 90 } (va_Pc [.ref (a 0), .int x] (wd_B D (ty3 cI cL cQ) A (xw cI cQ a pl pq nq nm ab lg (nI cnt) kn ++ fr))) (va_Qi (fun r (u : (Nat → Int32) × (Nat → Nat → Int32)) => x_in x 6 = true ∧ x_cut pl x cnt = false ∧ cnt < 3 ∧ r = nI (x_cnt pl x cnt) ∧ (∀ j, j < cnt + 1 → u.1 j = if j < x_cnt pl x cnt then pl j else if j = x_cnt pl x cnt then x else pl (j - 1)) ∧ (∀ j, j < cnt + 2 → u.2 j = if j ≤ x_cnt pl x cnt then nm j else nm (j - 1))) (fun u t => wd_E D (ty3 cI cL cQ) A (xw cI cQ a u.1 pq nq u.2 ab lg (nI (cnt + 1)) kn ++ fr) t) A) (vx_X (fun _ : Unit => True) (fun E _ t => ((E = "java/lang/IllegalArgumentException" ∧ (x_in x 6 && !x_cut pl x cnt) = false) ∨ (E = "java/lang/IllegalStateException" ∧ (x_in x 6 && !x_cut pl x cnt) = true ∧ cnt = 3)) ∧ wd_E D (ty3 cI cL cQ) A (xw cI cQ a pl pq nq nm ab lg (nI cnt) kn ++ fr) t) A) 1 6 A := by
  refine vx_ofW (cc := cX2_cut) (maxL := 4) (ret := (some .int)) (by decide) rfl ?_
  intro p e s m args below meth c s₁ B hml htab hv
  obtain ⟨rfl, hG, hK, hP, hD, hA⟩ := hv
  have hx := B.exec
  have hb := B.bytes
  have hr := B.returns
  have hts := atoms_spec (ws := wsX2_cut) B.pre
  have hg : ∀ w ∈ gw, w.before ([.ref (a 0), .int x] : List Value).toArray s = true := fun w h => hts w (List.mem_cons_of_mem _ h)
  have hown : s.vm.findClass RX2 = some m.cls := findClass_of_methodNamed B.named
  have hlocks := B.notSynchronized
  have hS : va_S A s.heap s.heap [] := va_S.rf
  have hl := lv_entry ([.ref (a 0), .int x]) (n := 4) (Nat.le_of_ble_eq_true rfl)
  rw [lg_entry_eq]
  generalize (lg_sl ([.ref (a 0), .int x]) ++ List.replicate (4 - (lg_sl ([.ref (a 0), .int x])).length) Slot.unset).toArray = ls at hl ⊢
  have hl : lv_has ls 4 [(0, .ref (a 0)), (1, .int x)] := hl
  refine lv_iload_n hx hb dX2_cut_0 rfl (lv_at hl 1 rfl) ?_
  refine lv_bipush (v := 6) hx hb dX2_cut_1 (by decide) ?_
  refine vp_callSi (W.runS (As := [.int x, .int 6]) (rest := []) ⟨hx, hb, hml, hown, hg⟩ (c_X2_isWithin l x 6) (va_cwS 2 hg (gw_S ml_X2_35 sm_X2_isWithin ini_X2 co_X2_isWithin) rfl rfl rfl (by decide +kernel) ⟨Nat.le_of_ble_eq_true rfl, Nat.le_of_ble_eq_true rfl⟩) ⟨tt_blind, (fun U hU hW => ⟨rfl, trivial⟩)⟩ rfl rfl hl.1 rfl (lv_room (Nat.le_of_ble_eq_true rfl)) dX2_cut_3 ⟨Nat.le_of_ble_eq_true rfl, Nat.le_of_ble_eq_true rfl⟩) (fun r_1 hr_1 => ?_)
  subst hr_1
  refine lv_if_eq (tgt := 17) hx hb dX2_cut_6 (by decide) (fun c_2 => ?_) (fun c_2 => ?_)
  · replace c_2 := zi_0 c_2
    obtain ⟨sa, hsa⟩ := hG.2.2.2.1 (45, "no place for a cut") (by decide)
    exact vx_throwS (names := ["java/lang/RuntimeException", "java/lang/Exception"]) (A := A) (sa := sa) hx hb hlt hown (by decide) (by decide) (hg _ cl_X2_43) (hg _ ini_IllegalArgumentException) hsa (fun w hw => (xa_47 w hw).elim (hg w) (fun h => hG.nest h)) xg_47 hG.2.2.2.2.1 hG.2.2.2.2.2.1 hS (hl.1.trans hml.symm) dX2_cut_17 dX2_cut_20 dX2_cut_21 dX2_cut_23 dX2_cut_26 (fun x hx9 => (htab x hx9).elim) (Nat.le_of_ble_eq_true rfl) (Nat.le_of_ble_eq_true rfl) (Nat.le_of_ble_eq_true rfl) (Nat.le_of_ble_eq_true rfl) hlocks (fun t hal hsz hq => ⟨(), trivial, ⟨Or.inl ⟨rfl, by simp [c_2]⟩, (wd_thr hK hP hD hS t hal hsz hq).1⟩, (wd_thr hK hP hD hS t hal hsz hq).2⟩) hS.2.2 (Nat.le_of_ble_eq_true rfl) (Nat.le_of_ble_eq_true rfl)
  · replace c_2 := zi_n0 c_2
    refine lv_aload_n hx hb dX2_cut_9 rfl (lv_at hl 0 rfl) ?_
    refine lv_iload_n hx hb dX2_cut_10 rfl (lv_at hl 1 rfl) ?_
    refine vp_callSi (W.runV (As := [.int x]) (rest := []) ⟨hx, hb, hml, hown, hg⟩ (c_X2_isCut l D cI cL cQ (a 0) (a 1) [.ref (a 1), .ref (a 2), .ref (a 3), .int (nI cnt), .int kn] rfl cnt rfl hc pl x) (cwV 1 hg (gw_V ml_X2_39 im_X2_isCut se_X2_isCut ini_X2 co_X2_isCut) rfl rfl rfl (by decide +kernel) ⟨Nat.le_of_ble_eq_true rfl, Nat.le_of_ble_eq_true rfl⟩) ⟨pu_B.blind, va_recv hK hP (ci := 2) (q0 := 0) rfl rfl, (fun U hU hW => ⟨rfl, pu_B.at hK (va_P2 hP (i := 0) (j := 1) rfl rfl) hU hW⟩)⟩ rfl rfl hl.1 rfl (lv_room (Nat.le_of_ble_eq_true rfl)) dX2_cut_11 ⟨Nat.le_of_ble_eq_true rfl, Nat.le_of_ble_eq_true rfl⟩) (fun r_3 hr_3 => ?_)
    subst hr_3
    refine lv_if_eq (tgt := 27) hx hb dX2_cut_14 (by decide) (fun c_4 => ?_) (fun c_4 => ?_)
    · replace c_4 := zi_0 c_4
      refine lv_aload_n hx hb dX2_cut_27 rfl (lv_at hl 0 rfl) ?_
      refine va_get (D := D) (ci := 2) (v := .int (nI cnt)) (C := RX2) (T := TX2) (N := 5) hx hb hg inX2 hown hK hP 0 rfl rfl 3 (by decide) (hg _ fl_X2_26) (fun _ h9 => h9) rfl dX2_cut_28 ?_
      refine lv_iconst (v := 3) hx hb dX2_cut_31 (by decide) ?_
      refine lv_icmp_lt (tgt := 45) hx hb dX2_cut_32 (by decide) (fun c_5 => ?_) (fun c_5 => ?_)
      · replace c_5 : cnt < 3 := (nI_ltI (a := cnt) (b := 3) (by omega) (by omega)).mp c_5
        have hi6 := c_2
        have hcu := c_4
        rcases (show cnt = 0 ∨ cnt = 1 ∨ cnt = 2 by omega) with rfl | rfl | rfl
        · have hP : va_P D vwCl (xw cI cQ a pl pq nq nm ab lg 0 kn ++ fr) s.heap := hP
          have hD : va_D A (xw cI cQ a pl pq nq nm ab lg 0 kn ++ fr) := hD
          refine lv_aload_n hx hb dX2_cut_45 rfl (lv_at hl 0 rfl) ?_
          refine lv_iload_n hx hb dX2_cut_46 rfl (lv_at hl 1 rfl) ?_
          refine vp_callSi (W.runV (As := [.int x]) (rest := []) ⟨hx, hb, hml, hown, hg⟩ (c_X2_pieceAt l D cI cL cQ (a 0) (a 1) [.ref (a 1), .ref (a 2), .ref (a 3), .int (0), .int kn] rfl 0 rfl hc pl x) (cwV 1 hg (gw_V ml_X2_55 im_X2_pieceAt se_X2_pieceAt ini_X2 co_X2_pieceAt) rfl rfl rfl (by decide +kernel) ⟨Nat.le_of_ble_eq_true rfl, Nat.le_of_ble_eq_true rfl⟩) ⟨pu_B.blind, va_recv hK hP (ci := 2) (q0 := 0) rfl rfl, (fun U hU hW => ⟨rfl, pu_B.at hK (va_P2 hP (i := 0) (j := 1) rfl rfl) hU hW⟩)⟩ rfl rfl hl.1 rfl (lv_room (Nat.le_of_ble_eq_true rfl)) dX2_cut_47 ⟨Nat.le_of_ble_eq_true rfl, Nat.le_of_ble_eq_true rfl⟩) (fun r_6 hr_6 => ?_)
          subst hr_6
          have hkl := x_cnt_le pl x 0
          rcases (show x_cnt pl x 0 = 0 by omega) with hk
          · rw [hk]
            refine W.eq (g2 := F0 m 50 ls [.int 0]) rfl ?_
            refine lv_istore_n (lv' := [(2, .int 0), (0, .ref (a 0)), (1, .int x)]) hx hb dX2_cut_50 rfl hl (by decide) rfl (fun ls hl => ?_)
            refine lv_aload_n hx hb dX2_cut_51 rfl (lv_at hl 1 rfl) ?_
            refine va_get (D := D) (ci := 2) (v := .int 0) (C := RX2) (T := TX2) (N := 5) hx hb hg inX2 hown hK hP 0 rfl rfl 3 (by decide) (hg _ fl_X2_26) (fun _ h9 => h9) rfl dX2_cut_52 ?_
            refine lv_istore_n (lv' := [(3, .int 0), (2, .int 0), (0, .ref (a 0)), (1, .int x)]) hx hb dX2_cut_55 rfl hl (by decide) rfl (fun ls hl => ?_)
            refine lv_iload_n hx hb dX2_cut_56 rfl (lv_at hl 0 rfl) ?_
            refine lv_iload_n hx hb dX2_cut_57 rfl (lv_at hl 1 rfl) ?_
            refine lv_icmp_le (tgt := 81) hx hb dX2_cut_58 (by decide) (fun _ => ?_) (fun c_7 => absurd c_7 (by decide))
            refine lv_aload_n hx hb dX2_cut_81 rfl (lv_at hl 2 rfl) ?_
            refine va_get (D := D) (ci := 2) (v := .int 0) (C := RX2) (T := TX2) (N := 5) hx hb hg inX2 hown hK hP 0 rfl rfl 3 (by decide) (hg _ fl_X2_26) (fun _ h9 => h9) rfl dX2_cut_82 ?_
            refine lv_istore_n (lv' := [(3, .int 0), (2, .int 0), (0, .ref (a 0)), (1, .int x)]) hx hb dX2_cut_85 rfl hl (by decide) rfl (fun ls hl => ?_)
            refine lv_iload_n hx hb dX2_cut_86 rfl (lv_at hl 0 rfl) ?_
            refine lv_iload_n hx hb dX2_cut_87 rfl (lv_at hl 1 rfl) ?_
            refine lv_icmp_lt (tgt := 114) hx hb dX2_cut_88 (by decide) (fun c_8 => absurd c_8 (by decide)) (fun _ => ?_)
            refine lv_aload_n hx hb dX2_cut_91 rfl (lv_at hl 2 rfl) ?_
            refine va_get (D := D) (ci := 2) (v := .ref (a 2)) (C := RX2) (T := TX2) (N := 5) hx hb hg inX2 hown hK hP 0 rfl rfl 1 (by decide) (hg _ fl_X2_15) (fun _ h9 => h9) rfl dX2_cut_92 ?_
            refine lv_iload_n hx hb dX2_cut_95 rfl (lv_at hl 0 rfl) ?_
            refine lv_iconst (v := 1) hx hb dX2_cut_96 (by decide) ?_
            refine lv_iadd hx hb dX2_cut_97 ?_
            rw [show (0 : Int32) + 1 = 1 from by decide]
            refine va_aldq (D := D) (n := 4) (f := (fun j => some (pq j))) hx hb hK hP 2 2 rfl rfl (vp_in_nI (show 1 < 4 by decide) (by decide)) dX2_cut_98 ?_
            refine W.eq (g2 := F0 m 99 ls [.ref (pq 1)]) rfl ?_
            refine lv_aload_n hx hb dX2_cut_99 rfl (lv_at hl 2 rfl) ?_
            refine va_get (D := D) (ci := 2) (v := .ref (a 2)) (C := RX2) (T := TX2) (N := 5) hx hb hg inX2 hown hK hP 0 rfl rfl 1 (by decide) (hg _ fl_X2_15) (fun _ h9 => h9) rfl dX2_cut_100 ?_
            refine lv_iload_n hx hb dX2_cut_103 rfl (lv_at hl 0 rfl) ?_
            refine va_aldq (D := D) (n := 4) (f := (fun j => some (pq j))) hx hb hK hP 2 2 rfl rfl (vp_in_nI (show 0 < 4 by decide) (by decide)) dX2_cut_104 ?_
            refine W.eq (g2 := F0 m 105 ls [.ref (pq 0), .ref (pq 1)]) rfl ?_
            refine va_callv (va_runVN (As := [.ref (pq 0)]) (rest := []) ⟨hx, hb, hml, hown, hg⟩ (c_X0_become l A D cI cL cQ (xw cI cQ a pl pq nq nm ab lg 0 kn ++ fr) 7 8 (pq 1) (nq 1) (nm 1) rfl rfl 5 6 (pq 0) (nq 0) (nm 0) rfl rfl) ⟨va_cnB 1 hg (gw_C co_X0_become) rfl rfl rfl (hG.1 _ mn_X2_59) (hg _ ini_X0) (by decide +kernel) ⟨Nat.le_of_ble_eq_true rfl, Nat.le_of_ble_eq_true rfl⟩, hg _ im_X0_become, hg _ se_X0_become⟩ ⟨wd_B.blind, va_recv hK hP (ci := 0) (q0 := 7) rfl rfl, (fun U hU hW => ⟨rfl, wd_B.at hG hK hP hD hS hA hU hW⟩)⟩ rfl rfl hl.1 rfl (lv_room (Nat.le_of_ble_eq_true rfl)) dX2_cut_105 ⟨Nat.le_of_ble_eq_true rfl, Nat.le_of_ble_eq_true rfl⟩) hS (fun q _ h => h) (fun q h => h) (fun u t H1 locs ht hvm hr_9 hB hz1 hk1 hS => ?_)
            obtain ⟨hK, hP, hD⟩ := hB.back ht hvm
            generalize H1 = H at hP hS ⊢
            have hP : va_P D vwCl (xw cI cQ a pl pq nq (va_up nm 1 (nm 0)) ab lg 0 kn ++ fr) H := hP
            have hD : va_D A (xw cI cQ a pl pq nq (va_up nm 1 (nm 0)) ab lg 0 kn ++ fr) := hD
            refine lv_iinc (v := (-1)) (lv' := [(3, .int (-1)), (2, .int 0), (0, .ref (a 0)), (1, .int x)]) hx hb dX2_cut_108 hl (k := 0) rfl (by decide) (by decide) rfl (fun ls hl => ?_)
            refine lv_goto (tgt := 86) hx hb dX2_cut_111 (by decide) ?_
            refine lv_iload_n hx hb dX2_cut_86 rfl (lv_at hl 0 rfl) ?_
            refine lv_iload_n hx hb dX2_cut_87 rfl (lv_at hl 1 rfl) ?_
            refine lv_icmp_lt (tgt := 114) hx hb dX2_cut_88 (by decide) (fun _ => ?_) (fun c_10 => absurd c_10 (by decide))
            refine lv_aload_n hx hb dX2_cut_114 rfl (lv_at hl 2 rfl) ?_
            refine va_get (D := D) (ci := 2) (v := .ref (a 1)) (C := RX2) (T := TX2) (N := 5) hx hb hg inX2 hown hK hP 0 rfl rfl 0 (by decide) (hg _ fl_X2_9) (fun _ h9 => h9) rfl dX2_cut_115 ?_
            refine lv_iload_n hx hb dX2_cut_118 rfl (lv_at hl 1 rfl) ?_
            refine lv_iload_n hx hb dX2_cut_119 rfl (lv_at hl 3 rfl) ?_
            refine va_iast (D := D) (n := 3) (f := pl) (x := x) hx hb hK hP hD hS 1 0 rfl rfl (vp_in_nI (show 0 < 3 by decide) (by decide)) dX2_cut_120 (fun H locs hP hD hS => ?_)
            rw [show (0 : Int32).toNatClampNeg = 0 from by decide] at hP hD
            have hP : va_P D vwCl (xw cI cQ a (upd pl 0 x) pq nq (va_up nm 1 (nm 0)) ab lg 0 kn ++ fr) H := hP
            have hD : va_D A (xw cI cQ a (upd pl 0 x) pq nq (va_up nm 1 (nm 0)) ab lg 0 kn ++ fr) := hD
            refine lv_aload_n hx hb dX2_cut_121 rfl (lv_at hl 2 rfl) ?_
            refine lv_dup hx hb dX2_cut_122 rfl ?_
            refine va_get (D := D) (ci := 2) (v := .int 0) (C := RX2) (T := TX2) (N := 5) hx hb hg inX2 hown hK hP 0 rfl rfl 3 (by decide) (hg _ fl_X2_26) (fun _ h9 => h9) rfl dX2_cut_123 ?_
            refine lv_iconst (v := 1) hx hb dX2_cut_126 (by decide) ?_
            refine lv_iadd hx hb dX2_cut_127 ?_
            rw [show (0 : Int32) + 1 = 1 from by decide]
            refine va_put (D := D) (ci := 2) (v := .int 1) (ty := .int) (C := RX2) (T := TX2) (N := 5) hx hb hg inX2 tyX2 tyX2_ok nmX2 hown hK hP hD hS 0 rfl rfl 3 (by decide) (hg _ fl_X2_26) (fun _ h9 => h9) rfl (by decide +kernel) rfl rfl (Nat.le_of_ble_eq_true rfl) dX2_cut_128 (fun H locs hP hD hS => ?_)
            have hP : va_P D vwCl (xw cI cQ a (upd pl 0 x) pq nq (va_up nm 1 (nm 0)) ab lg 1 kn ++ fr) H := hP
            have hD : va_D A (xw cI cQ a (upd pl 0 x) pq nq (va_up nm 1 (nm 0)) ab lg 1 kn ++ fr) := hD
            refine lv_iload_n hx hb dX2_cut_131 rfl (lv_at hl 1 rfl) ?_
            refine vx_ret ?_
            refine W.widen (k := 1) (n := 6) (Nat.zero_le _) (Nat.zero_le _) ?_
            exact W.iret (v := 0) hx hb hr (fun t ht hW => ⟨⟨0, ((upd pl 0 x), (va_up nm 1 (nm 0))), rfl, ⟨hi6, hcu, by omega, rfl, fun j hj => by rcases (show j = 0 by omega) with rfl <;> simp [upd], fun j hj => by rcases (show j = 0 ∨ j = 1 by omega) with rfl | rfl <;> simp [va_up]⟩, wd_E.at hK hP hD ht hW⟩, hS.F ht⟩) hS.2.2 dX2_cut_132
        · have hP : va_P D vwCl (xw cI cQ a pl pq nq nm ab lg 1 kn ++ fr) s.heap := hP
          have hD : va_D A (xw cI cQ a pl pq nq nm ab lg 1 kn ++ fr) := hD
          refine lv_aload_n hx hb dX2_cut_45 rfl (lv_at hl 0 rfl) ?_
          refine lv_iload_n hx hb dX2_cut_46 rfl (lv_at hl 1 rfl) ?_
          refine vp_callSi (W.runV (As := [.int x]) (rest := []) ⟨hx, hb, hml, hown, hg⟩ (c_X2_pieceAt l D cI cL cQ (a 0) (a 1) [.ref (a 1), .ref (a 2), .ref (a 3), .int (1), .int kn] rfl 1 rfl hc pl x) (cwV 1 hg (gw_V ml_X2_55 im_X2_pieceAt se_X2_pieceAt ini_X2 co_X2_pieceAt) rfl rfl rfl (by decide +kernel) ⟨Nat.le_of_ble_eq_true rfl, Nat.le_of_ble_eq_true rfl⟩) ⟨pu_B.blind, va_recv hK hP (ci := 2) (q0 := 0) rfl rfl, (fun U hU hW => ⟨rfl, pu_B.at hK (va_P2 hP (i := 0) (j := 1) rfl rfl) hU hW⟩)⟩ rfl rfl hl.1 rfl (lv_room (Nat.le_of_ble_eq_true rfl)) dX2_cut_47 ⟨Nat.le_of_ble_eq_true rfl, Nat.le_of_ble_eq_true rfl⟩) (fun r_11 hr_11 => ?_)
          subst hr_11
          have hkl := x_cnt_le pl x 1
          rcases (show x_cnt pl x 1 = 0 ∨ x_cnt pl x 1 = 1 by omega) with hk | hk
          · rw [hk]
            refine W.eq (g2 := F0 m 50 ls [.int 0]) rfl ?_
            refine lv_istore_n (lv' := [(2, .int 0), (0, .ref (a 0)), (1, .int x)]) hx hb dX2_cut_50 rfl hl (by decide) rfl (fun ls hl => ?_)
            refine lv_aload_n hx hb dX2_cut_51 rfl (lv_at hl 1 rfl) ?_
            refine va_get (D := D) (ci := 2) (v := .int 1) (C := RX2) (T := TX2) (N := 5) hx hb hg inX2 hown hK hP 0 rfl rfl 3 (by decide) (hg _ fl_X2_26) (fun _ h9 => h9) rfl dX2_cut_52 ?_
            refine lv_istore_n (lv' := [(3, .int 1), (2, .int 0), (0, .ref (a 0)), (1, .int x)]) hx hb dX2_cut_55 rfl hl (by decide) rfl (fun ls hl => ?_)
            refine lv_iload_n hx hb dX2_cut_56 rfl (lv_at hl 0 rfl) ?_
            refine lv_iload_n hx hb dX2_cut_57 rfl (lv_at hl 1 rfl) ?_
            refine lv_icmp_le (tgt := 81) hx hb dX2_cut_58 (by decide) (fun c_12 => absurd c_12 (by decide)) (fun _ => ?_)
            refine lv_aload_n hx hb dX2_cut_61 rfl (lv_at hl 2 rfl) ?_
            refine va_get (D := D) (ci := 2) (v := .ref (a 1)) (C := RX2) (T := TX2) (N := 5) hx hb hg inX2 hown hK hP 0 rfl rfl 0 (by decide) (hg _ fl_X2_9) (fun _ h9 => h9) rfl dX2_cut_62 ?_
            refine lv_iload_n hx hb dX2_cut_65 rfl (lv_at hl 0 rfl) ?_
            refine lv_aload_n hx hb dX2_cut_66 rfl (lv_at hl 2 rfl) ?_
            refine va_get (D := D) (ci := 2) (v := .ref (a 1)) (C := RX2) (T := TX2) (N := 5) hx hb hg inX2 hown hK hP 0 rfl rfl 0 (by decide) (hg _ fl_X2_9) (fun _ h9 => h9) rfl dX2_cut_67 ?_
            refine lv_iload_n hx hb dX2_cut_70 rfl (lv_at hl 0 rfl) ?_
            refine lv_iconst (v := 1) hx hb dX2_cut_71 (by decide) ?_
            refine lv_isub hx hb dX2_cut_72 ?_
            rw [show (1 : Int32) - 1 = 0 from by decide]
            refine va_iald (D := D) (n := 3) (f := pl) hx hb hK hP 1 0 rfl rfl (vp_in_nI (show 0 < 3 by decide) (by decide)) dX2_cut_73 ?_
            rw [show (0 : Int32).toNatClampNeg = 0 from by decide]
            refine lv_topi (fun v_13 ev_13 => ?_)
            refine va_iast (D := D) (n := 3) (f := pl) (x := v_13) hx hb hK hP hD hS 1 0 rfl rfl (vp_in_nI (show 1 < 3 by decide) (by decide)) dX2_cut_74 (fun H locs hP hD hS => ?_)
            rw [show (1 : Int32).toNatClampNeg = 1 from by decide] at hP hD
            have hP : va_P D vwCl (xw cI cQ a (upd pl 1 v_13) pq nq nm ab lg 1 kn ++ fr) H := hP
            have hD : va_D A (xw cI cQ a (upd pl 1 v_13) pq nq nm ab lg 1 kn ++ fr) := hD
            refine lv_iinc (v := 0) (lv' := [(3, .int 0), (2, .int 0), (0, .ref (a 0)), (1, .int x)]) hx hb dX2_cut_75 hl (k := 0) rfl (by decide) (by decide) rfl (fun ls hl => ?_)
            refine lv_goto (tgt := 56) hx hb dX2_cut_78 (by decide) ?_
            refine lv_iload_n hx hb dX2_cut_56 rfl (lv_at hl 0 rfl) ?_
            refine lv_iload_n hx hb dX2_cut_57 rfl (lv_at hl 1 rfl) ?_
            refine lv_icmp_le (tgt := 81) hx hb dX2_cut_58 (by decide) (fun _ => ?_) (fun c_14 => absurd c_14 (by decide))
            refine lv_aload_n hx hb dX2_cut_81 rfl (lv_at hl 2 rfl) ?_
            refine va_get (D := D) (ci := 2) (v := .int 1) (C := RX2) (T := TX2) (N := 5) hx hb hg inX2 hown hK hP 0 rfl rfl 3 (by decide) (hg _ fl_X2_26) (fun _ h9 => h9) rfl dX2_cut_82 ?_
            refine lv_istore_n (lv' := [(3, .int 1), (2, .int 0), (0, .ref (a 0)), (1, .int x)]) hx hb dX2_cut_85 rfl hl (by decide) rfl (fun ls hl => ?_)
            refine lv_iload_n hx hb dX2_cut_86 rfl (lv_at hl 0 rfl) ?_
            refine lv_iload_n hx hb dX2_cut_87 rfl (lv_at hl 1 rfl) ?_
            refine lv_icmp_lt (tgt := 114) hx hb dX2_cut_88 (by decide) (fun c_15 => absurd c_15 (by decide)) (fun _ => ?_)
            refine lv_aload_n hx hb dX2_cut_91 rfl (lv_at hl 2 rfl) ?_
            refine va_get (D := D) (ci := 2) (v := .ref (a 2)) (C := RX2) (T := TX2) (N := 5) hx hb hg inX2 hown hK hP 0 rfl rfl 1 (by decide) (hg _ fl_X2_15) (fun _ h9 => h9) rfl dX2_cut_92 ?_
            refine lv_iload_n hx hb dX2_cut_95 rfl (lv_at hl 0 rfl) ?_
            refine lv_iconst (v := 1) hx hb dX2_cut_96 (by decide) ?_
            refine lv_iadd hx hb dX2_cut_97 ?_
            rw [show (1 : Int32) + 1 = 2 from by decide]
            refine va_aldq (D := D) (n := 4) (f := (fun j => some (pq j))) hx hb hK hP 2 2 rfl rfl (vp_in_nI (show 2 < 4 by decide) (by decide)) dX2_cut_98 ?_
            refine W.eq (g2 := F0 m 99 ls [.ref (pq 2)]) rfl ?_
            refine lv_aload_n hx hb dX2_cut_99 rfl (lv_at hl 2 rfl) ?_
            refine va_get (D := D) (ci := 2) (v := .ref (a 2)) (C := RX2) (T := TX2) (N := 5) hx hb hg inX2 hown hK hP 0 rfl rfl 1 (by decide) (hg _ fl_X2_15) (fun _ h9 => h9) rfl dX2_cut_100 ?_
            refine lv_iload_n hx hb dX2_cut_103 rfl (lv_at hl 0 rfl) ?_
            refine va_aldq (D := D) (n := 4) (f := (fun j => some (pq j))) hx hb hK hP 2 2 rfl rfl (vp_in_nI (show 1 < 4 by decide) (by decide)) dX2_cut_104 ?_
            refine W.eq (g2 := F0 m 105 ls [.ref (pq 1), .ref (pq 2)]) rfl ?_
            refine va_callv (va_runVN (As := [.ref (pq 1)]) (rest := []) ⟨hx, hb, hml, hown, hg⟩ (c_X0_become l A D cI cL cQ (xw cI cQ a (upd pl 1 v_13) pq nq nm ab lg 1 kn ++ fr) 9 10 (pq 2) (nq 2) (nm 2) rfl rfl 7 8 (pq 1) (nq 1) (nm 1) rfl rfl) ⟨va_cnB 1 hg (gw_C co_X0_become) rfl rfl rfl (hG.1 _ mn_X2_59) (hg _ ini_X0) (by decide +kernel) ⟨Nat.le_of_ble_eq_true rfl, Nat.le_of_ble_eq_true rfl⟩, hg _ im_X0_become, hg _ se_X0_become⟩ ⟨wd_B.blind, va_recv hK hP (ci := 0) (q0 := 9) rfl rfl, (fun U hU hW => ⟨rfl, wd_B.at hG hK hP hD hS hA hU hW⟩)⟩ rfl rfl hl.1 rfl (lv_room (Nat.le_of_ble_eq_true rfl)) dX2_cut_105 ⟨Nat.le_of_ble_eq_true rfl, Nat.le_of_ble_eq_true rfl⟩) hS (fun q _ h => h) (fun q h => h) (fun u t H1 locs ht hvm hr_16 hB hz1 hk1 hS => ?_)
            obtain ⟨hK, hP, hD⟩ := hB.back ht hvm
            generalize H1 = H at hP hS ⊢
            have hP : va_P D vwCl (xw cI cQ a (upd pl 1 v_13) pq nq (va_up nm 2 (nm 1)) ab lg 1 kn ++ fr) H := hP
            have hD : va_D A (xw cI cQ a (upd pl 1 v_13) pq nq (va_up nm 2 (nm 1)) ab lg 1 kn ++ fr) := hD
            refine lv_iinc (v := 0) (lv' := [(3, .int 0), (2, .int 0), (0, .ref (a 0)), (1, .int x)]) hx hb dX2_cut_108 hl (k := 0) rfl (by decide) (by decide) rfl (fun ls hl => ?_)
            refine lv_goto (tgt := 86) hx hb dX2_cut_111 (by decide) ?_
            refine lv_iload_n hx hb dX2_cut_86 rfl (lv_at hl 0 rfl) ?_
            refine lv_iload_n hx hb dX2_cut_87 rfl (lv_at hl 1 rfl) ?_
            refine lv_icmp_lt (tgt := 114) hx hb dX2_cut_88 (by decide) (fun c_17 => absurd c_17 (by decide)) (fun _ => ?_)
            refine lv_aload_n hx hb dX2_cut_91 rfl (lv_at hl 2 rfl) ?_
            refine va_get (D := D) (ci := 2) (v := .ref (a 2)) (C := RX2) (T := TX2) (N := 5) hx hb hg inX2 hown hK hP 0 rfl rfl 1 (by decide) (hg _ fl_X2_15) (fun _ h9 => h9) rfl dX2_cut_92 ?_
            refine lv_iload_n hx hb dX2_cut_95 rfl (lv_at hl 0 rfl) ?_
            refine lv_iconst (v := 1) hx hb dX2_cut_96 (by decide) ?_
            refine lv_iadd hx hb dX2_cut_97 ?_
            rw [show (0 : Int32) + 1 = 1 from by decide]
            refine va_aldq (D := D) (n := 4) (f := (fun j => some (pq j))) hx hb hK hP 2 2 rfl rfl (vp_in_nI (show 1 < 4 by decide) (by decide)) dX2_cut_98 ?_
            refine W.eq (g2 := F0 m 99 ls [.ref (pq 1)]) rfl ?_
            refine lv_aload_n hx hb dX2_cut_99 rfl (lv_at hl 2 rfl) ?_
            refine va_get (D := D) (ci := 2) (v := .ref (a 2)) (C := RX2) (T := TX2) (N := 5) hx hb hg inX2 hown hK hP 0 rfl rfl 1 (by decide) (hg _ fl_X2_15) (fun _ h9 => h9) rfl dX2_cut_100 ?_
            refine lv_iload_n hx hb dX2_cut_103 rfl (lv_at hl 0 rfl) ?_
            refine va_aldq (D := D) (n := 4) (f := (fun j => some (pq j))) hx hb hK hP 2 2 rfl rfl (vp_in_nI (show 0 < 4 by decide) (by decide)) dX2_cut_104 ?_
            refine W.eq (g2 := F0 m 105 ls [.ref (pq 0), .ref (pq 1)]) rfl ?_
            refine va_callv (va_runVN (As := [.ref (pq 0)]) (rest := []) ⟨hx, hb, hml, hown, hg⟩ (c_X0_become l A D cI cL cQ (xw cI cQ a (upd pl 1 v_13) pq nq (va_up nm 2 (nm 1)) ab lg 1 kn ++ fr) 7 8 (pq 1) (nq 1) ((va_up nm 2 (nm 1)) 1) rfl rfl 5 6 (pq 0) (nq 0) ((va_up nm 2 (nm 1)) 0) rfl rfl) ⟨va_cnB 1 hg (gw_C co_X0_become) rfl rfl rfl (hG.1 _ mn_X2_59) (hg _ ini_X0) (by decide +kernel) ⟨Nat.le_of_ble_eq_true rfl, Nat.le_of_ble_eq_true rfl⟩, hg _ im_X0_become, hg _ se_X0_become⟩ ⟨wd_B.blind, va_recv hK hP (ci := 0) (q0 := 7) rfl rfl, (fun U hU hW => ⟨rfl, wd_B.at hG hK hP hD hS hA hU hW⟩)⟩ rfl rfl hl.1 rfl (lv_room (Nat.le_of_ble_eq_true rfl)) dX2_cut_105 ⟨Nat.le_of_ble_eq_true rfl, Nat.le_of_ble_eq_true rfl⟩) hS (fun q _ h => h) (fun q h => h) (fun u t H1 locs ht hvm hr_18 hB hz1 hk1 hS => ?_)
            obtain ⟨hK, hP, hD⟩ := hB.back ht hvm
            generalize H1 = H at hP hS ⊢
            have hP : va_P D vwCl (xw cI cQ a (upd pl 1 v_13) pq nq (va_up (va_up nm 2 (nm 1)) 1 ((va_up nm 2 (nm 1)) 0)) ab lg 1 kn ++ fr) H := hP
            have hD : va_D A (xw cI cQ a (upd pl 1 v_13) pq nq (va_up (va_up nm 2 (nm 1)) 1 ((va_up nm 2 (nm 1)) 0)) ab lg 1 kn ++ fr) := hD
            refine lv_iinc (v := (-1)) (lv' := [(3, .int (-1)), (2, .int 0), (0, .ref (a 0)), (1, .int x)]) hx hb dX2_cut_108 hl (k := 0) rfl (by decide) (by decide) rfl (fun ls hl => ?_)
            refine lv_goto (tgt := 86) hx hb dX2_cut_111 (by decide) ?_
            refine lv_iload_n hx hb dX2_cut_86 rfl (lv_at hl 0 rfl) ?_
            refine lv_iload_n hx hb dX2_cut_87 rfl (lv_at hl 1 rfl) ?_
            refine lv_icmp_lt (tgt := 114) hx hb dX2_cut_88 (by decide) (fun _ => ?_) (fun c_19 => absurd c_19 (by decide))
            refine lv_aload_n hx hb dX2_cut_114 rfl (lv_at hl 2 rfl) ?_
            refine va_get (D := D) (ci := 2) (v := .ref (a 1)) (C := RX2) (T := TX2) (N := 5) hx hb hg inX2 hown hK hP 0 rfl rfl 0 (by decide) (hg _ fl_X2_9) (fun _ h9 => h9) rfl dX2_cut_115 ?_
            refine lv_iload_n hx hb dX2_cut_118 rfl (lv_at hl 1 rfl) ?_
            refine lv_iload_n hx hb dX2_cut_119 rfl (lv_at hl 3 rfl) ?_
            refine va_iast (D := D) (n := 3) (f := (upd pl 1 v_13)) (x := x) hx hb hK hP hD hS 1 0 rfl rfl (vp_in_nI (show 0 < 3 by decide) (by decide)) dX2_cut_120 (fun H locs hP hD hS => ?_)
            rw [show (0 : Int32).toNatClampNeg = 0 from by decide] at hP hD
            have hP : va_P D vwCl (xw cI cQ a (upd (upd pl 1 v_13) 0 x) pq nq (va_up (va_up nm 2 (nm 1)) 1 ((va_up nm 2 (nm 1)) 0)) ab lg 1 kn ++ fr) H := hP
            have hD : va_D A (xw cI cQ a (upd (upd pl 1 v_13) 0 x) pq nq (va_up (va_up nm 2 (nm 1)) 1 ((va_up nm 2 (nm 1)) 0)) ab lg 1 kn ++ fr) := hD
            refine lv_aload_n hx hb dX2_cut_121 rfl (lv_at hl 2 rfl) ?_
            refine lv_dup hx hb dX2_cut_122 rfl ?_
            refine va_get (D := D) (ci := 2) (v := .int 1) (C := RX2) (T := TX2) (N := 5) hx hb hg inX2 hown hK hP 0 rfl rfl 3 (by decide) (hg _ fl_X2_26) (fun _ h9 => h9) rfl dX2_cut_123 ?_
            refine lv_iconst (v := 1) hx hb dX2_cut_126 (by decide) ?_
            refine lv_iadd hx hb dX2_cut_127 ?_
            rw [show (1 : Int32) + 1 = 2 from by decide]
            refine va_put (D := D) (ci := 2) (v := .int 2) (ty := .int) (C := RX2) (T := TX2) (N := 5) hx hb hg inX2 tyX2 tyX2_ok nmX2 hown hK hP hD hS 0 rfl rfl 3 (by decide) (hg _ fl_X2_26) (fun _ h9 => h9) rfl (by decide +kernel) rfl rfl (Nat.le_of_ble_eq_true rfl) dX2_cut_128 (fun H locs hP hD hS => ?_)
            have hP : va_P D vwCl (xw cI cQ a (upd (upd pl 1 v_13) 0 x) pq nq (va_up (va_up nm 2 (nm 1)) 1 ((va_up nm 2 (nm 1)) 0)) ab lg 2 kn ++ fr) H := hP
            have hD : va_D A (xw cI cQ a (upd (upd pl 1 v_13) 0 x) pq nq (va_up (va_up nm 2 (nm 1)) 1 ((va_up nm 2 (nm 1)) 0)) ab lg 2 kn ++ fr) := hD
            refine lv_iload_n hx hb dX2_cut_131 rfl (lv_at hl 1 rfl) ?_
            refine vx_ret ?_
            refine W.widen (k := 1) (n := 6) (Nat.zero_le _) (Nat.zero_le _) ?_
            exact W.iret (v := 0) hx hb hr (fun t ht hW => ⟨⟨0, ((upd (upd pl 1 v_13) 0 x), (va_up (va_up nm 2 (nm 1)) 1 ((va_up nm 2 (nm 1)) 0))), rfl, ⟨hi6, hcu, by omega, rfl, fun j hj => by rcases (show j = 0 ∨ j = 1 by omega) with rfl | rfl <;> simp [upd, ev_13], fun j hj => by rcases (show j = 0 ∨ j = 1 ∨ j = 2 by omega) with rfl | rfl | rfl <;> simp [va_up]⟩, wd_E.at hK hP hD ht hW⟩, hS.F ht⟩) hS.2.2 dX2_cut_132
          · rw [hk]
            refine W.eq (g2 := F0 m 50 ls [.int 1]) rfl ?_
            refine lv_istore_n (lv' := [(2, .int 1), (0, .ref (a 0)), (1, .int x)]) hx hb dX2_cut_50 rfl hl (by decide) rfl (fun ls hl => ?_)
            refine lv_aload_n hx hb dX2_cut_51 rfl (lv_at hl 1 rfl) ?_
            refine va_get (D := D) (ci := 2) (v := .int 1) (C := RX2) (T := TX2) (N := 5) hx hb hg inX2 hown hK hP 0 rfl rfl 3 (by decide) (hg _ fl_X2_26) (fun _ h9 => h9) rfl dX2_cut_52 ?_
            refine lv_istore_n (lv' := [(3, .int 1), (2, .int 1), (0, .ref (a 0)), (1, .int x)]) hx hb dX2_cut_55 rfl hl (by decide) rfl (fun ls hl => ?_)
            refine lv_iload_n hx hb dX2_cut_56 rfl (lv_at hl 0 rfl) ?_
            refine lv_iload_n hx hb dX2_cut_57 rfl (lv_at hl 1 rfl) ?_
            refine lv_icmp_le (tgt := 81) hx hb dX2_cut_58 (by decide) (fun _ => ?_) (fun c_20 => absurd c_20 (by decide))
            refine lv_aload_n hx hb dX2_cut_81 rfl (lv_at hl 2 rfl) ?_
            refine va_get (D := D) (ci := 2) (v := .int 1) (C := RX2) (T := TX2) (N := 5) hx hb hg inX2 hown hK hP 0 rfl rfl 3 (by decide) (hg _ fl_X2_26) (fun _ h9 => h9) rfl dX2_cut_82 ?_
            refine lv_istore_n (lv' := [(3, .int 1), (2, .int 1), (0, .ref (a 0)), (1, .int x)]) hx hb dX2_cut_85 rfl hl (by decide) rfl (fun ls hl => ?_)
            refine lv_iload_n hx hb dX2_cut_86 rfl (lv_at hl 0 rfl) ?_
            refine lv_iload_n hx hb dX2_cut_87 rfl (lv_at hl 1 rfl) ?_
            refine lv_icmp_lt (tgt := 114) hx hb dX2_cut_88 (by decide) (fun c_21 => absurd c_21 (by decide)) (fun _ => ?_)
            refine lv_aload_n hx hb dX2_cut_91 rfl (lv_at hl 2 rfl) ?_
            refine va_get (D := D) (ci := 2) (v := .ref (a 2)) (C := RX2) (T := TX2) (N := 5) hx hb hg inX2 hown hK hP 0 rfl rfl 1 (by decide) (hg _ fl_X2_15) (fun _ h9 => h9) rfl dX2_cut_92 ?_
            refine lv_iload_n hx hb dX2_cut_95 rfl (lv_at hl 0 rfl) ?_
            refine lv_iconst (v := 1) hx hb dX2_cut_96 (by decide) ?_
            refine lv_iadd hx hb dX2_cut_97 ?_
            rw [show (1 : Int32) + 1 = 2 from by decide]
            refine va_aldq (D := D) (n := 4) (f := (fun j => some (pq j))) hx hb hK hP 2 2 rfl rfl (vp_in_nI (show 2 < 4 by decide) (by decide)) dX2_cut_98 ?_
            refine W.eq (g2 := F0 m 99 ls [.ref (pq 2)]) rfl ?_
            refine lv_aload_n hx hb dX2_cut_99 rfl (lv_at hl 2 rfl) ?_
            refine va_get (D := D) (ci := 2) (v := .ref (a 2)) (C := RX2) (T := TX2) (N := 5) hx hb hg inX2 hown hK hP 0 rfl rfl 1 (by decide) (hg _ fl_X2_15) (fun _ h9 => h9) rfl dX2_cut_100 ?_
            refine lv_iload_n hx hb dX2_cut_103 rfl (lv_at hl 0 rfl) ?_
            refine va_aldq (D := D) (n := 4) (f := (fun j => some (pq j))) hx hb hK hP 2 2 rfl rfl (vp_in_nI (show 1 < 4 by decide) (by decide)) dX2_cut_104 ?_
            refine W.eq (g2 := F0 m 105 ls [.ref (pq 1), .ref (pq 2)]) rfl ?_
            refine va_callv (va_runVN (As := [.ref (pq 1)]) (rest := []) ⟨hx, hb, hml, hown, hg⟩ (c_X0_become l A D cI cL cQ (xw cI cQ a pl pq nq nm ab lg 1 kn ++ fr) 9 10 (pq 2) (nq 2) (nm 2) rfl rfl 7 8 (pq 1) (nq 1) (nm 1) rfl rfl) ⟨va_cnB 1 hg (gw_C co_X0_become) rfl rfl rfl (hG.1 _ mn_X2_59) (hg _ ini_X0) (by decide +kernel) ⟨Nat.le_of_ble_eq_true rfl, Nat.le_of_ble_eq_true rfl⟩, hg _ im_X0_become, hg _ se_X0_become⟩ ⟨wd_B.blind, va_recv hK hP (ci := 0) (q0 := 9) rfl rfl, (fun U hU hW => ⟨rfl, wd_B.at hG hK hP hD hS hA hU hW⟩)⟩ rfl rfl hl.1 rfl (lv_room (Nat.le_of_ble_eq_true rfl)) dX2_cut_105 ⟨Nat.le_of_ble_eq_true rfl, Nat.le_of_ble_eq_true rfl⟩) hS (fun q _ h => h) (fun q h => h) (fun u t H1 locs ht hvm hr_22 hB hz1 hk1 hS => ?_)
            obtain ⟨hK, hP, hD⟩ := hB.back ht hvm
            generalize H1 = H at hP hS ⊢
            have hP : va_P D vwCl (xw cI cQ a pl pq nq (va_up nm 2 (nm 1)) ab lg 1 kn ++ fr) H := hP
            have hD : va_D A (xw cI cQ a pl pq nq (va_up nm 2 (nm 1)) ab lg 1 kn ++ fr) := hD
            refine lv_iinc (v := 0) (lv' := [(3, .int 0), (2, .int 1), (0, .ref (a 0)), (1, .int x)]) hx hb dX2_cut_108 hl (k := 0) rfl (by decide) (by decide) rfl (fun ls hl => ?_)
            refine lv_goto (tgt := 86) hx hb dX2_cut_111 (by decide) ?_
            refine lv_iload_n hx hb dX2_cut_86 rfl (lv_at hl 0 rfl) ?_
            refine lv_iload_n hx hb dX2_cut_87 rfl (lv_at hl 1 rfl) ?_
            refine lv_icmp_lt (tgt := 114) hx hb dX2_cut_88 (by decide) (fun _ => ?_) (fun c_23 => absurd c_23 (by decide))
            refine lv_aload_n hx hb dX2_cut_114 rfl (lv_at hl 2 rfl) ?_
            refine va_get (D := D) (ci := 2) (v := .ref (a 1)) (C := RX2) (T := TX2) (N := 5) hx hb hg inX2 hown hK hP 0 rfl rfl 0 (by decide) (hg _ fl_X2_9) (fun _ h9 => h9) rfl dX2_cut_115 ?_
            refine lv_iload_n hx hb dX2_cut_118 rfl (lv_at hl 1 rfl) ?_
            refine lv_iload_n hx hb dX2_cut_119 rfl (lv_at hl 3 rfl) ?_
            refine va_iast (D := D) (n := 3) (f := pl) (x := x) hx hb hK hP hD hS 1 0 rfl rfl (vp_in_nI (show 1 < 3 by decide) (by decide)) dX2_cut_120 (fun H locs hP hD hS => ?_)
            rw [show (1 : Int32).toNatClampNeg = 1 from by decide] at hP hD
            have hP : va_P D vwCl (xw cI cQ a (upd pl 1 x) pq nq (va_up nm 2 (nm 1)) ab lg 1 kn ++ fr) H := hP
            have hD : va_D A (xw cI cQ a (upd pl 1 x) pq nq (va_up nm 2 (nm 1)) ab lg 1 kn ++ fr) := hD
            refine lv_aload_n hx hb dX2_cut_121 rfl (lv_at hl 2 rfl) ?_
            refine lv_dup hx hb dX2_cut_122 rfl ?_
            refine va_get (D := D) (ci := 2) (v := .int 1) (C := RX2) (T := TX2) (N := 5) hx hb hg inX2 hown hK hP 0 rfl rfl 3 (by decide) (hg _ fl_X2_26) (fun _ h9 => h9) rfl dX2_cut_123 ?_
            refine lv_iconst (v := 1) hx hb dX2_cut_126 (by decide) ?_
            refine lv_iadd hx hb dX2_cut_127 ?_
            rw [show (1 : Int32) + 1 = 2 from by decide]
            refine va_put (D := D) (ci := 2) (v := .int 2) (ty := .int) (C := RX2) (T := TX2) (N := 5) hx hb hg inX2 tyX2 tyX2_ok nmX2 hown hK hP hD hS 0 rfl rfl 3 (by decide) (hg _ fl_X2_26) (fun _ h9 => h9) rfl (by decide +kernel) rfl rfl (Nat.le_of_ble_eq_true rfl) dX2_cut_128 (fun H locs hP hD hS => ?_)
            have hP : va_P D vwCl (xw cI cQ a (upd pl 1 x) pq nq (va_up nm 2 (nm 1)) ab lg 2 kn ++ fr) H := hP
            have hD : va_D A (xw cI cQ a (upd pl 1 x) pq nq (va_up nm 2 (nm 1)) ab lg 2 kn ++ fr) := hD
            refine lv_iload_n hx hb dX2_cut_131 rfl (lv_at hl 1 rfl) ?_
            refine vx_ret ?_
            refine W.widen (k := 1) (n := 6) (Nat.zero_le _) (Nat.zero_le _) ?_
            exact W.iret (v := 1) hx hb hr (fun t ht hW => ⟨⟨1, ((upd pl 1 x), (va_up nm 2 (nm 1))), rfl, ⟨hi6, hcu, by omega, rfl, fun j hj => by rcases (show j = 0 ∨ j = 1 by omega) with rfl | rfl <;> simp [upd], fun j hj => by rcases (show j = 0 ∨ j = 1 ∨ j = 2 by omega) with rfl | rfl | rfl <;> simp [va_up]⟩, wd_E.at hK hP hD ht hW⟩, hS.F ht⟩) hS.2.2 dX2_cut_132
        · have hP : va_P D vwCl (xw cI cQ a pl pq nq nm ab lg 2 kn ++ fr) s.heap := hP
          have hD : va_D A (xw cI cQ a pl pq nq nm ab lg 2 kn ++ fr) := hD
          refine lv_aload_n hx hb dX2_cut_45 rfl (lv_at hl 0 rfl) ?_
          refine lv_iload_n hx hb dX2_cut_46 rfl (lv_at hl 1 rfl) ?_
          refine vp_callSi (W.runV (As := [.int x]) (rest := []) ⟨hx, hb, hml, hown, hg⟩ (c_X2_pieceAt l D cI cL cQ (a 0) (a 1) [.ref (a 1), .ref (a 2), .ref (a 3), .int (2), .int kn] rfl 2 rfl hc pl x) (cwV 1 hg (gw_V ml_X2_55 im_X2_pieceAt se_X2_pieceAt ini_X2 co_X2_pieceAt) rfl rfl rfl (by decide +kernel) ⟨Nat.le_of_ble_eq_true rfl, Nat.le_of_ble_eq_true rfl⟩) ⟨pu_B.blind, va_recv hK hP (ci := 2) (q0 := 0) rfl rfl, (fun U hU hW => ⟨rfl, pu_B.at hK (va_P2 hP (i := 0) (j := 1) rfl rfl) hU hW⟩)⟩ rfl rfl hl.1 rfl (lv_room (Nat.le_of_ble_eq_true rfl)) dX2_cut_47 ⟨Nat.le_of_ble_eq_true rfl, Nat.le_of_ble_eq_true rfl⟩) (fun r_24 hr_24 => ?_)
          subst hr_24
          have hkl := x_cnt_le pl x 2
          rcases (show x_cnt pl x 2 = 0 ∨ x_cnt pl x 2 = 1 ∨ x_cnt pl x 2 = 2 by omega) with hk | hk | hk
          · rw [hk]
            refine W.eq (g2 := F0 m 50 ls [.int 0]) rfl ?_
            refine lv_istore_n (lv' := [(2, .int 0), (0, .ref (a 0)), (1, .int x)]) hx hb dX2_cut_50 rfl hl (by decide) rfl (fun ls hl => ?_)
            refine lv_aload_n hx hb dX2_cut_51 rfl (lv_at hl 1 rfl) ?_
            refine va_get (D := D) (ci := 2) (v := .int 2) (C := RX2) (T := TX2) (N := 5) hx hb hg inX2 hown hK hP 0 rfl rfl 3 (by decide) (hg _ fl_X2_26) (fun _ h9 => h9) rfl dX2_cut_52 ?_
            refine lv_istore_n (lv' := [(3, .int 2), (2, .int 0), (0, .ref (a 0)), (1, .int x)]) hx hb dX2_cut_55 rfl hl (by decide) rfl (fun ls hl => ?_)
            refine lv_iload_n hx hb dX2_cut_56 rfl (lv_at hl 0 rfl) ?_
            refine lv_iload_n hx hb dX2_cut_57 rfl (lv_at hl 1 rfl) ?_
            refine lv_icmp_le (tgt := 81) hx hb dX2_cut_58 (by decide) (fun c_25 => absurd c_25 (by decide)) (fun _ => ?_)
            refine lv_aload_n hx hb dX2_cut_61 rfl (lv_at hl 2 rfl) ?_
            refine va_get (D := D) (ci := 2) (v := .ref (a 1)) (C := RX2) (T := TX2) (N := 5) hx hb hg inX2 hown hK hP 0 rfl rfl 0 (by decide) (hg _ fl_X2_9) (fun _ h9 => h9) rfl dX2_cut_62 ?_
            refine lv_iload_n hx hb dX2_cut_65 rfl (lv_at hl 0 rfl) ?_
            refine lv_aload_n hx hb dX2_cut_66 rfl (lv_at hl 2 rfl) ?_
            refine va_get (D := D) (ci := 2) (v := .ref (a 1)) (C := RX2) (T := TX2) (N := 5) hx hb hg inX2 hown hK hP 0 rfl rfl 0 (by decide) (hg _ fl_X2_9) (fun _ h9 => h9) rfl dX2_cut_67 ?_
            refine lv_iload_n hx hb dX2_cut_70 rfl (lv_at hl 0 rfl) ?_
            refine lv_iconst (v := 1) hx hb dX2_cut_71 (by decide) ?_
            refine lv_isub hx hb dX2_cut_72 ?_
            rw [show (2 : Int32) - 1 = 1 from by decide]
            refine va_iald (D := D) (n := 3) (f := pl) hx hb hK hP 1 0 rfl rfl (vp_in_nI (show 1 < 3 by decide) (by decide)) dX2_cut_73 ?_
            rw [show (1 : Int32).toNatClampNeg = 1 from by decide]
            refine lv_topi (fun v_26 ev_26 => ?_)
            refine va_iast (D := D) (n := 3) (f := pl) (x := v_26) hx hb hK hP hD hS 1 0 rfl rfl (vp_in_nI (show 2 < 3 by decide) (by decide)) dX2_cut_74 (fun H locs hP hD hS => ?_)
            rw [show (2 : Int32).toNatClampNeg = 2 from by decide] at hP hD
            have hP : va_P D vwCl (xw cI cQ a (upd pl 2 v_26) pq nq nm ab lg 2 kn ++ fr) H := hP
            have hD : va_D A (xw cI cQ a (upd pl 2 v_26) pq nq nm ab lg 2 kn ++ fr) := hD
            refine lv_iinc (v := 1) (lv' := [(3, .int 1), (2, .int 0), (0, .ref (a 0)), (1, .int x)]) hx hb dX2_cut_75 hl (k := 0) rfl (by decide) (by decide) rfl (fun ls hl => ?_)
            refine lv_goto (tgt := 56) hx hb dX2_cut_78 (by decide) ?_
            refine lv_iload_n hx hb dX2_cut_56 rfl (lv_at hl 0 rfl) ?_
            refine lv_iload_n hx hb dX2_cut_57 rfl (lv_at hl 1 rfl) ?_
            refine lv_icmp_le (tgt := 81) hx hb dX2_cut_58 (by decide) (fun c_27 => absurd c_27 (by decide)) (fun _ => ?_)
            refine lv_aload_n hx hb dX2_cut_61 rfl (lv_at hl 2 rfl) ?_
            refine va_get (D := D) (ci := 2) (v := .ref (a 1)) (C := RX2) (T := TX2) (N := 5) hx hb hg inX2 hown hK hP 0 rfl rfl 0 (by decide) (hg _ fl_X2_9) (fun _ h9 => h9) rfl dX2_cut_62 ?_
            refine lv_iload_n hx hb dX2_cut_65 rfl (lv_at hl 0 rfl) ?_
            refine lv_aload_n hx hb dX2_cut_66 rfl (lv_at hl 2 rfl) ?_
            refine va_get (D := D) (ci := 2) (v := .ref (a 1)) (C := RX2) (T := TX2) (N := 5) hx hb hg inX2 hown hK hP 0 rfl rfl 0 (by decide) (hg _ fl_X2_9) (fun _ h9 => h9) rfl dX2_cut_67 ?_
            refine lv_iload_n hx hb dX2_cut_70 rfl (lv_at hl 0 rfl) ?_
            refine lv_iconst (v := 1) hx hb dX2_cut_71 (by decide) ?_
            refine lv_isub hx hb dX2_cut_72 ?_
            rw [show (1 : Int32) - 1 = 0 from by decide]
            refine va_iald (D := D) (n := 3) (f := (upd pl 2 v_26)) hx hb hK hP 1 0 rfl rfl (vp_in_nI (show 0 < 3 by decide) (by decide)) dX2_cut_73 ?_
            rw [show (0 : Int32).toNatClampNeg = 0 from by decide]
            refine lv_topi (fun v_28 ev_28 => ?_)
            refine va_iast (D := D) (n := 3) (f := (upd pl 2 v_26)) (x := v_28) hx hb hK hP hD hS 1 0 rfl rfl (vp_in_nI (show 1 < 3 by decide) (by decide)) dX2_cut_74 (fun H locs hP hD hS => ?_)
            rw [show (1 : Int32).toNatClampNeg = 1 from by decide] at hP hD
            have hP : va_P D vwCl (xw cI cQ a (upd (upd pl 2 v_26) 1 v_28) pq nq nm ab lg 2 kn ++ fr) H := hP
            have hD : va_D A (xw cI cQ a (upd (upd pl 2 v_26) 1 v_28) pq nq nm ab lg 2 kn ++ fr) := hD
            refine lv_iinc (v := 0) (lv' := [(3, .int 0), (2, .int 0), (0, .ref (a 0)), (1, .int x)]) hx hb dX2_cut_75 hl (k := 0) rfl (by decide) (by decide) rfl (fun ls hl => ?_)
            refine lv_goto (tgt := 56) hx hb dX2_cut_78 (by decide) ?_
            refine lv_iload_n hx hb dX2_cut_56 rfl (lv_at hl 0 rfl) ?_
            refine lv_iload_n hx hb dX2_cut_57 rfl (lv_at hl 1 rfl) ?_
            refine lv_icmp_le (tgt := 81) hx hb dX2_cut_58 (by decide) (fun _ => ?_) (fun c_29 => absurd c_29 (by decide))
            refine lv_aload_n hx hb dX2_cut_81 rfl (lv_at hl 2 rfl) ?_
            refine va_get (D := D) (ci := 2) (v := .int 2) (C := RX2) (T := TX2) (N := 5) hx hb hg inX2 hown hK hP 0 rfl rfl 3 (by decide) (hg _ fl_X2_26) (fun _ h9 => h9) rfl dX2_cut_82 ?_
            refine lv_istore_n (lv' := [(3, .int 2), (2, .int 0), (0, .ref (a 0)), (1, .int x)]) hx hb dX2_cut_85 rfl hl (by decide) rfl (fun ls hl => ?_)
            refine lv_iload_n hx hb dX2_cut_86 rfl (lv_at hl 0 rfl) ?_
            refine lv_iload_n hx hb dX2_cut_87 rfl (lv_at hl 1 rfl) ?_
            refine lv_icmp_lt (tgt := 114) hx hb dX2_cut_88 (by decide) (fun c_30 => absurd c_30 (by decide)) (fun _ => ?_)
            refine lv_aload_n hx hb dX2_cut_91 rfl (lv_at hl 2 rfl) ?_
            refine va_get (D := D) (ci := 2) (v := .ref (a 2)) (C := RX2) (T := TX2) (N := 5) hx hb hg inX2 hown hK hP 0 rfl rfl 1 (by decide) (hg _ fl_X2_15) (fun _ h9 => h9) rfl dX2_cut_92 ?_
            refine lv_iload_n hx hb dX2_cut_95 rfl (lv_at hl 0 rfl) ?_
            refine lv_iconst (v := 1) hx hb dX2_cut_96 (by decide) ?_
            refine lv_iadd hx hb dX2_cut_97 ?_
            rw [show (2 : Int32) + 1 = 3 from by decide]
            refine va_aldq (D := D) (n := 4) (f := (fun j => some (pq j))) hx hb hK hP 2 2 rfl rfl (vp_in_nI (show 3 < 4 by decide) (by decide)) dX2_cut_98 ?_
            refine W.eq (g2 := F0 m 99 ls [.ref (pq 3)]) rfl ?_
            refine lv_aload_n hx hb dX2_cut_99 rfl (lv_at hl 2 rfl) ?_
            refine va_get (D := D) (ci := 2) (v := .ref (a 2)) (C := RX2) (T := TX2) (N := 5) hx hb hg inX2 hown hK hP 0 rfl rfl 1 (by decide) (hg _ fl_X2_15) (fun _ h9 => h9) rfl dX2_cut_100 ?_
            refine lv_iload_n hx hb dX2_cut_103 rfl (lv_at hl 0 rfl) ?_
            refine va_aldq (D := D) (n := 4) (f := (fun j => some (pq j))) hx hb hK hP 2 2 rfl rfl (vp_in_nI (show 2 < 4 by decide) (by decide)) dX2_cut_104 ?_
            refine W.eq (g2 := F0 m 105 ls [.ref (pq 2), .ref (pq 3)]) rfl ?_
            refine va_callv (va_runVN (As := [.ref (pq 2)]) (rest := []) ⟨hx, hb, hml, hown, hg⟩ (c_X0_become l A D cI cL cQ (xw cI cQ a (upd (upd pl 2 v_26) 1 v_28) pq nq nm ab lg 2 kn ++ fr) 11 12 (pq 3) (nq 3) (nm 3) rfl rfl 9 10 (pq 2) (nq 2) (nm 2) rfl rfl) ⟨va_cnB 1 hg (gw_C co_X0_become) rfl rfl rfl (hG.1 _ mn_X2_59) (hg _ ini_X0) (by decide +kernel) ⟨Nat.le_of_ble_eq_true rfl, Nat.le_of_ble_eq_true rfl⟩, hg _ im_X0_become, hg _ se_X0_become⟩ ⟨wd_B.blind, va_recv hK hP (ci := 0) (q0 := 11) rfl rfl, (fun U hU hW => ⟨rfl, wd_B.at hG hK hP hD hS hA hU hW⟩)⟩ rfl rfl hl.1 rfl (lv_room (Nat.le_of_ble_eq_true rfl)) dX2_cut_105 ⟨Nat.le_of_ble_eq_true rfl, Nat.le_of_ble_eq_true rfl⟩) hS (fun q _ h => h) (fun q h => h) (fun u t H1 locs ht hvm hr_31 hB hz1 hk1 hS => ?_)
            obtain ⟨hK, hP, hD⟩ := hB.back ht hvm
            generalize H1 = H at hP hS ⊢
            have hP : va_P D vwCl (xw cI cQ a (upd (upd pl 2 v_26) 1 v_28) pq nq (va_up nm 3 (nm 2)) ab lg 2 kn ++ fr) H := hP
            have hD : va_D A (xw cI cQ a (upd (upd pl 2 v_26) 1 v_28) pq nq (va_up nm 3 (nm 2)) ab lg 2 kn ++ fr) := hD
            refine lv_iinc (v := 1) (lv' := [(3, .int 1), (2, .int 0), (0, .ref (a 0)), (1, .int x)]) hx hb dX2_cut_108 hl (k := 0) rfl (by decide) (by decide) rfl (fun ls hl => ?_)
            refine lv_goto (tgt := 86) hx hb dX2_cut_111 (by decide) ?_
            refine lv_iload_n hx hb dX2_cut_86 rfl (lv_at hl 0 rfl) ?_
            refine lv_iload_n hx hb dX2_cut_87 rfl (lv_at hl 1 rfl) ?_
            refine lv_icmp_lt (tgt := 114) hx hb dX2_cut_88 (by decide) (fun c_32 => absurd c_32 (by decide)) (fun _ => ?_)
            refine lv_aload_n hx hb dX2_cut_91 rfl (lv_at hl 2 rfl) ?_
            refine va_get (D := D) (ci := 2) (v := .ref (a 2)) (C := RX2) (T := TX2) (N := 5) hx hb hg inX2 hown hK hP 0 rfl rfl 1 (by decide) (hg _ fl_X2_15) (fun _ h9 => h9) rfl dX2_cut_92 ?_
            refine lv_iload_n hx hb dX2_cut_95 rfl (lv_at hl 0 rfl) ?_
            refine lv_iconst (v := 1) hx hb dX2_cut_96 (by decide) ?_
            refine lv_iadd hx hb dX2_cut_97 ?_
            rw [show (1 : Int32) + 1 = 2 from by decide]
            refine va_aldq (D := D) (n := 4) (f := (fun j => some (pq j))) hx hb hK hP 2 2 rfl rfl (vp_in_nI (show 2 < 4 by decide) (by decide)) dX2_cut_98 ?_
            refine W.eq (g2 := F0 m 99 ls [.ref (pq 2)]) rfl ?_
            refine lv_aload_n hx hb dX2_cut_99 rfl (lv_at hl 2 rfl) ?_
            refine va_get (D := D) (ci := 2) (v := .ref (a 2)) (C := RX2) (T := TX2) (N := 5) hx hb hg inX2 hown hK hP 0 rfl rfl 1 (by decide) (hg _ fl_X2_15) (fun _ h9 => h9) rfl dX2_cut_100 ?_
            refine lv_iload_n hx hb dX2_cut_103 rfl (lv_at hl 0 rfl) ?_
            refine va_aldq (D := D) (n := 4) (f := (fun j => some (pq j))) hx hb hK hP 2 2 rfl rfl (vp_in_nI (show 1 < 4 by decide) (by decide)) dX2_cut_104 ?_
            refine W.eq (g2 := F0 m 105 ls [.ref (pq 1), .ref (pq 2)]) rfl ?_
            refine va_callv (va_runVN (As := [.ref (pq 1)]) (rest := []) ⟨hx, hb, hml, hown, hg⟩ (c_X0_become l A D cI cL cQ (xw cI cQ a (upd (upd pl 2 v_26) 1 v_28) pq nq (va_up nm 3 (nm 2)) ab lg 2 kn ++ fr) 9 10 (pq 2) (nq 2) ((va_up nm 3 (nm 2)) 2) rfl rfl 7 8 (pq 1) (nq 1) ((va_up nm 3 (nm 2)) 1) rfl rfl) ⟨va_cnB 1 hg (gw_C co_X0_become) rfl rfl rfl (hG.1 _ mn_X2_59) (hg _ ini_X0) (by decide +kernel) ⟨Nat.le_of_ble_eq_true rfl, Nat.le_of_ble_eq_true rfl⟩, hg _ im_X0_become, hg _ se_X0_become⟩ ⟨wd_B.blind, va_recv hK hP (ci := 0) (q0 := 9) rfl rfl, (fun U hU hW => ⟨rfl, wd_B.at hG hK hP hD hS hA hU hW⟩)⟩ rfl rfl hl.1 rfl (lv_room (Nat.le_of_ble_eq_true rfl)) dX2_cut_105 ⟨Nat.le_of_ble_eq_true rfl, Nat.le_of_ble_eq_true rfl⟩) hS (fun q _ h => h) (fun q h => h) (fun u t H1 locs ht hvm hr_33 hB hz1 hk1 hS => ?_)
            obtain ⟨hK, hP, hD⟩ := hB.back ht hvm
            generalize H1 = H at hP hS ⊢
            have hP : va_P D vwCl (xw cI cQ a (upd (upd pl 2 v_26) 1 v_28) pq nq (va_up (va_up nm 3 (nm 2)) 2 ((va_up nm 3 (nm 2)) 1)) ab lg 2 kn ++ fr) H := hP
            have hD : va_D A (xw cI cQ a (upd (upd pl 2 v_26) 1 v_28) pq nq (va_up (va_up nm 3 (nm 2)) 2 ((va_up nm 3 (nm 2)) 1)) ab lg 2 kn ++ fr) := hD
            refine lv_iinc (v := 0) (lv' := [(3, .int 0), (2, .int 0), (0, .ref (a 0)), (1, .int x)]) hx hb dX2_cut_108 hl (k := 0) rfl (by decide) (by decide) rfl (fun ls hl => ?_)
            refine lv_goto (tgt := 86) hx hb dX2_cut_111 (by decide) ?_
            refine lv_iload_n hx hb dX2_cut_86 rfl (lv_at hl 0 rfl) ?_
            refine lv_iload_n hx hb dX2_cut_87 rfl (lv_at hl 1 rfl) ?_
            refine lv_icmp_lt (tgt := 114) hx hb dX2_cut_88 (by decide) (fun c_34 => absurd c_34 (by decide)) (fun _ => ?_)
            refine lv_aload_n hx hb dX2_cut_91 rfl (lv_at hl 2 rfl) ?_
            refine va_get (D := D) (ci := 2) (v := .ref (a 2)) (C := RX2) (T := TX2) (N := 5) hx hb hg inX2 hown hK hP 0 rfl rfl 1 (by decide) (hg _ fl_X2_15) (fun _ h9 => h9) rfl dX2_cut_92 ?_
            refine lv_iload_n hx hb dX2_cut_95 rfl (lv_at hl 0 rfl) ?_
            refine lv_iconst (v := 1) hx hb dX2_cut_96 (by decide) ?_
            refine lv_iadd hx hb dX2_cut_97 ?_
            rw [show (0 : Int32) + 1 = 1 from by decide]
            refine va_aldq (D := D) (n := 4) (f := (fun j => some (pq j))) hx hb hK hP 2 2 rfl rfl (vp_in_nI (show 1 < 4 by decide) (by decide)) dX2_cut_98 ?_
            refine W.eq (g2 := F0 m 99 ls [.ref (pq 1)]) rfl ?_
            refine lv_aload_n hx hb dX2_cut_99 rfl (lv_at hl 2 rfl) ?_
            refine va_get (D := D) (ci := 2) (v := .ref (a 2)) (C := RX2) (T := TX2) (N := 5) hx hb hg inX2 hown hK hP 0 rfl rfl 1 (by decide) (hg _ fl_X2_15) (fun _ h9 => h9) rfl dX2_cut_100 ?_
            refine lv_iload_n hx hb dX2_cut_103 rfl (lv_at hl 0 rfl) ?_
            refine va_aldq (D := D) (n := 4) (f := (fun j => some (pq j))) hx hb hK hP 2 2 rfl rfl (vp_in_nI (show 0 < 4 by decide) (by decide)) dX2_cut_104 ?_
            refine W.eq (g2 := F0 m 105 ls [.ref (pq 0), .ref (pq 1)]) rfl ?_
            refine va_callv (va_runVN (As := [.ref (pq 0)]) (rest := []) ⟨hx, hb, hml, hown, hg⟩ (c_X0_become l A D cI cL cQ (xw cI cQ a (upd (upd pl 2 v_26) 1 v_28) pq nq (va_up (va_up nm 3 (nm 2)) 2 ((va_up nm 3 (nm 2)) 1)) ab lg 2 kn ++ fr) 7 8 (pq 1) (nq 1) ((va_up (va_up nm 3 (nm 2)) 2 ((va_up nm 3 (nm 2)) 1)) 1) rfl rfl 5 6 (pq 0) (nq 0) ((va_up (va_up nm 3 (nm 2)) 2 ((va_up nm 3 (nm 2)) 1)) 0) rfl rfl) ⟨va_cnB 1 hg (gw_C co_X0_become) rfl rfl rfl (hG.1 _ mn_X2_59) (hg _ ini_X0) (by decide +kernel) ⟨Nat.le_of_ble_eq_true rfl, Nat.le_of_ble_eq_true rfl⟩, hg _ im_X0_become, hg _ se_X0_become⟩ ⟨wd_B.blind, va_recv hK hP (ci := 0) (q0 := 7) rfl rfl, (fun U hU hW => ⟨rfl, wd_B.at hG hK hP hD hS hA hU hW⟩)⟩ rfl rfl hl.1 rfl (lv_room (Nat.le_of_ble_eq_true rfl)) dX2_cut_105 ⟨Nat.le_of_ble_eq_true rfl, Nat.le_of_ble_eq_true rfl⟩) hS (fun q _ h => h) (fun q h => h) (fun u t H1 locs ht hvm hr_35 hB hz1 hk1 hS => ?_)
            obtain ⟨hK, hP, hD⟩ := hB.back ht hvm
            generalize H1 = H at hP hS ⊢
            have hP : va_P D vwCl (xw cI cQ a (upd (upd pl 2 v_26) 1 v_28) pq nq (va_up (va_up (va_up nm 3 (nm 2)) 2 ((va_up nm 3 (nm 2)) 1)) 1 ((va_up (va_up nm 3 (nm 2)) 2 ((va_up nm 3 (nm 2)) 1)) 0)) ab lg 2 kn ++ fr) H := hP
            have hD : va_D A (xw cI cQ a (upd (upd pl 2 v_26) 1 v_28) pq nq (va_up (va_up (va_up nm 3 (nm 2)) 2 ((va_up nm 3 (nm 2)) 1)) 1 ((va_up (va_up nm 3 (nm 2)) 2 ((va_up nm 3 (nm 2)) 1)) 0)) ab lg 2 kn ++ fr) := hD
            refine lv_iinc (v := (-1)) (lv' := [(3, .int (-1)), (2, .int 0), (0, .ref (a 0)), (1, .int x)]) hx hb dX2_cut_108 hl (k := 0) rfl (by decide) (by decide) rfl (fun ls hl => ?_)
            refine lv_goto (tgt := 86) hx hb dX2_cut_111 (by decide) ?_
            refine lv_iload_n hx hb dX2_cut_86 rfl (lv_at hl 0 rfl) ?_
            refine lv_iload_n hx hb dX2_cut_87 rfl (lv_at hl 1 rfl) ?_
            refine lv_icmp_lt (tgt := 114) hx hb dX2_cut_88 (by decide) (fun _ => ?_) (fun c_36 => absurd c_36 (by decide))
            refine lv_aload_n hx hb dX2_cut_114 rfl (lv_at hl 2 rfl) ?_
            refine va_get (D := D) (ci := 2) (v := .ref (a 1)) (C := RX2) (T := TX2) (N := 5) hx hb hg inX2 hown hK hP 0 rfl rfl 0 (by decide) (hg _ fl_X2_9) (fun _ h9 => h9) rfl dX2_cut_115 ?_
            refine lv_iload_n hx hb dX2_cut_118 rfl (lv_at hl 1 rfl) ?_
            refine lv_iload_n hx hb dX2_cut_119 rfl (lv_at hl 3 rfl) ?_
            refine va_iast (D := D) (n := 3) (f := (upd (upd pl 2 v_26) 1 v_28)) (x := x) hx hb hK hP hD hS 1 0 rfl rfl (vp_in_nI (show 0 < 3 by decide) (by decide)) dX2_cut_120 (fun H locs hP hD hS => ?_)
            rw [show (0 : Int32).toNatClampNeg = 0 from by decide] at hP hD
            have hP : va_P D vwCl (xw cI cQ a (upd (upd (upd pl 2 v_26) 1 v_28) 0 x) pq nq (va_up (va_up (va_up nm 3 (nm 2)) 2 ((va_up nm 3 (nm 2)) 1)) 1 ((va_up (va_up nm 3 (nm 2)) 2 ((va_up nm 3 (nm 2)) 1)) 0)) ab lg 2 kn ++ fr) H := hP
            have hD : va_D A (xw cI cQ a (upd (upd (upd pl 2 v_26) 1 v_28) 0 x) pq nq (va_up (va_up (va_up nm 3 (nm 2)) 2 ((va_up nm 3 (nm 2)) 1)) 1 ((va_up (va_up nm 3 (nm 2)) 2 ((va_up nm 3 (nm 2)) 1)) 0)) ab lg 2 kn ++ fr) := hD
            refine lv_aload_n hx hb dX2_cut_121 rfl (lv_at hl 2 rfl) ?_
            refine lv_dup hx hb dX2_cut_122 rfl ?_
            refine va_get (D := D) (ci := 2) (v := .int 2) (C := RX2) (T := TX2) (N := 5) hx hb hg inX2 hown hK hP 0 rfl rfl 3 (by decide) (hg _ fl_X2_26) (fun _ h9 => h9) rfl dX2_cut_123 ?_
            refine lv_iconst (v := 1) hx hb dX2_cut_126 (by decide) ?_
            refine lv_iadd hx hb dX2_cut_127 ?_
            rw [show (2 : Int32) + 1 = 3 from by decide]
            refine va_put (D := D) (ci := 2) (v := .int 3) (ty := .int) (C := RX2) (T := TX2) (N := 5) hx hb hg inX2 tyX2 tyX2_ok nmX2 hown hK hP hD hS 0 rfl rfl 3 (by decide) (hg _ fl_X2_26) (fun _ h9 => h9) rfl (by decide +kernel) rfl rfl (Nat.le_of_ble_eq_true rfl) dX2_cut_128 (fun H locs hP hD hS => ?_)
            have hP : va_P D vwCl (xw cI cQ a (upd (upd (upd pl 2 v_26) 1 v_28) 0 x) pq nq (va_up (va_up (va_up nm 3 (nm 2)) 2 ((va_up nm 3 (nm 2)) 1)) 1 ((va_up (va_up nm 3 (nm 2)) 2 ((va_up nm 3 (nm 2)) 1)) 0)) ab lg 3 kn ++ fr) H := hP
            have hD : va_D A (xw cI cQ a (upd (upd (upd pl 2 v_26) 1 v_28) 0 x) pq nq (va_up (va_up (va_up nm 3 (nm 2)) 2 ((va_up nm 3 (nm 2)) 1)) 1 ((va_up (va_up nm 3 (nm 2)) 2 ((va_up nm 3 (nm 2)) 1)) 0)) ab lg 3 kn ++ fr) := hD
            refine lv_iload_n hx hb dX2_cut_131 rfl (lv_at hl 1 rfl) ?_
            refine vx_ret ?_
            refine W.widen (k := 1) (n := 6) (Nat.zero_le _) (Nat.zero_le _) ?_
            exact W.iret (v := 0) hx hb hr (fun t ht hW => ⟨⟨0, ((upd (upd (upd pl 2 v_26) 1 v_28) 0 x), (va_up (va_up (va_up nm 3 (nm 2)) 2 ((va_up nm 3 (nm 2)) 1)) 1 ((va_up (va_up nm 3 (nm 2)) 2 ((va_up nm 3 (nm 2)) 1)) 0))), rfl, ⟨hi6, hcu, by omega, rfl, fun j hj => by rcases (show j = 0 ∨ j = 1 ∨ j = 2 by omega) with rfl | rfl | rfl <;> simp [upd, ev_26, ev_28], fun j hj => by rcases (show j = 0 ∨ j = 1 ∨ j = 2 ∨ j = 3 by omega) with rfl | rfl | rfl | rfl <;> simp [va_up]⟩, wd_E.at hK hP hD ht hW⟩, hS.F ht⟩) hS.2.2 dX2_cut_132
          · rw [hk]
            refine W.eq (g2 := F0 m 50 ls [.int 1]) rfl ?_
            refine lv_istore_n (lv' := [(2, .int 1), (0, .ref (a 0)), (1, .int x)]) hx hb dX2_cut_50 rfl hl (by decide) rfl (fun ls hl => ?_)
            refine lv_aload_n hx hb dX2_cut_51 rfl (lv_at hl 1 rfl) ?_
            refine va_get (D := D) (ci := 2) (v := .int 2) (C := RX2) (T := TX2) (N := 5) hx hb hg inX2 hown hK hP 0 rfl rfl 3 (by decide) (hg _ fl_X2_26) (fun _ h9 => h9) rfl dX2_cut_52 ?_
            refine lv_istore_n (lv' := [(3, .int 2), (2, .int 1), (0, .ref (a 0)), (1, .int x)]) hx hb dX2_cut_55 rfl hl (by decide) rfl (fun ls hl => ?_)
            refine lv_iload_n hx hb dX2_cut_56 rfl (lv_at hl 0 rfl) ?_
            refine lv_iload_n hx hb dX2_cut_57 rfl (lv_at hl 1 rfl) ?_
            refine lv_icmp_le (tgt := 81) hx hb dX2_cut_58 (by decide) (fun c_37 => absurd c_37 (by decide)) (fun _ => ?_)
            refine lv_aload_n hx hb dX2_cut_61 rfl (lv_at hl 2 rfl) ?_
            refine va_get (D := D) (ci := 2) (v := .ref (a 1)) (C := RX2) (T := TX2) (N := 5) hx hb hg inX2 hown hK hP 0 rfl rfl 0 (by decide) (hg _ fl_X2_9) (fun _ h9 => h9) rfl dX2_cut_62 ?_
            refine lv_iload_n hx hb dX2_cut_65 rfl (lv_at hl 0 rfl) ?_
            refine lv_aload_n hx hb dX2_cut_66 rfl (lv_at hl 2 rfl) ?_
            refine va_get (D := D) (ci := 2) (v := .ref (a 1)) (C := RX2) (T := TX2) (N := 5) hx hb hg inX2 hown hK hP 0 rfl rfl 0 (by decide) (hg _ fl_X2_9) (fun _ h9 => h9) rfl dX2_cut_67 ?_
            refine lv_iload_n hx hb dX2_cut_70 rfl (lv_at hl 0 rfl) ?_
            refine lv_iconst (v := 1) hx hb dX2_cut_71 (by decide) ?_
            refine lv_isub hx hb dX2_cut_72 ?_
            rw [show (2 : Int32) - 1 = 1 from by decide]
            refine va_iald (D := D) (n := 3) (f := pl) hx hb hK hP 1 0 rfl rfl (vp_in_nI (show 1 < 3 by decide) (by decide)) dX2_cut_73 ?_
            rw [show (1 : Int32).toNatClampNeg = 1 from by decide]
            refine lv_topi (fun v_38 ev_38 => ?_)
            refine va_iast (D := D) (n := 3) (f := pl) (x := v_38) hx hb hK hP hD hS 1 0 rfl rfl (vp_in_nI (show 2 < 3 by decide) (by decide)) dX2_cut_74 (fun H locs hP hD hS => ?_)
            rw [show (2 : Int32).toNatClampNeg = 2 from by decide] at hP hD
            have hP : va_P D vwCl (xw cI cQ a (upd pl 2 v_38) pq nq nm ab lg 2 kn ++ fr) H := hP
            have hD : va_D A (xw cI cQ a (upd pl 2 v_38) pq nq nm ab lg 2 kn ++ fr) := hD
            refine lv_iinc (v := 1) (lv' := [(3, .int 1), (2, .int 1), (0, .ref (a 0)), (1, .int x)]) hx hb dX2_cut_75 hl (k := 0) rfl (by decide) (by decide) rfl (fun ls hl => ?_)
            refine lv_goto (tgt := 56) hx hb dX2_cut_78 (by decide) ?_
            refine lv_iload_n hx hb dX2_cut_56 rfl (lv_at hl 0 rfl) ?_
            refine lv_iload_n hx hb dX2_cut_57 rfl (lv_at hl 1 rfl) ?_
            refine lv_icmp_le (tgt := 81) hx hb dX2_cut_58 (by decide) (fun _ => ?_) (fun c_39 => absurd c_39 (by decide))
            refine lv_aload_n hx hb dX2_cut_81 rfl (lv_at hl 2 rfl) ?_
            refine va_get (D := D) (ci := 2) (v := .int 2) (C := RX2) (T := TX2) (N := 5) hx hb hg inX2 hown hK hP 0 rfl rfl 3 (by decide) (hg _ fl_X2_26) (fun _ h9 => h9) rfl dX2_cut_82 ?_
            refine lv_istore_n (lv' := [(3, .int 2), (2, .int 1), (0, .ref (a 0)), (1, .int x)]) hx hb dX2_cut_85 rfl hl (by decide) rfl (fun ls hl => ?_)
            refine lv_iload_n hx hb dX2_cut_86 rfl (lv_at hl 0 rfl) ?_
            refine lv_iload_n hx hb dX2_cut_87 rfl (lv_at hl 1 rfl) ?_
            refine lv_icmp_lt (tgt := 114) hx hb dX2_cut_88 (by decide) (fun c_40 => absurd c_40 (by decide)) (fun _ => ?_)
            refine lv_aload_n hx hb dX2_cut_91 rfl (lv_at hl 2 rfl) ?_
            refine va_get (D := D) (ci := 2) (v := .ref (a 2)) (C := RX2) (T := TX2) (N := 5) hx hb hg inX2 hown hK hP 0 rfl rfl 1 (by decide) (hg _ fl_X2_15) (fun _ h9 => h9) rfl dX2_cut_92 ?_
            refine lv_iload_n hx hb dX2_cut_95 rfl (lv_at hl 0 rfl) ?_
            refine lv_iconst (v := 1) hx hb dX2_cut_96 (by decide) ?_
            refine lv_iadd hx hb dX2_cut_97 ?_
            rw [show (2 : Int32) + 1 = 3 from by decide]
            refine va_aldq (D := D) (n := 4) (f := (fun j => some (pq j))) hx hb hK hP 2 2 rfl rfl (vp_in_nI (show 3 < 4 by decide) (by decide)) dX2_cut_98 ?_
            refine W.eq (g2 := F0 m 99 ls [.ref (pq 3)]) rfl ?_
            refine lv_aload_n hx hb dX2_cut_99 rfl (lv_at hl 2 rfl) ?_
            refine va_get (D := D) (ci := 2) (v := .ref (a 2)) (C := RX2) (T := TX2) (N := 5) hx hb hg inX2 hown hK hP 0 rfl rfl 1 (by decide) (hg _ fl_X2_15) (fun _ h9 => h9) rfl dX2_cut_100 ?_
            refine lv_iload_n hx hb dX2_cut_103 rfl (lv_at hl 0 rfl) ?_
            refine va_aldq (D := D) (n := 4) (f := (fun j => some (pq j))) hx hb hK hP 2 2 rfl rfl (vp_in_nI (show 2 < 4 by decide) (by decide)) dX2_cut_104 ?_
            refine W.eq (g2 := F0 m 105 ls [.ref (pq 2), .ref (pq 3)]) rfl ?_
            refine va_callv (va_runVN (As := [.ref (pq 2)]) (rest := []) ⟨hx, hb, hml, hown, hg⟩ (c_X0_become l A D cI cL cQ (xw cI cQ a (upd pl 2 v_38) pq nq nm ab lg 2 kn ++ fr) 11 12 (pq 3) (nq 3) (nm 3) rfl rfl 9 10 (pq 2) (nq 2) (nm 2) rfl rfl) ⟨va_cnB 1 hg (gw_C co_X0_become) rfl rfl rfl (hG.1 _ mn_X2_59) (hg _ ini_X0) (by decide +kernel) ⟨Nat.le_of_ble_eq_true rfl, Nat.le_of_ble_eq_true rfl⟩, hg _ im_X0_become, hg _ se_X0_become⟩ ⟨wd_B.blind, va_recv hK hP (ci := 0) (q0 := 11) rfl rfl, (fun U hU hW => ⟨rfl, wd_B.at hG hK hP hD hS hA hU hW⟩)⟩ rfl rfl hl.1 rfl (lv_room (Nat.le_of_ble_eq_true rfl)) dX2_cut_105 ⟨Nat.le_of_ble_eq_true rfl, Nat.le_of_ble_eq_true rfl⟩) hS (fun q _ h => h) (fun q h => h) (fun u t H1 locs ht hvm hr_41 hB hz1 hk1 hS => ?_)
            obtain ⟨hK, hP, hD⟩ := hB.back ht hvm
            generalize H1 = H at hP hS ⊢
            have hP : va_P D vwCl (xw cI cQ a (upd pl 2 v_38) pq nq (va_up nm 3 (nm 2)) ab lg 2 kn ++ fr) H := hP
            have hD : va_D A (xw cI cQ a (upd pl 2 v_38) pq nq (va_up nm 3 (nm 2)) ab lg 2 kn ++ fr) := hD
            refine lv_iinc (v := 1) (lv' := [(3, .int 1), (2, .int 1), (0, .ref (a 0)), (1, .int x)]) hx hb dX2_cut_108 hl (k := 0) rfl (by decide) (by decide) rfl (fun ls hl => ?_)
            refine lv_goto (tgt := 86) hx hb dX2_cut_111 (by decide) ?_
            refine lv_iload_n hx hb dX2_cut_86 rfl (lv_at hl 0 rfl) ?_
            refine lv_iload_n hx hb dX2_cut_87 rfl (lv_at hl 1 rfl) ?_
            refine lv_icmp_lt (tgt := 114) hx hb dX2_cut_88 (by decide) (fun c_42 => absurd c_42 (by decide)) (fun _ => ?_)
            refine lv_aload_n hx hb dX2_cut_91 rfl (lv_at hl 2 rfl) ?_
            refine va_get (D := D) (ci := 2) (v := .ref (a 2)) (C := RX2) (T := TX2) (N := 5) hx hb hg inX2 hown hK hP 0 rfl rfl 1 (by decide) (hg _ fl_X2_15) (fun _ h9 => h9) rfl dX2_cut_92 ?_
            refine lv_iload_n hx hb dX2_cut_95 rfl (lv_at hl 0 rfl) ?_
            refine lv_iconst (v := 1) hx hb dX2_cut_96 (by decide) ?_
            refine lv_iadd hx hb dX2_cut_97 ?_
            rw [show (1 : Int32) + 1 = 2 from by decide]
            refine va_aldq (D := D) (n := 4) (f := (fun j => some (pq j))) hx hb hK hP 2 2 rfl rfl (vp_in_nI (show 2 < 4 by decide) (by decide)) dX2_cut_98 ?_
            refine W.eq (g2 := F0 m 99 ls [.ref (pq 2)]) rfl ?_
            refine lv_aload_n hx hb dX2_cut_99 rfl (lv_at hl 2 rfl) ?_
            refine va_get (D := D) (ci := 2) (v := .ref (a 2)) (C := RX2) (T := TX2) (N := 5) hx hb hg inX2 hown hK hP 0 rfl rfl 1 (by decide) (hg _ fl_X2_15) (fun _ h9 => h9) rfl dX2_cut_100 ?_
            refine lv_iload_n hx hb dX2_cut_103 rfl (lv_at hl 0 rfl) ?_
            refine va_aldq (D := D) (n := 4) (f := (fun j => some (pq j))) hx hb hK hP 2 2 rfl rfl (vp_in_nI (show 1 < 4 by decide) (by decide)) dX2_cut_104 ?_
            refine W.eq (g2 := F0 m 105 ls [.ref (pq 1), .ref (pq 2)]) rfl ?_
            refine va_callv (va_runVN (As := [.ref (pq 1)]) (rest := []) ⟨hx, hb, hml, hown, hg⟩ (c_X0_become l A D cI cL cQ (xw cI cQ a (upd pl 2 v_38) pq nq (va_up nm 3 (nm 2)) ab lg 2 kn ++ fr) 9 10 (pq 2) (nq 2) ((va_up nm 3 (nm 2)) 2) rfl rfl 7 8 (pq 1) (nq 1) ((va_up nm 3 (nm 2)) 1) rfl rfl) ⟨va_cnB 1 hg (gw_C co_X0_become) rfl rfl rfl (hG.1 _ mn_X2_59) (hg _ ini_X0) (by decide +kernel) ⟨Nat.le_of_ble_eq_true rfl, Nat.le_of_ble_eq_true rfl⟩, hg _ im_X0_become, hg _ se_X0_become⟩ ⟨wd_B.blind, va_recv hK hP (ci := 0) (q0 := 9) rfl rfl, (fun U hU hW => ⟨rfl, wd_B.at hG hK hP hD hS hA hU hW⟩)⟩ rfl rfl hl.1 rfl (lv_room (Nat.le_of_ble_eq_true rfl)) dX2_cut_105 ⟨Nat.le_of_ble_eq_true rfl, Nat.le_of_ble_eq_true rfl⟩) hS (fun q _ h => h) (fun q h => h) (fun u t H1 locs ht hvm hr_43 hB hz1 hk1 hS => ?_)
            obtain ⟨hK, hP, hD⟩ := hB.back ht hvm
            generalize H1 = H at hP hS ⊢
            have hP : va_P D vwCl (xw cI cQ a (upd pl 2 v_38) pq nq (va_up (va_up nm 3 (nm 2)) 2 ((va_up nm 3 (nm 2)) 1)) ab lg 2 kn ++ fr) H := hP
            have hD : va_D A (xw cI cQ a (upd pl 2 v_38) pq nq (va_up (va_up nm 3 (nm 2)) 2 ((va_up nm 3 (nm 2)) 1)) ab lg 2 kn ++ fr) := hD
            refine lv_iinc (v := 0) (lv' := [(3, .int 0), (2, .int 1), (0, .ref (a 0)), (1, .int x)]) hx hb dX2_cut_108 hl (k := 0) rfl (by decide) (by decide) rfl (fun ls hl => ?_)
            refine lv_goto (tgt := 86) hx hb dX2_cut_111 (by decide) ?_
            refine lv_iload_n hx hb dX2_cut_86 rfl (lv_at hl 0 rfl) ?_
            refine lv_iload_n hx hb dX2_cut_87 rfl (lv_at hl 1 rfl) ?_
            refine lv_icmp_lt (tgt := 114) hx hb dX2_cut_88 (by decide) (fun _ => ?_) (fun c_44 => absurd c_44 (by decide))
            refine lv_aload_n hx hb dX2_cut_114 rfl (lv_at hl 2 rfl) ?_
            refine va_get (D := D) (ci := 2) (v := .ref (a 1)) (C := RX2) (T := TX2) (N := 5) hx hb hg inX2 hown hK hP 0 rfl rfl 0 (by decide) (hg _ fl_X2_9) (fun _ h9 => h9) rfl dX2_cut_115 ?_
            refine lv_iload_n hx hb dX2_cut_118 rfl (lv_at hl 1 rfl) ?_
            refine lv_iload_n hx hb dX2_cut_119 rfl (lv_at hl 3 rfl) ?_
            refine va_iast (D := D) (n := 3) (f := (upd pl 2 v_38)) (x := x) hx hb hK hP hD hS 1 0 rfl rfl (vp_in_nI (show 1 < 3 by decide) (by decide)) dX2_cut_120 (fun H locs hP hD hS => ?_)
            rw [show (1 : Int32).toNatClampNeg = 1 from by decide] at hP hD
            have hP : va_P D vwCl (xw cI cQ a (upd (upd pl 2 v_38) 1 x) pq nq (va_up (va_up nm 3 (nm 2)) 2 ((va_up nm 3 (nm 2)) 1)) ab lg 2 kn ++ fr) H := hP
            have hD : va_D A (xw cI cQ a (upd (upd pl 2 v_38) 1 x) pq nq (va_up (va_up nm 3 (nm 2)) 2 ((va_up nm 3 (nm 2)) 1)) ab lg 2 kn ++ fr) := hD
            refine lv_aload_n hx hb dX2_cut_121 rfl (lv_at hl 2 rfl) ?_
            refine lv_dup hx hb dX2_cut_122 rfl ?_
            refine va_get (D := D) (ci := 2) (v := .int 2) (C := RX2) (T := TX2) (N := 5) hx hb hg inX2 hown hK hP 0 rfl rfl 3 (by decide) (hg _ fl_X2_26) (fun _ h9 => h9) rfl dX2_cut_123 ?_
            refine lv_iconst (v := 1) hx hb dX2_cut_126 (by decide) ?_
            refine lv_iadd hx hb dX2_cut_127 ?_
            rw [show (2 : Int32) + 1 = 3 from by decide]
            refine va_put (D := D) (ci := 2) (v := .int 3) (ty := .int) (C := RX2) (T := TX2) (N := 5) hx hb hg inX2 tyX2 tyX2_ok nmX2 hown hK hP hD hS 0 rfl rfl 3 (by decide) (hg _ fl_X2_26) (fun _ h9 => h9) rfl (by decide +kernel) rfl rfl (Nat.le_of_ble_eq_true rfl) dX2_cut_128 (fun H locs hP hD hS => ?_)
            have hP : va_P D vwCl (xw cI cQ a (upd (upd pl 2 v_38) 1 x) pq nq (va_up (va_up nm 3 (nm 2)) 2 ((va_up nm 3 (nm 2)) 1)) ab lg 3 kn ++ fr) H := hP
            have hD : va_D A (xw cI cQ a (upd (upd pl 2 v_38) 1 x) pq nq (va_up (va_up nm 3 (nm 2)) 2 ((va_up nm 3 (nm 2)) 1)) ab lg 3 kn ++ fr) := hD
            refine lv_iload_n hx hb dX2_cut_131 rfl (lv_at hl 1 rfl) ?_
            refine vx_ret ?_
            refine W.widen (k := 1) (n := 6) (Nat.zero_le _) (Nat.zero_le _) ?_
            exact W.iret (v := 1) hx hb hr (fun t ht hW => ⟨⟨1, ((upd (upd pl 2 v_38) 1 x), (va_up (va_up nm 3 (nm 2)) 2 ((va_up nm 3 (nm 2)) 1))), rfl, ⟨hi6, hcu, by omega, rfl, fun j hj => by rcases (show j = 0 ∨ j = 1 ∨ j = 2 by omega) with rfl | rfl | rfl <;> simp [upd, ev_38], fun j hj => by rcases (show j = 0 ∨ j = 1 ∨ j = 2 ∨ j = 3 by omega) with rfl | rfl | rfl | rfl <;> simp [va_up]⟩, wd_E.at hK hP hD ht hW⟩, hS.F ht⟩) hS.2.2 dX2_cut_132
          · rw [hk]
            refine W.eq (g2 := F0 m 50 ls [.int 2]) rfl ?_
            refine lv_istore_n (lv' := [(2, .int 2), (0, .ref (a 0)), (1, .int x)]) hx hb dX2_cut_50 rfl hl (by decide) rfl (fun ls hl => ?_)
            refine lv_aload_n hx hb dX2_cut_51 rfl (lv_at hl 1 rfl) ?_
            refine va_get (D := D) (ci := 2) (v := .int 2) (C := RX2) (T := TX2) (N := 5) hx hb hg inX2 hown hK hP 0 rfl rfl 3 (by decide) (hg _ fl_X2_26) (fun _ h9 => h9) rfl dX2_cut_52 ?_
            refine lv_istore_n (lv' := [(3, .int 2), (2, .int 2), (0, .ref (a 0)), (1, .int x)]) hx hb dX2_cut_55 rfl hl (by decide) rfl (fun ls hl => ?_)
            refine lv_iload_n hx hb dX2_cut_56 rfl (lv_at hl 0 rfl) ?_
            refine lv_iload_n hx hb dX2_cut_57 rfl (lv_at hl 1 rfl) ?_
            refine lv_icmp_le (tgt := 81) hx hb dX2_cut_58 (by decide) (fun _ => ?_) (fun c_45 => absurd c_45 (by decide))
            refine lv_aload_n hx hb dX2_cut_81 rfl (lv_at hl 2 rfl) ?_
            refine va_get (D := D) (ci := 2) (v := .int 2) (C := RX2) (T := TX2) (N := 5) hx hb hg inX2 hown hK hP 0 rfl rfl 3 (by decide) (hg _ fl_X2_26) (fun _ h9 => h9) rfl dX2_cut_82 ?_
            refine lv_istore_n (lv' := [(3, .int 2), (2, .int 2), (0, .ref (a 0)), (1, .int x)]) hx hb dX2_cut_85 rfl hl (by decide) rfl (fun ls hl => ?_)
            refine lv_iload_n hx hb dX2_cut_86 rfl (lv_at hl 0 rfl) ?_
            refine lv_iload_n hx hb dX2_cut_87 rfl (lv_at hl 1 rfl) ?_
            refine lv_icmp_lt (tgt := 114) hx hb dX2_cut_88 (by decide) (fun c_46 => absurd c_46 (by decide)) (fun _ => ?_)
            refine lv_aload_n hx hb dX2_cut_91 rfl (lv_at hl 2 rfl) ?_
            refine va_get (D := D) (ci := 2) (v := .ref (a 2)) (C := RX2) (T := TX2) (N := 5) hx hb hg inX2 hown hK hP 0 rfl rfl 1 (by decide) (hg _ fl_X2_15) (fun _ h9 => h9) rfl dX2_cut_92 ?_
            refine lv_iload_n hx hb dX2_cut_95 rfl (lv_at hl 0 rfl) ?_
            refine lv_iconst (v := 1) hx hb dX2_cut_96 (by decide) ?_
            refine lv_iadd hx hb dX2_cut_97 ?_
            rw [show (2 : Int32) + 1 = 3 from by decide]
            refine va_aldq (D := D) (n := 4) (f := (fun j => some (pq j))) hx hb hK hP 2 2 rfl rfl (vp_in_nI (show 3 < 4 by decide) (by decide)) dX2_cut_98 ?_
            refine W.eq (g2 := F0 m 99 ls [.ref (pq 3)]) rfl ?_
            refine lv_aload_n hx hb dX2_cut_99 rfl (lv_at hl 2 rfl) ?_
            refine va_get (D := D) (ci := 2) (v := .ref (a 2)) (C := RX2) (T := TX2) (N := 5) hx hb hg inX2 hown hK hP 0 rfl rfl 1 (by decide) (hg _ fl_X2_15) (fun _ h9 => h9) rfl dX2_cut_100 ?_
            refine lv_iload_n hx hb dX2_cut_103 rfl (lv_at hl 0 rfl) ?_
            refine va_aldq (D := D) (n := 4) (f := (fun j => some (pq j))) hx hb hK hP 2 2 rfl rfl (vp_in_nI (show 2 < 4 by decide) (by decide)) dX2_cut_104 ?_
            refine W.eq (g2 := F0 m 105 ls [.ref (pq 2), .ref (pq 3)]) rfl ?_
            refine va_callv (va_runVN (As := [.ref (pq 2)]) (rest := []) ⟨hx, hb, hml, hown, hg⟩ (c_X0_become l A D cI cL cQ (xw cI cQ a pl pq nq nm ab lg 2 kn ++ fr) 11 12 (pq 3) (nq 3) (nm 3) rfl rfl 9 10 (pq 2) (nq 2) (nm 2) rfl rfl) ⟨va_cnB 1 hg (gw_C co_X0_become) rfl rfl rfl (hG.1 _ mn_X2_59) (hg _ ini_X0) (by decide +kernel) ⟨Nat.le_of_ble_eq_true rfl, Nat.le_of_ble_eq_true rfl⟩, hg _ im_X0_become, hg _ se_X0_become⟩ ⟨wd_B.blind, va_recv hK hP (ci := 0) (q0 := 11) rfl rfl, (fun U hU hW => ⟨rfl, wd_B.at hG hK hP hD hS hA hU hW⟩)⟩ rfl rfl hl.1 rfl (lv_room (Nat.le_of_ble_eq_true rfl)) dX2_cut_105 ⟨Nat.le_of_ble_eq_true rfl, Nat.le_of_ble_eq_true rfl⟩) hS (fun q _ h => h) (fun q h => h) (fun u t H1 locs ht hvm hr_47 hB hz1 hk1 hS => ?_)
            obtain ⟨hK, hP, hD⟩ := hB.back ht hvm
            generalize H1 = H at hP hS ⊢
            have hP : va_P D vwCl (xw cI cQ a pl pq nq (va_up nm 3 (nm 2)) ab lg 2 kn ++ fr) H := hP
            have hD : va_D A (xw cI cQ a pl pq nq (va_up nm 3 (nm 2)) ab lg 2 kn ++ fr) := hD
            refine lv_iinc (v := 1) (lv' := [(3, .int 1), (2, .int 2), (0, .ref (a 0)), (1, .int x)]) hx hb dX2_cut_108 hl (k := 0) rfl (by decide) (by decide) rfl (fun ls hl => ?_)
            refine lv_goto (tgt := 86) hx hb dX2_cut_111 (by decide) ?_
            refine lv_iload_n hx hb dX2_cut_86 rfl (lv_at hl 0 rfl) ?_
            refine lv_iload_n hx hb dX2_cut_87 rfl (lv_at hl 1 rfl) ?_
            refine lv_icmp_lt (tgt := 114) hx hb dX2_cut_88 (by decide) (fun _ => ?_) (fun c_48 => absurd c_48 (by decide))
            refine lv_aload_n hx hb dX2_cut_114 rfl (lv_at hl 2 rfl) ?_
            refine va_get (D := D) (ci := 2) (v := .ref (a 1)) (C := RX2) (T := TX2) (N := 5) hx hb hg inX2 hown hK hP 0 rfl rfl 0 (by decide) (hg _ fl_X2_9) (fun _ h9 => h9) rfl dX2_cut_115 ?_
            refine lv_iload_n hx hb dX2_cut_118 rfl (lv_at hl 1 rfl) ?_
            refine lv_iload_n hx hb dX2_cut_119 rfl (lv_at hl 3 rfl) ?_
            refine va_iast (D := D) (n := 3) (f := pl) (x := x) hx hb hK hP hD hS 1 0 rfl rfl (vp_in_nI (show 2 < 3 by decide) (by decide)) dX2_cut_120 (fun H locs hP hD hS => ?_)
            rw [show (2 : Int32).toNatClampNeg = 2 from by decide] at hP hD
            have hP : va_P D vwCl (xw cI cQ a (upd pl 2 x) pq nq (va_up nm 3 (nm 2)) ab lg 2 kn ++ fr) H := hP
            have hD : va_D A (xw cI cQ a (upd pl 2 x) pq nq (va_up nm 3 (nm 2)) ab lg 2 kn ++ fr) := hD
            refine lv_aload_n hx hb dX2_cut_121 rfl (lv_at hl 2 rfl) ?_
            refine lv_dup hx hb dX2_cut_122 rfl ?_
            refine va_get (D := D) (ci := 2) (v := .int 2) (C := RX2) (T := TX2) (N := 5) hx hb hg inX2 hown hK hP 0 rfl rfl 3 (by decide) (hg _ fl_X2_26) (fun _ h9 => h9) rfl dX2_cut_123 ?_
            refine lv_iconst (v := 1) hx hb dX2_cut_126 (by decide) ?_
            refine lv_iadd hx hb dX2_cut_127 ?_
            rw [show (2 : Int32) + 1 = 3 from by decide]
            refine va_put (D := D) (ci := 2) (v := .int 3) (ty := .int) (C := RX2) (T := TX2) (N := 5) hx hb hg inX2 tyX2 tyX2_ok nmX2 hown hK hP hD hS 0 rfl rfl 3 (by decide) (hg _ fl_X2_26) (fun _ h9 => h9) rfl (by decide +kernel) rfl rfl (Nat.le_of_ble_eq_true rfl) dX2_cut_128 (fun H locs hP hD hS => ?_)
            have hP : va_P D vwCl (xw cI cQ a (upd pl 2 x) pq nq (va_up nm 3 (nm 2)) ab lg 3 kn ++ fr) H := hP
            have hD : va_D A (xw cI cQ a (upd pl 2 x) pq nq (va_up nm 3 (nm 2)) ab lg 3 kn ++ fr) := hD
            refine lv_iload_n hx hb dX2_cut_131 rfl (lv_at hl 1 rfl) ?_
            refine vx_ret ?_
            refine W.widen (k := 1) (n := 6) (Nat.zero_le _) (Nat.zero_le _) ?_
            exact W.iret (v := 2) hx hb hr (fun t ht hW => ⟨⟨2, ((upd pl 2 x), (va_up nm 3 (nm 2))), rfl, ⟨hi6, hcu, by omega, rfl, fun j hj => by rcases (show j = 0 ∨ j = 1 ∨ j = 2 by omega) with rfl | rfl | rfl <;> simp [upd], fun j hj => by rcases (show j = 0 ∨ j = 1 ∨ j = 2 ∨ j = 3 by omega) with rfl | rfl | rfl | rfl <;> simp [va_up]⟩, wd_E.at hK hP hD ht hW⟩, hS.F ht⟩) hS.2.2 dX2_cut_132
      · replace c_5 : ¬ cnt < 3 := fun h => c_5 ((nI_ltI (a := cnt) (b := 3) (by omega) (by omega)).mpr h)
        obtain ⟨sa, hsa⟩ := hG.2.2.2.1 (52, "there are 3 cuts") (by decide)
        exact vx_throwS (names := ["java/lang/RuntimeException", "java/lang/Exception"]) (A := A) (sa := sa) hx hb hlt hown (by decide) (by decide) (hg _ cl_X2_50) (hg _ ini_IllegalStateException) hsa (fun w hw => (xa_54 w hw).elim (hg w) (fun h => hG.nest h)) xg_54 hG.2.2.2.2.1 hG.2.2.2.2.2.1 hS (hl.1.trans hml.symm) dX2_cut_35 dX2_cut_38 dX2_cut_39 dX2_cut_41 dX2_cut_44 (fun x hx9 => (htab x hx9).elim) (Nat.le_of_ble_eq_true rfl) (Nat.le_of_ble_eq_true rfl) (Nat.le_of_ble_eq_true rfl) (Nat.le_of_ble_eq_true rfl) hlocks (fun t hal hsz hq => ⟨(), trivial, ⟨Or.inr ⟨rfl, by rw [c_2, c_4]; rfl, by omega⟩, (wd_thr hK hP hD hS t hal hsz hq).1⟩, (wd_thr hK hP hD hS t hal hsz hq).2⟩) hS.2.2 (Nat.le_of_ble_eq_true rfl) (Nat.le_of_ble_eq_true rfl)
    · replace c_4 := zi_n0 c_4
      obtain ⟨sa, hsa⟩ := hG.2.2.2.1 (45, "no place for a cut") (by decide)
      exact vx_throwS (names := ["java/lang/RuntimeException", "java/lang/Exception"]) (A := A) (sa := sa) hx hb hlt hown (by decide) (by decide) (hg _ cl_X2_43) (hg _ ini_IllegalArgumentException) hsa (fun w hw => (xa_47 w hw).elim (hg w) (fun h => hG.nest h)) xg_47 hG.2.2.2.2.1 hG.2.2.2.2.2.1 hS (hl.1.trans hml.symm) dX2_cut_17 dX2_cut_20 dX2_cut_21 dX2_cut_23 dX2_cut_26 (fun x hx9 => (htab x hx9).elim) (Nat.le_of_ble_eq_true rfl) (Nat.le_of_ble_eq_true rfl) (Nat.le_of_ble_eq_true rfl) (Nat.le_of_ble_eq_true rfl) hlocks (fun t hal hsz hq => ⟨(), trivial, ⟨Or.inl ⟨rfl, by simp [c_2, c_4]⟩, (wd_thr hK hP hD hS t hal hsz hq).1⟩, (wd_thr hK hP hD hS t hal hsz hq).2⟩) hS.2.2 (Nat.le_of_ble_eq_true rfl) (Nat.le_of_ble_eq_true rfl)
set_option maxHeartbeats 4000000 in
set_option maxRecDepth 100000 in
theorem c_X2_join (l : Launch) (hlt : l.stackTraces = false) (A : Nat → Prop) (D : va_G) (cI cL cQ : ClassId) (fr : va_W) (a : Nat → Nat) (pl : Nat → Int32) (pq nq : Nat → Nat) (nm : Nat → Nat → Int32) (ab : Int64) (lg : Nat → Int32) (cnt : Nat) (hc : cnt ≤ 3) (kn : Int32) (k : Int32) : vx_Met l yX2_join wsX2_join { frames := 7, cells := 1, slots := 6, locals := 90 } (va_Pc [.ref (a 0), .int k] (wd_B D (ty3 cI cL cQ) A (xw cI cQ a pl pq nq nm ab lg (nI cnt) kn ++ fr))) (va_Qv (fun (u : (Nat → Int32) × (Nat → Nat → Int32)) => x_kc k cnt = false ∧ ∃ i, i < cnt ∧ k = nI i ∧ (∀ j, j < cnt - 1 → u.1 j = if j < i then pl j else pl (j + 1)) ∧ (∀ j, j < cnt → u.2 j = if j ≤ i then nm j else nm (j + 1))) (fun u t => wd_E D (ty3 cI cL cQ) A (xw cI cQ a u.1 pq nq u.2 ab lg (nI (cnt - 1)) kn ++ fr) t) A) (vx_X (fun _ : Unit => True) (fun E _ t => (E = "java/lang/IndexOutOfBoundsException" ∧ x_kc k cnt = true) ∧ wd_E D (ty3 cI cL cQ) A (xw cI cQ a pl pq nq nm ab lg (nI cnt) kn ++ fr) t) A) 1 6 A := by
  refine vx_ofW (cc := cX2_join) (maxL := 3) (ret := none) (by decide) rfl ?_
  intro p e s m args below meth c s₁ B hml htab hv
  obtain ⟨rfl, hG, hK, hP, hD, hA⟩ := hv
  have hx := B.exec
  have hb := B.bytes
  have hr := B.returns
  have hts := atoms_spec (ws := wsX2_join) B.pre
  have hg : ∀ w ∈ gw, w.before ([.ref (a 0), .int k] : List Value).toArray s = true := fun w h => hts w (List.mem_cons_of_mem _ h)
  have hown : s.vm.findClass RX2 = some m.cls := findClass_of_methodNamed B.named
  have hlocks := B.notSynchronized
  have hS : va_S A s.heap s.heap [] := va_S.rf
  have hl := lv_entry ([.ref (a 0), .int k]) (n := 3) (Nat.le_of_ble_eq_true rfl)
  rw [lg_entry_eq]
  generalize (lg_sl ([.ref (a 0), .int k]) ++ List.replicate (3 - (lg_sl ([.ref (a 0), .int k])).length) Slot.unset).toArray = ls at hl ⊢
  have hl : lv_has ls 3 [(0, .ref (a 0)), (1, .int k)] := hl
  refine lv_iload_n hx hb dX2_join_0 rfl (lv_at hl 1 rfl) ?_
  refine lv_if_lt (tgt := 12) hx hb dX2_join_1 (by decide) (fun c_1 => ?_) (fun c_1 => ?_)
  · obtain ⟨sa, hsa⟩ := hG.2.2.2.1 (65, "no such cut") (by decide)
    exact vx_throwS (names := ["java/lang/RuntimeException", "java/lang/Exception"]) (A := A) (sa := sa) hx hb hlt hown (by decide) (by decide) (hg _ cl_X2_63) (hg _ ini_IndexOutOfBoundsException) hsa (fun w hw => (xa_67 w hw).elim (hg w) (fun h => hG.nest h)) xg_67 hG.2.2.2.2.1 hG.2.2.2.2.2.1 hS (hl.1.trans hml.symm) dX2_join_12 dX2_join_15 dX2_join_16 dX2_join_18 dX2_join_21 (fun x hx9 => (htab x hx9).elim) (Nat.le_of_ble_eq_true rfl) (Nat.le_of_ble_eq_true rfl) (Nat.le_of_ble_eq_true rfl) (Nat.le_of_ble_eq_true rfl) hlocks (fun t hal hsz hq => ⟨(), trivial, ⟨⟨rfl, by simp [x_kc, c_1]⟩, (wd_thr hK hP hD hS t hal hsz hq).1⟩, (wd_thr hK hP hD hS t hal hsz hq).2⟩) hS.2.2 (Nat.le_of_ble_eq_true rfl) (Nat.le_of_ble_eq_true rfl)
  · refine lv_iload_n hx hb dX2_join_4 rfl (lv_at hl 1 rfl) ?_
    refine lv_aload_n hx hb dX2_join_5 rfl (lv_at hl 0 rfl) ?_
    refine va_get (D := D) (ci := 2) (v := .int (nI cnt)) (C := RX2) (T := TX2) (N := 5) hx hb hg inX2 hown hK hP 0 rfl rfl 3 (by decide) (hg _ fl_X2_26) (fun _ h9 => h9) rfl dX2_join_6 ?_
    refine lv_icmp_lt (tgt := 22) hx hb dX2_join_9 (by decide) (fun c_2 => ?_) (fun c_2 => ?_)
    · have hj5 : x_kc k cnt = false := by simp [x_kc, c_1, c_2]
      obtain ⟨i, hi, rfl⟩ := x_kn hc c_1 c_2
      rcases (show (cnt = 1 ∧ i = 0) ∨ (cnt = 2 ∧ i = 0) ∨ (cnt = 2 ∧ i = 1) ∨ (cnt = 3 ∧ i = 0) ∨ (cnt = 3 ∧ i = 1) ∨ (cnt = 3 ∧ i = 2) by omega) with ⟨rfl, rfl⟩ | ⟨rfl, rfl⟩ | ⟨rfl, rfl⟩ | ⟨rfl, rfl⟩ | ⟨rfl, rfl⟩ | ⟨rfl, rfl⟩
      · have hP : va_P D vwCl (xw cI cQ a pl pq nq nm ab lg 1 kn ++ fr) s.heap := hP
        have hD : va_D A (xw cI cQ a pl pq nq nm ab lg 1 kn ++ fr) := hD
        have hl : lv_has ls 3 [(0, .ref (a 0)), (1, .int 0)] := hl
        refine lv_iload_n hx hb dX2_join_22 rfl (lv_at hl 1 rfl) ?_
        refine lv_istore_n (lv' := [(2, .int 0), (0, .ref (a 0)), (1, .int 0)]) hx hb dX2_join_23 rfl hl (by decide) rfl (fun ls hl => ?_)
        refine lv_iload_n hx hb dX2_join_24 rfl (lv_at hl 0 rfl) ?_
        refine lv_aload_n hx hb dX2_join_25 rfl (lv_at hl 1 rfl) ?_
        refine va_get (D := D) (ci := 2) (v := .int 1) (C := RX2) (T := TX2) (N := 5) hx hb hg inX2 hown hK hP 0 rfl rfl 3 (by decide) (hg _ fl_X2_26) (fun _ h9 => h9) rfl dX2_join_26 ?_
        refine lv_iconst (v := 1) hx hb dX2_join_29 (by decide) ?_
        refine lv_isub hx hb dX2_join_30 ?_
        rw [show (1 : Int32) - 1 = 0 from by decide]
        refine lv_icmp_ge (tgt := 73) hx hb dX2_join_31 (by decide) (fun _ => ?_) (fun c_3 => absurd c_3 (by decide))
        refine lv_aload_n hx hb dX2_join_73 rfl (lv_at hl 1 rfl) ?_
        refine lv_dup hx hb dX2_join_74 rfl ?_
        refine va_get (D := D) (ci := 2) (v := .int 1) (C := RX2) (T := TX2) (N := 5) hx hb hg inX2 hown hK hP 0 rfl rfl 3 (by decide) (hg _ fl_X2_26) (fun _ h9 => h9) rfl dX2_join_75 ?_
        refine lv_iconst (v := 1) hx hb dX2_join_78 (by decide) ?_
        refine lv_isub hx hb dX2_join_79 ?_
        rw [show (1 : Int32) - 1 = 0 from by decide]
        refine va_put (D := D) (ci := 2) (v := .int 0) (ty := .int) (C := RX2) (T := TX2) (N := 5) hx hb hg inX2 tyX2 tyX2_ok nmX2 hown hK hP hD hS 0 rfl rfl 3 (by decide) (hg _ fl_X2_26) (fun _ h9 => h9) rfl (by decide +kernel) rfl rfl (Nat.le_of_ble_eq_true rfl) dX2_join_80 (fun H locs hP hD hS => ?_)
        have hP : va_P D vwCl (xw cI cQ a pl pq nq nm ab lg 0 kn ++ fr) H := hP
        have hD : va_D A (xw cI cQ a pl pq nq nm ab lg 0 kn ++ fr) := hD
        refine vx_ret ?_
        refine W.widen (k := 1) (n := 6) (Nat.zero_le _) (Nat.zero_le _) ?_
        exact W.vret hx hb hr (fun t ht hW => ⟨⟨(pl, nm), rfl, ⟨hj5, 0, by omega, rfl, fun j hj => by exact absurd hj (by omega) <;> rfl, fun j hj => by rcases (show j = 0 by omega) with rfl <;> simp [va_up]⟩, wd_E.at hK hP hD ht hW⟩, hS.F ht⟩) hS.2.2 dX2_join_83
      · have hP : va_P D vwCl (xw cI cQ a pl pq nq nm ab lg 2 kn ++ fr) s.heap := hP
        have hD : va_D A (xw cI cQ a pl pq nq nm ab lg 2 kn ++ fr) := hD
        have hl : lv_has ls 3 [(0, .ref (a 0)), (1, .int 0)] := hl
        refine lv_iload_n hx hb dX2_join_22 rfl (lv_at hl 1 rfl) ?_
        refine lv_istore_n (lv' := [(2, .int 0), (0, .ref (a 0)), (1, .int 0)]) hx hb dX2_join_23 rfl hl (by decide) rfl (fun ls hl => ?_)
        refine lv_iload_n hx hb dX2_join_24 rfl (lv_at hl 0 rfl) ?_
        refine lv_aload_n hx hb dX2_join_25 rfl (lv_at hl 1 rfl) ?_
        refine va_get (D := D) (ci := 2) (v := .int 2) (C := RX2) (T := TX2) (N := 5) hx hb hg inX2 hown hK hP 0 rfl rfl 3 (by decide) (hg _ fl_X2_26) (fun _ h9 => h9) rfl dX2_join_26 ?_
        refine lv_iconst (v := 1) hx hb dX2_join_29 (by decide) ?_
        refine lv_isub hx hb dX2_join_30 ?_
        rw [show (2 : Int32) - 1 = 1 from by decide]
        refine lv_icmp_ge (tgt := 73) hx hb dX2_join_31 (by decide) (fun c_4 => absurd c_4 (by decide)) (fun _ => ?_)
        refine lv_aload_n hx hb dX2_join_34 rfl (lv_at hl 1 rfl) ?_
        refine va_get (D := D) (ci := 2) (v := .ref (a 1)) (C := RX2) (T := TX2) (N := 5) hx hb hg inX2 hown hK hP 0 rfl rfl 0 (by decide) (hg _ fl_X2_9) (fun _ h9 => h9) rfl dX2_join_35 ?_
        refine lv_iload_n hx hb dX2_join_38 rfl (lv_at hl 0 rfl) ?_
        refine lv_aload_n hx hb dX2_join_39 rfl (lv_at hl 1 rfl) ?_
        refine va_get (D := D) (ci := 2) (v := .ref (a 1)) (C := RX2) (T := TX2) (N := 5) hx hb hg inX2 hown hK hP 0 rfl rfl 0 (by decide) (hg _ fl_X2_9) (fun _ h9 => h9) rfl dX2_join_40 ?_
        refine lv_iload_n hx hb dX2_join_43 rfl (lv_at hl 0 rfl) ?_
        refine lv_iconst (v := 1) hx hb dX2_join_44 (by decide) ?_
        refine lv_iadd hx hb dX2_join_45 ?_
        rw [show (0 : Int32) + 1 = 1 from by decide]
        refine va_iald (D := D) (n := 3) (f := pl) hx hb hK hP 1 0 rfl rfl (vp_in_nI (show 1 < 3 by decide) (by decide)) dX2_join_46 ?_
        rw [show (1 : Int32).toNatClampNeg = 1 from by decide]
        refine lv_topi (fun v_5 ev_5 => ?_)
        refine va_iast (D := D) (n := 3) (f := pl) (x := v_5) hx hb hK hP hD hS 1 0 rfl rfl (vp_in_nI (show 0 < 3 by decide) (by decide)) dX2_join_47 (fun H locs hP hD hS => ?_)
        rw [show (0 : Int32).toNatClampNeg = 0 from by decide] at hP hD
        have hP : va_P D vwCl (xw cI cQ a (upd pl 0 v_5) pq nq nm ab lg 2 kn ++ fr) H := hP
        have hD : va_D A (xw cI cQ a (upd pl 0 v_5) pq nq nm ab lg 2 kn ++ fr) := hD
        refine lv_aload_n hx hb dX2_join_48 rfl (lv_at hl 1 rfl) ?_
        refine va_get (D := D) (ci := 2) (v := .ref (a 2)) (C := RX2) (T := TX2) (N := 5) hx hb hg inX2 hown hK hP 0 rfl rfl 1 (by decide) (hg _ fl_X2_15) (fun _ h9 => h9) rfl dX2_join_49 ?_
        refine lv_iload_n hx hb dX2_join_52 rfl (lv_at hl 0 rfl) ?_
        refine lv_iconst (v := 1) hx hb dX2_join_53 (by decide) ?_
        refine lv_iadd hx hb dX2_join_54 ?_
        rw [show (0 : Int32) + 1 = 1 from by decide]
        refine va_aldq (D := D) (n := 4) (f := (fun j => some (pq j))) hx hb hK hP 2 2 rfl rfl (vp_in_nI (show 1 < 4 by decide) (by decide)) dX2_join_55 ?_
        refine W.eq (g2 := F0 m 56 ls [.ref (pq 1)]) rfl ?_
        refine lv_aload_n hx hb dX2_join_56 rfl (lv_at hl 1 rfl) ?_
        refine va_get (D := D) (ci := 2) (v := .ref (a 2)) (C := RX2) (T := TX2) (N := 5) hx hb hg inX2 hown hK hP 0 rfl rfl 1 (by decide) (hg _ fl_X2_15) (fun _ h9 => h9) rfl dX2_join_57 ?_
        refine lv_iload_n hx hb dX2_join_60 rfl (lv_at hl 0 rfl) ?_
        refine lv_iconst (v := 2) hx hb dX2_join_61 (by decide) ?_
        refine lv_iadd hx hb dX2_join_62 ?_
        rw [show (0 : Int32) + 2 = 2 from by decide]
        refine va_aldq (D := D) (n := 4) (f := (fun j => some (pq j))) hx hb hK hP 2 2 rfl rfl (vp_in_nI (show 2 < 4 by decide) (by decide)) dX2_join_63 ?_
        refine W.eq (g2 := F0 m 64 ls [.ref (pq 2), .ref (pq 1)]) rfl ?_
        refine va_callv (va_runVN (As := [.ref (pq 2)]) (rest := []) ⟨hx, hb, hml, hown, hg⟩ (c_X0_become l A D cI cL cQ (xw cI cQ a (upd pl 0 v_5) pq nq nm ab lg 2 kn ++ fr) 7 8 (pq 1) (nq 1) (nm 1) rfl rfl 9 10 (pq 2) (nq 2) (nm 2) rfl rfl) ⟨va_cnB 1 hg (gw_C co_X0_become) rfl rfl rfl (hG.1 _ mn_X2_59) (hg _ ini_X0) (by decide +kernel) ⟨Nat.le_of_ble_eq_true rfl, Nat.le_of_ble_eq_true rfl⟩, hg _ im_X0_become, hg _ se_X0_become⟩ ⟨wd_B.blind, va_recv hK hP (ci := 0) (q0 := 7) rfl rfl, (fun U hU hW => ⟨rfl, wd_B.at hG hK hP hD hS hA hU hW⟩)⟩ rfl rfl hl.1 rfl (lv_room (Nat.le_of_ble_eq_true rfl)) dX2_join_64 ⟨Nat.le_of_ble_eq_true rfl, Nat.le_of_ble_eq_true rfl⟩) hS (fun q _ h => h) (fun q h => h) (fun u t H1 locs ht hvm hr_6 hB hz1 hk1 hS => ?_)
        obtain ⟨hK, hP, hD⟩ := hB.back ht hvm
        generalize H1 = H at hP hS ⊢
        have hP : va_P D vwCl (xw cI cQ a (upd pl 0 v_5) pq nq (va_up nm 1 (nm 2)) ab lg 2 kn ++ fr) H := hP
        have hD : va_D A (xw cI cQ a (upd pl 0 v_5) pq nq (va_up nm 1 (nm 2)) ab lg 2 kn ++ fr) := hD
        refine lv_iinc (v := 1) (lv' := [(2, .int 1), (0, .ref (a 0)), (1, .int 0)]) hx hb dX2_join_67 hl (k := 0) rfl (by decide) (by decide) rfl (fun ls hl => ?_)
        refine lv_goto (tgt := 24) hx hb dX2_join_70 (by decide) ?_
        refine lv_iload_n hx hb dX2_join_24 rfl (lv_at hl 0 rfl) ?_
        refine lv_aload_n hx hb dX2_join_25 rfl (lv_at hl 1 rfl) ?_
        refine va_get (D := D) (ci := 2) (v := .int 2) (C := RX2) (T := TX2) (N := 5) hx hb hg inX2 hown hK hP 0 rfl rfl 3 (by decide) (hg _ fl_X2_26) (fun _ h9 => h9) rfl dX2_join_26 ?_
        refine lv_iconst (v := 1) hx hb dX2_join_29 (by decide) ?_
        refine lv_isub hx hb dX2_join_30 ?_
        rw [show (2 : Int32) - 1 = 1 from by decide]
        refine lv_icmp_ge (tgt := 73) hx hb dX2_join_31 (by decide) (fun _ => ?_) (fun c_7 => absurd c_7 (by decide))
        refine lv_aload_n hx hb dX2_join_73 rfl (lv_at hl 1 rfl) ?_
        refine lv_dup hx hb dX2_join_74 rfl ?_
        refine va_get (D := D) (ci := 2) (v := .int 2) (C := RX2) (T := TX2) (N := 5) hx hb hg inX2 hown hK hP 0 rfl rfl 3 (by decide) (hg _ fl_X2_26) (fun _ h9 => h9) rfl dX2_join_75 ?_
        refine lv_iconst (v := 1) hx hb dX2_join_78 (by decide) ?_
        refine lv_isub hx hb dX2_join_79 ?_
        rw [show (2 : Int32) - 1 = 1 from by decide]
        refine va_put (D := D) (ci := 2) (v := .int 1) (ty := .int) (C := RX2) (T := TX2) (N := 5) hx hb hg inX2 tyX2 tyX2_ok nmX2 hown hK hP hD hS 0 rfl rfl 3 (by decide) (hg _ fl_X2_26) (fun _ h9 => h9) rfl (by decide +kernel) rfl rfl (Nat.le_of_ble_eq_true rfl) dX2_join_80 (fun H locs hP hD hS => ?_)
        have hP : va_P D vwCl (xw cI cQ a (upd pl 0 v_5) pq nq (va_up nm 1 (nm 2)) ab lg 1 kn ++ fr) H := hP
        have hD : va_D A (xw cI cQ a (upd pl 0 v_5) pq nq (va_up nm 1 (nm 2)) ab lg 1 kn ++ fr) := hD
        refine vx_ret ?_
        refine W.widen (k := 1) (n := 6) (Nat.zero_le _) (Nat.zero_le _) ?_
        exact W.vret hx hb hr (fun t ht hW => ⟨⟨((upd pl 0 v_5), (va_up nm 1 (nm 2))), rfl, ⟨hj5, 0, by omega, rfl, fun j hj => by rcases (show j = 0 by omega) with rfl <;> simp [upd, ev_5], fun j hj => by rcases (show j = 0 ∨ j = 1 by omega) with rfl | rfl <;> simp [va_up]⟩, wd_E.at hK hP hD ht hW⟩, hS.F ht⟩) hS.2.2 dX2_join_83
      · have hP : va_P D vwCl (xw cI cQ a pl pq nq nm ab lg 2 kn ++ fr) s.heap := hP
        have hD : va_D A (xw cI cQ a pl pq nq nm ab lg 2 kn ++ fr) := hD
        have hl : lv_has ls 3 [(0, .ref (a 0)), (1, .int 1)] := hl
        refine lv_iload_n hx hb dX2_join_22 rfl (lv_at hl 1 rfl) ?_
        refine lv_istore_n (lv' := [(2, .int 1), (0, .ref (a 0)), (1, .int 1)]) hx hb dX2_join_23 rfl hl (by decide) rfl (fun ls hl => ?_)
        refine lv_iload_n hx hb dX2_join_24 rfl (lv_at hl 0 rfl) ?_
        refine lv_aload_n hx hb dX2_join_25 rfl (lv_at hl 1 rfl) ?_
        refine va_get (D := D) (ci := 2) (v := .int 2) (C := RX2) (T := TX2) (N := 5) hx hb hg inX2 hown hK hP 0 rfl rfl 3 (by decide) (hg _ fl_X2_26) (fun _ h9 => h9) rfl dX2_join_26 ?_
        refine lv_iconst (v := 1) hx hb dX2_join_29 (by decide) ?_
        refine lv_isub hx hb dX2_join_30 ?_
        rw [show (2 : Int32) - 1 = 1 from by decide]
        refine lv_icmp_ge (tgt := 73) hx hb dX2_join_31 (by decide) (fun _ => ?_) (fun c_8 => absurd c_8 (by decide))
        refine lv_aload_n hx hb dX2_join_73 rfl (lv_at hl 1 rfl) ?_
        refine lv_dup hx hb dX2_join_74 rfl ?_
        refine va_get (D := D) (ci := 2) (v := .int 2) (C := RX2) (T := TX2) (N := 5) hx hb hg inX2 hown hK hP 0 rfl rfl 3 (by decide) (hg _ fl_X2_26) (fun _ h9 => h9) rfl dX2_join_75 ?_
        refine lv_iconst (v := 1) hx hb dX2_join_78 (by decide) ?_
        refine lv_isub hx hb dX2_join_79 ?_
        rw [show (2 : Int32) - 1 = 1 from by decide]
        refine va_put (D := D) (ci := 2) (v := .int 1) (ty := .int) (C := RX2) (T := TX2) (N := 5) hx hb hg inX2 tyX2 tyX2_ok nmX2 hown hK hP hD hS 0 rfl rfl 3 (by decide) (hg _ fl_X2_26) (fun _ h9 => h9) rfl (by decide +kernel) rfl rfl (Nat.le_of_ble_eq_true rfl) dX2_join_80 (fun H locs hP hD hS => ?_)
        have hP : va_P D vwCl (xw cI cQ a pl pq nq nm ab lg 1 kn ++ fr) H := hP
        have hD : va_D A (xw cI cQ a pl pq nq nm ab lg 1 kn ++ fr) := hD
        refine vx_ret ?_
        refine W.widen (k := 1) (n := 6) (Nat.zero_le _) (Nat.zero_le _) ?_
        exact W.vret hx hb hr (fun t ht hW => ⟨⟨(pl, nm), rfl, ⟨hj5, 1, by omega, rfl, fun j hj => by rcases (show j = 0 by omega) with rfl <;> simp [upd], fun j hj => by rcases (show j = 0 ∨ j = 1 by omega) with rfl | rfl <;> simp [va_up]⟩, wd_E.at hK hP hD ht hW⟩, hS.F ht⟩) hS.2.2 dX2_join_83
      · have hP : va_P D vwCl (xw cI cQ a pl pq nq nm ab lg 3 kn ++ fr) s.heap := hP
        have hD : va_D A (xw cI cQ a pl pq nq nm ab lg 3 kn ++ fr) := hD
        have hl : lv_has ls 3 [(0, .ref (a 0)), (1, .int 0)] := hl
        refine lv_iload_n hx hb dX2_join_22 rfl (lv_at hl 1 rfl) ?_
        refine lv_istore_n (lv' := [(2, .int 0), (0, .ref (a 0)), (1, .int 0)]) hx hb dX2_join_23 rfl hl (by decide) rfl (fun ls hl => ?_)
        refine lv_iload_n hx hb dX2_join_24 rfl (lv_at hl 0 rfl) ?_
        refine lv_aload_n hx hb dX2_join_25 rfl (lv_at hl 1 rfl) ?_
        refine va_get (D := D) (ci := 2) (v := .int 3) (C := RX2) (T := TX2) (N := 5) hx hb hg inX2 hown hK hP 0 rfl rfl 3 (by decide) (hg _ fl_X2_26) (fun _ h9 => h9) rfl dX2_join_26 ?_
        refine lv_iconst (v := 1) hx hb dX2_join_29 (by decide) ?_
        refine lv_isub hx hb dX2_join_30 ?_
        rw [show (3 : Int32) - 1 = 2 from by decide]
        refine lv_icmp_ge (tgt := 73) hx hb dX2_join_31 (by decide) (fun c_9 => absurd c_9 (by decide)) (fun _ => ?_)
        refine lv_aload_n hx hb dX2_join_34 rfl (lv_at hl 1 rfl) ?_
        refine va_get (D := D) (ci := 2) (v := .ref (a 1)) (C := RX2) (T := TX2) (N := 5) hx hb hg inX2 hown hK hP 0 rfl rfl 0 (by decide) (hg _ fl_X2_9) (fun _ h9 => h9) rfl dX2_join_35 ?_
        refine lv_iload_n hx hb dX2_join_38 rfl (lv_at hl 0 rfl) ?_
        refine lv_aload_n hx hb dX2_join_39 rfl (lv_at hl 1 rfl) ?_
        refine va_get (D := D) (ci := 2) (v := .ref (a 1)) (C := RX2) (T := TX2) (N := 5) hx hb hg inX2 hown hK hP 0 rfl rfl 0 (by decide) (hg _ fl_X2_9) (fun _ h9 => h9) rfl dX2_join_40 ?_
        refine lv_iload_n hx hb dX2_join_43 rfl (lv_at hl 0 rfl) ?_
        refine lv_iconst (v := 1) hx hb dX2_join_44 (by decide) ?_
        refine lv_iadd hx hb dX2_join_45 ?_
        rw [show (0 : Int32) + 1 = 1 from by decide]
        refine va_iald (D := D) (n := 3) (f := pl) hx hb hK hP 1 0 rfl rfl (vp_in_nI (show 1 < 3 by decide) (by decide)) dX2_join_46 ?_
        rw [show (1 : Int32).toNatClampNeg = 1 from by decide]
        refine lv_topi (fun v_10 ev_10 => ?_)
        refine va_iast (D := D) (n := 3) (f := pl) (x := v_10) hx hb hK hP hD hS 1 0 rfl rfl (vp_in_nI (show 0 < 3 by decide) (by decide)) dX2_join_47 (fun H locs hP hD hS => ?_)
        rw [show (0 : Int32).toNatClampNeg = 0 from by decide] at hP hD
        have hP : va_P D vwCl (xw cI cQ a (upd pl 0 v_10) pq nq nm ab lg 3 kn ++ fr) H := hP
        have hD : va_D A (xw cI cQ a (upd pl 0 v_10) pq nq nm ab lg 3 kn ++ fr) := hD
        refine lv_aload_n hx hb dX2_join_48 rfl (lv_at hl 1 rfl) ?_
        refine va_get (D := D) (ci := 2) (v := .ref (a 2)) (C := RX2) (T := TX2) (N := 5) hx hb hg inX2 hown hK hP 0 rfl rfl 1 (by decide) (hg _ fl_X2_15) (fun _ h9 => h9) rfl dX2_join_49 ?_
        refine lv_iload_n hx hb dX2_join_52 rfl (lv_at hl 0 rfl) ?_
        refine lv_iconst (v := 1) hx hb dX2_join_53 (by decide) ?_
        refine lv_iadd hx hb dX2_join_54 ?_
        rw [show (0 : Int32) + 1 = 1 from by decide]
        refine va_aldq (D := D) (n := 4) (f := (fun j => some (pq j))) hx hb hK hP 2 2 rfl rfl (vp_in_nI (show 1 < 4 by decide) (by decide)) dX2_join_55 ?_
        refine W.eq (g2 := F0 m 56 ls [.ref (pq 1)]) rfl ?_
        refine lv_aload_n hx hb dX2_join_56 rfl (lv_at hl 1 rfl) ?_
        refine va_get (D := D) (ci := 2) (v := .ref (a 2)) (C := RX2) (T := TX2) (N := 5) hx hb hg inX2 hown hK hP 0 rfl rfl 1 (by decide) (hg _ fl_X2_15) (fun _ h9 => h9) rfl dX2_join_57 ?_
        refine lv_iload_n hx hb dX2_join_60 rfl (lv_at hl 0 rfl) ?_
        refine lv_iconst (v := 2) hx hb dX2_join_61 (by decide) ?_
        refine lv_iadd hx hb dX2_join_62 ?_
        rw [show (0 : Int32) + 2 = 2 from by decide]
        refine va_aldq (D := D) (n := 4) (f := (fun j => some (pq j))) hx hb hK hP 2 2 rfl rfl (vp_in_nI (show 2 < 4 by decide) (by decide)) dX2_join_63 ?_
        refine W.eq (g2 := F0 m 64 ls [.ref (pq 2), .ref (pq 1)]) rfl ?_
        refine va_callv (va_runVN (As := [.ref (pq 2)]) (rest := []) ⟨hx, hb, hml, hown, hg⟩ (c_X0_become l A D cI cL cQ (xw cI cQ a (upd pl 0 v_10) pq nq nm ab lg 3 kn ++ fr) 7 8 (pq 1) (nq 1) (nm 1) rfl rfl 9 10 (pq 2) (nq 2) (nm 2) rfl rfl) ⟨va_cnB 1 hg (gw_C co_X0_become) rfl rfl rfl (hG.1 _ mn_X2_59) (hg _ ini_X0) (by decide +kernel) ⟨Nat.le_of_ble_eq_true rfl, Nat.le_of_ble_eq_true rfl⟩, hg _ im_X0_become, hg _ se_X0_become⟩ ⟨wd_B.blind, va_recv hK hP (ci := 0) (q0 := 7) rfl rfl, (fun U hU hW => ⟨rfl, wd_B.at hG hK hP hD hS hA hU hW⟩)⟩ rfl rfl hl.1 rfl (lv_room (Nat.le_of_ble_eq_true rfl)) dX2_join_64 ⟨Nat.le_of_ble_eq_true rfl, Nat.le_of_ble_eq_true rfl⟩) hS (fun q _ h => h) (fun q h => h) (fun u t H1 locs ht hvm hr_11 hB hz1 hk1 hS => ?_)
        obtain ⟨hK, hP, hD⟩ := hB.back ht hvm
        generalize H1 = H at hP hS ⊢
        have hP : va_P D vwCl (xw cI cQ a (upd pl 0 v_10) pq nq (va_up nm 1 (nm 2)) ab lg 3 kn ++ fr) H := hP
        have hD : va_D A (xw cI cQ a (upd pl 0 v_10) pq nq (va_up nm 1 (nm 2)) ab lg 3 kn ++ fr) := hD
        refine lv_iinc (v := 1) (lv' := [(2, .int 1), (0, .ref (a 0)), (1, .int 0)]) hx hb dX2_join_67 hl (k := 0) rfl (by decide) (by decide) rfl (fun ls hl => ?_)
        refine lv_goto (tgt := 24) hx hb dX2_join_70 (by decide) ?_
        refine lv_iload_n hx hb dX2_join_24 rfl (lv_at hl 0 rfl) ?_
        refine lv_aload_n hx hb dX2_join_25 rfl (lv_at hl 1 rfl) ?_
        refine va_get (D := D) (ci := 2) (v := .int 3) (C := RX2) (T := TX2) (N := 5) hx hb hg inX2 hown hK hP 0 rfl rfl 3 (by decide) (hg _ fl_X2_26) (fun _ h9 => h9) rfl dX2_join_26 ?_
        refine lv_iconst (v := 1) hx hb dX2_join_29 (by decide) ?_
        refine lv_isub hx hb dX2_join_30 ?_
        rw [show (3 : Int32) - 1 = 2 from by decide]
        refine lv_icmp_ge (tgt := 73) hx hb dX2_join_31 (by decide) (fun c_12 => absurd c_12 (by decide)) (fun _ => ?_)
        refine lv_aload_n hx hb dX2_join_34 rfl (lv_at hl 1 rfl) ?_
        refine va_get (D := D) (ci := 2) (v := .ref (a 1)) (C := RX2) (T := TX2) (N := 5) hx hb hg inX2 hown hK hP 0 rfl rfl 0 (by decide) (hg _ fl_X2_9) (fun _ h9 => h9) rfl dX2_join_35 ?_
        refine lv_iload_n hx hb dX2_join_38 rfl (lv_at hl 0 rfl) ?_
        refine lv_aload_n hx hb dX2_join_39 rfl (lv_at hl 1 rfl) ?_
        refine va_get (D := D) (ci := 2) (v := .ref (a 1)) (C := RX2) (T := TX2) (N := 5) hx hb hg inX2 hown hK hP 0 rfl rfl 0 (by decide) (hg _ fl_X2_9) (fun _ h9 => h9) rfl dX2_join_40 ?_
        refine lv_iload_n hx hb dX2_join_43 rfl (lv_at hl 0 rfl) ?_
        refine lv_iconst (v := 1) hx hb dX2_join_44 (by decide) ?_
        refine lv_iadd hx hb dX2_join_45 ?_
        rw [show (1 : Int32) + 1 = 2 from by decide]
        refine va_iald (D := D) (n := 3) (f := (upd pl 0 v_10)) hx hb hK hP 1 0 rfl rfl (vp_in_nI (show 2 < 3 by decide) (by decide)) dX2_join_46 ?_
        rw [show (2 : Int32).toNatClampNeg = 2 from by decide]
        refine lv_topi (fun v_13 ev_13 => ?_)
        refine va_iast (D := D) (n := 3) (f := (upd pl 0 v_10)) (x := v_13) hx hb hK hP hD hS 1 0 rfl rfl (vp_in_nI (show 1 < 3 by decide) (by decide)) dX2_join_47 (fun H locs hP hD hS => ?_)
        rw [show (1 : Int32).toNatClampNeg = 1 from by decide] at hP hD
        have hP : va_P D vwCl (xw cI cQ a (upd (upd pl 0 v_10) 1 v_13) pq nq (va_up nm 1 (nm 2)) ab lg 3 kn ++ fr) H := hP
        have hD : va_D A (xw cI cQ a (upd (upd pl 0 v_10) 1 v_13) pq nq (va_up nm 1 (nm 2)) ab lg 3 kn ++ fr) := hD
        refine lv_aload_n hx hb dX2_join_48 rfl (lv_at hl 1 rfl) ?_
        refine va_get (D := D) (ci := 2) (v := .ref (a 2)) (C := RX2) (T := TX2) (N := 5) hx hb hg inX2 hown hK hP 0 rfl rfl 1 (by decide) (hg _ fl_X2_15) (fun _ h9 => h9) rfl dX2_join_49 ?_
        refine lv_iload_n hx hb dX2_join_52 rfl (lv_at hl 0 rfl) ?_
        refine lv_iconst (v := 1) hx hb dX2_join_53 (by decide) ?_
        refine lv_iadd hx hb dX2_join_54 ?_
        rw [show (1 : Int32) + 1 = 2 from by decide]
        refine va_aldq (D := D) (n := 4) (f := (fun j => some (pq j))) hx hb hK hP 2 2 rfl rfl (vp_in_nI (show 2 < 4 by decide) (by decide)) dX2_join_55 ?_
        refine W.eq (g2 := F0 m 56 ls [.ref (pq 2)]) rfl ?_
        refine lv_aload_n hx hb dX2_join_56 rfl (lv_at hl 1 rfl) ?_
        refine va_get (D := D) (ci := 2) (v := .ref (a 2)) (C := RX2) (T := TX2) (N := 5) hx hb hg inX2 hown hK hP 0 rfl rfl 1 (by decide) (hg _ fl_X2_15) (fun _ h9 => h9) rfl dX2_join_57 ?_
        refine lv_iload_n hx hb dX2_join_60 rfl (lv_at hl 0 rfl) ?_
        refine lv_iconst (v := 2) hx hb dX2_join_61 (by decide) ?_
        refine lv_iadd hx hb dX2_join_62 ?_
        rw [show (1 : Int32) + 2 = 3 from by decide]
        refine va_aldq (D := D) (n := 4) (f := (fun j => some (pq j))) hx hb hK hP 2 2 rfl rfl (vp_in_nI (show 3 < 4 by decide) (by decide)) dX2_join_63 ?_
        refine W.eq (g2 := F0 m 64 ls [.ref (pq 3), .ref (pq 2)]) rfl ?_
        refine va_callv (va_runVN (As := [.ref (pq 3)]) (rest := []) ⟨hx, hb, hml, hown, hg⟩ (c_X0_become l A D cI cL cQ (xw cI cQ a (upd (upd pl 0 v_10) 1 v_13) pq nq (va_up nm 1 (nm 2)) ab lg 3 kn ++ fr) 9 10 (pq 2) (nq 2) ((va_up nm 1 (nm 2)) 2) rfl rfl 11 12 (pq 3) (nq 3) ((va_up nm 1 (nm 2)) 3) rfl rfl) ⟨va_cnB 1 hg (gw_C co_X0_become) rfl rfl rfl (hG.1 _ mn_X2_59) (hg _ ini_X0) (by decide +kernel) ⟨Nat.le_of_ble_eq_true rfl, Nat.le_of_ble_eq_true rfl⟩, hg _ im_X0_become, hg _ se_X0_become⟩ ⟨wd_B.blind, va_recv hK hP (ci := 0) (q0 := 9) rfl rfl, (fun U hU hW => ⟨rfl, wd_B.at hG hK hP hD hS hA hU hW⟩)⟩ rfl rfl hl.1 rfl (lv_room (Nat.le_of_ble_eq_true rfl)) dX2_join_64 ⟨Nat.le_of_ble_eq_true rfl, Nat.le_of_ble_eq_true rfl⟩) hS (fun q _ h => h) (fun q h => h) (fun u t H1 locs ht hvm hr_14 hB hz1 hk1 hS => ?_)
        obtain ⟨hK, hP, hD⟩ := hB.back ht hvm
        generalize H1 = H at hP hS ⊢
        have hP : va_P D vwCl (xw cI cQ a (upd (upd pl 0 v_10) 1 v_13) pq nq (va_up (va_up nm 1 (nm 2)) 2 ((va_up nm 1 (nm 2)) 3)) ab lg 3 kn ++ fr) H := hP
        have hD : va_D A (xw cI cQ a (upd (upd pl 0 v_10) 1 v_13) pq nq (va_up (va_up nm 1 (nm 2)) 2 ((va_up nm 1 (nm 2)) 3)) ab lg 3 kn ++ fr) := hD
        refine lv_iinc (v := 2) (lv' := [(2, .int 2), (0, .ref (a 0)), (1, .int 0)]) hx hb dX2_join_67 hl (k := 0) rfl (by decide) (by decide) rfl (fun ls hl => ?_)
        refine lv_goto (tgt := 24) hx hb dX2_join_70 (by decide) ?_
        refine lv_iload_n hx hb dX2_join_24 rfl (lv_at hl 0 rfl) ?_
        refine lv_aload_n hx hb dX2_join_25 rfl (lv_at hl 1 rfl) ?_
        refine va_get (D := D) (ci := 2) (v := .int 3) (C := RX2) (T := TX2) (N := 5) hx hb hg inX2 hown hK hP 0 rfl rfl 3 (by decide) (hg _ fl_X2_26) (fun _ h9 => h9) rfl dX2_join_26 ?_
        refine lv_iconst (v := 1) hx hb dX2_join_29 (by decide) ?_
        refine lv_isub hx hb dX2_join_30 ?_
        rw [show (3 : Int32) - 1 = 2 from by decide]
        refine lv_icmp_ge (tgt := 73) hx hb dX2_join_31 (by decide) (fun _ => ?_) (fun c_15 => absurd c_15 (by decide))
        refine lv_aload_n hx hb dX2_join_73 rfl (lv_at hl 1 rfl) ?_
        refine lv_dup hx hb dX2_join_74 rfl ?_
        refine va_get (D := D) (ci := 2) (v := .int 3) (C := RX2) (T := TX2) (N := 5) hx hb hg inX2 hown hK hP 0 rfl rfl 3 (by decide) (hg _ fl_X2_26) (fun _ h9 => h9) rfl dX2_join_75 ?_
        refine lv_iconst (v := 1) hx hb dX2_join_78 (by decide) ?_
        refine lv_isub hx hb dX2_join_79 ?_
        rw [show (3 : Int32) - 1 = 2 from by decide]
        refine va_put (D := D) (ci := 2) (v := .int 2) (ty := .int) (C := RX2) (T := TX2) (N := 5) hx hb hg inX2 tyX2 tyX2_ok nmX2 hown hK hP hD hS 0 rfl rfl 3 (by decide) (hg _ fl_X2_26) (fun _ h9 => h9) rfl (by decide +kernel) rfl rfl (Nat.le_of_ble_eq_true rfl) dX2_join_80 (fun H locs hP hD hS => ?_)
        have hP : va_P D vwCl (xw cI cQ a (upd (upd pl 0 v_10) 1 v_13) pq nq (va_up (va_up nm 1 (nm 2)) 2 ((va_up nm 1 (nm 2)) 3)) ab lg 2 kn ++ fr) H := hP
        have hD : va_D A (xw cI cQ a (upd (upd pl 0 v_10) 1 v_13) pq nq (va_up (va_up nm 1 (nm 2)) 2 ((va_up nm 1 (nm 2)) 3)) ab lg 2 kn ++ fr) := hD
        refine vx_ret ?_
        refine W.widen (k := 1) (n := 6) (Nat.zero_le _) (Nat.zero_le _) ?_
        exact W.vret hx hb hr (fun t ht hW => ⟨⟨((upd (upd pl 0 v_10) 1 v_13), (va_up (va_up nm 1 (nm 2)) 2 ((va_up nm 1 (nm 2)) 3))), rfl, ⟨hj5, 0, by omega, rfl, fun j hj => by rcases (show j = 0 ∨ j = 1 by omega) with rfl | rfl <;> simp [upd, ev_10, ev_13], fun j hj => by rcases (show j = 0 ∨ j = 1 ∨ j = 2 by omega) with rfl | rfl | rfl <;> simp [va_up]⟩, wd_E.at hK hP hD ht hW⟩, hS.F ht⟩) hS.2.2 dX2_join_83
      · have hP : va_P D vwCl (xw cI cQ a pl pq nq nm ab lg 3 kn ++ fr) s.heap := hP
        have hD : va_D A (xw cI cQ a pl pq nq nm ab lg 3 kn ++ fr) := hD
        have hl : lv_has ls 3 [(0, .ref (a 0)), (1, .int 1)] := hl
        refine lv_iload_n hx hb dX2_join_22 rfl (lv_at hl 1 rfl) ?_
        refine lv_istore_n (lv' := [(2, .int 1), (0, .ref (a 0)), (1, .int 1)]) hx hb dX2_join_23 rfl hl (by decide) rfl (fun ls hl => ?_)
        refine lv_iload_n hx hb dX2_join_24 rfl (lv_at hl 0 rfl) ?_
        refine lv_aload_n hx hb dX2_join_25 rfl (lv_at hl 1 rfl) ?_
        refine va_get (D := D) (ci := 2) (v := .int 3) (C := RX2) (T := TX2) (N := 5) hx hb hg inX2 hown hK hP 0 rfl rfl 3 (by decide) (hg _ fl_X2_26) (fun _ h9 => h9) rfl dX2_join_26 ?_
        refine lv_iconst (v := 1) hx hb dX2_join_29 (by decide) ?_
        refine lv_isub hx hb dX2_join_30 ?_
        rw [show (3 : Int32) - 1 = 2 from by decide]
        refine lv_icmp_ge (tgt := 73) hx hb dX2_join_31 (by decide) (fun c_16 => absurd c_16 (by decide)) (fun _ => ?_)
        refine lv_aload_n hx hb dX2_join_34 rfl (lv_at hl 1 rfl) ?_
        refine va_get (D := D) (ci := 2) (v := .ref (a 1)) (C := RX2) (T := TX2) (N := 5) hx hb hg inX2 hown hK hP 0 rfl rfl 0 (by decide) (hg _ fl_X2_9) (fun _ h9 => h9) rfl dX2_join_35 ?_
        refine lv_iload_n hx hb dX2_join_38 rfl (lv_at hl 0 rfl) ?_
        refine lv_aload_n hx hb dX2_join_39 rfl (lv_at hl 1 rfl) ?_
        refine va_get (D := D) (ci := 2) (v := .ref (a 1)) (C := RX2) (T := TX2) (N := 5) hx hb hg inX2 hown hK hP 0 rfl rfl 0 (by decide) (hg _ fl_X2_9) (fun _ h9 => h9) rfl dX2_join_40 ?_
        refine lv_iload_n hx hb dX2_join_43 rfl (lv_at hl 0 rfl) ?_
        refine lv_iconst (v := 1) hx hb dX2_join_44 (by decide) ?_
        refine lv_iadd hx hb dX2_join_45 ?_
        rw [show (1 : Int32) + 1 = 2 from by decide]
        refine va_iald (D := D) (n := 3) (f := pl) hx hb hK hP 1 0 rfl rfl (vp_in_nI (show 2 < 3 by decide) (by decide)) dX2_join_46 ?_
        rw [show (2 : Int32).toNatClampNeg = 2 from by decide]
        refine lv_topi (fun v_17 ev_17 => ?_)
        refine va_iast (D := D) (n := 3) (f := pl) (x := v_17) hx hb hK hP hD hS 1 0 rfl rfl (vp_in_nI (show 1 < 3 by decide) (by decide)) dX2_join_47 (fun H locs hP hD hS => ?_)
        rw [show (1 : Int32).toNatClampNeg = 1 from by decide] at hP hD
        have hP : va_P D vwCl (xw cI cQ a (upd pl 1 v_17) pq nq nm ab lg 3 kn ++ fr) H := hP
        have hD : va_D A (xw cI cQ a (upd pl 1 v_17) pq nq nm ab lg 3 kn ++ fr) := hD
        refine lv_aload_n hx hb dX2_join_48 rfl (lv_at hl 1 rfl) ?_
        refine va_get (D := D) (ci := 2) (v := .ref (a 2)) (C := RX2) (T := TX2) (N := 5) hx hb hg inX2 hown hK hP 0 rfl rfl 1 (by decide) (hg _ fl_X2_15) (fun _ h9 => h9) rfl dX2_join_49 ?_
        refine lv_iload_n hx hb dX2_join_52 rfl (lv_at hl 0 rfl) ?_
        refine lv_iconst (v := 1) hx hb dX2_join_53 (by decide) ?_
        refine lv_iadd hx hb dX2_join_54 ?_
        rw [show (1 : Int32) + 1 = 2 from by decide]
        refine va_aldq (D := D) (n := 4) (f := (fun j => some (pq j))) hx hb hK hP 2 2 rfl rfl (vp_in_nI (show 2 < 4 by decide) (by decide)) dX2_join_55 ?_
        refine W.eq (g2 := F0 m 56 ls [.ref (pq 2)]) rfl ?_
        refine lv_aload_n hx hb dX2_join_56 rfl (lv_at hl 1 rfl) ?_
        refine va_get (D := D) (ci := 2) (v := .ref (a 2)) (C := RX2) (T := TX2) (N := 5) hx hb hg inX2 hown hK hP 0 rfl rfl 1 (by decide) (hg _ fl_X2_15) (fun _ h9 => h9) rfl dX2_join_57 ?_
        refine lv_iload_n hx hb dX2_join_60 rfl (lv_at hl 0 rfl) ?_
        refine lv_iconst (v := 2) hx hb dX2_join_61 (by decide) ?_
        refine lv_iadd hx hb dX2_join_62 ?_
        rw [show (1 : Int32) + 2 = 3 from by decide]
        refine va_aldq (D := D) (n := 4) (f := (fun j => some (pq j))) hx hb hK hP 2 2 rfl rfl (vp_in_nI (show 3 < 4 by decide) (by decide)) dX2_join_63 ?_
        refine W.eq (g2 := F0 m 64 ls [.ref (pq 3), .ref (pq 2)]) rfl ?_
        refine va_callv (va_runVN (As := [.ref (pq 3)]) (rest := []) ⟨hx, hb, hml, hown, hg⟩ (c_X0_become l A D cI cL cQ (xw cI cQ a (upd pl 1 v_17) pq nq nm ab lg 3 kn ++ fr) 9 10 (pq 2) (nq 2) (nm 2) rfl rfl 11 12 (pq 3) (nq 3) (nm 3) rfl rfl) ⟨va_cnB 1 hg (gw_C co_X0_become) rfl rfl rfl (hG.1 _ mn_X2_59) (hg _ ini_X0) (by decide +kernel) ⟨Nat.le_of_ble_eq_true rfl, Nat.le_of_ble_eq_true rfl⟩, hg _ im_X0_become, hg _ se_X0_become⟩ ⟨wd_B.blind, va_recv hK hP (ci := 0) (q0 := 9) rfl rfl, (fun U hU hW => ⟨rfl, wd_B.at hG hK hP hD hS hA hU hW⟩)⟩ rfl rfl hl.1 rfl (lv_room (Nat.le_of_ble_eq_true rfl)) dX2_join_64 ⟨Nat.le_of_ble_eq_true rfl, Nat.le_of_ble_eq_true rfl⟩) hS (fun q _ h => h) (fun q h => h) (fun u t H1 locs ht hvm hr_18 hB hz1 hk1 hS => ?_)
        obtain ⟨hK, hP, hD⟩ := hB.back ht hvm
        generalize H1 = H at hP hS ⊢
        have hP : va_P D vwCl (xw cI cQ a (upd pl 1 v_17) pq nq (va_up nm 2 (nm 3)) ab lg 3 kn ++ fr) H := hP
        have hD : va_D A (xw cI cQ a (upd pl 1 v_17) pq nq (va_up nm 2 (nm 3)) ab lg 3 kn ++ fr) := hD
        refine lv_iinc (v := 2) (lv' := [(2, .int 2), (0, .ref (a 0)), (1, .int 1)]) hx hb dX2_join_67 hl (k := 0) rfl (by decide) (by decide) rfl (fun ls hl => ?_)
        refine lv_goto (tgt := 24) hx hb dX2_join_70 (by decide) ?_
        refine lv_iload_n hx hb dX2_join_24 rfl (lv_at hl 0 rfl) ?_
        refine lv_aload_n hx hb dX2_join_25 rfl (lv_at hl 1 rfl) ?_
        refine va_get (D := D) (ci := 2) (v := .int 3) (C := RX2) (T := TX2) (N := 5) hx hb hg inX2 hown hK hP 0 rfl rfl 3 (by decide) (hg _ fl_X2_26) (fun _ h9 => h9) rfl dX2_join_26 ?_
        refine lv_iconst (v := 1) hx hb dX2_join_29 (by decide) ?_
        refine lv_isub hx hb dX2_join_30 ?_
        rw [show (3 : Int32) - 1 = 2 from by decide]
        refine lv_icmp_ge (tgt := 73) hx hb dX2_join_31 (by decide) (fun _ => ?_) (fun c_19 => absurd c_19 (by decide))
        refine lv_aload_n hx hb dX2_join_73 rfl (lv_at hl 1 rfl) ?_
        refine lv_dup hx hb dX2_join_74 rfl ?_
        refine va_get (D := D) (ci := 2) (v := .int 3) (C := RX2) (T := TX2) (N := 5) hx hb hg inX2 hown hK hP 0 rfl rfl 3 (by decide) (hg _ fl_X2_26) (fun _ h9 => h9) rfl dX2_join_75 ?_
        refine lv_iconst (v := 1) hx hb dX2_join_78 (by decide) ?_
        refine lv_isub hx hb dX2_join_79 ?_
        rw [show (3 : Int32) - 1 = 2 from by decide]
        refine va_put (D := D) (ci := 2) (v := .int 2) (ty := .int) (C := RX2) (T := TX2) (N := 5) hx hb hg inX2 tyX2 tyX2_ok nmX2 hown hK hP hD hS 0 rfl rfl 3 (by decide) (hg _ fl_X2_26) (fun _ h9 => h9) rfl (by decide +kernel) rfl rfl (Nat.le_of_ble_eq_true rfl) dX2_join_80 (fun H locs hP hD hS => ?_)
        have hP : va_P D vwCl (xw cI cQ a (upd pl 1 v_17) pq nq (va_up nm 2 (nm 3)) ab lg 2 kn ++ fr) H := hP
        have hD : va_D A (xw cI cQ a (upd pl 1 v_17) pq nq (va_up nm 2 (nm 3)) ab lg 2 kn ++ fr) := hD
        refine vx_ret ?_
        refine W.widen (k := 1) (n := 6) (Nat.zero_le _) (Nat.zero_le _) ?_
        exact W.vret hx hb hr (fun t ht hW => ⟨⟨((upd pl 1 v_17), (va_up nm 2 (nm 3))), rfl, ⟨hj5, 1, by omega, rfl, fun j hj => by rcases (show j = 0 ∨ j = 1 by omega) with rfl | rfl <;> simp [upd, ev_17], fun j hj => by rcases (show j = 0 ∨ j = 1 ∨ j = 2 by omega) with rfl | rfl | rfl <;> simp [va_up]⟩, wd_E.at hK hP hD ht hW⟩, hS.F ht⟩) hS.2.2 dX2_join_83
      · have hP : va_P D vwCl (xw cI cQ a pl pq nq nm ab lg 3 kn ++ fr) s.heap := hP
        have hD : va_D A (xw cI cQ a pl pq nq nm ab lg 3 kn ++ fr) := hD
        have hl : lv_has ls 3 [(0, .ref (a 0)), (1, .int 2)] := hl
        refine lv_iload_n hx hb dX2_join_22 rfl (lv_at hl 1 rfl) ?_
        refine lv_istore_n (lv' := [(2, .int 2), (0, .ref (a 0)), (1, .int 2)]) hx hb dX2_join_23 rfl hl (by decide) rfl (fun ls hl => ?_)
        refine lv_iload_n hx hb dX2_join_24 rfl (lv_at hl 0 rfl) ?_
        refine lv_aload_n hx hb dX2_join_25 rfl (lv_at hl 1 rfl) ?_
        refine va_get (D := D) (ci := 2) (v := .int 3) (C := RX2) (T := TX2) (N := 5) hx hb hg inX2 hown hK hP 0 rfl rfl 3 (by decide) (hg _ fl_X2_26) (fun _ h9 => h9) rfl dX2_join_26 ?_
        refine lv_iconst (v := 1) hx hb dX2_join_29 (by decide) ?_
        refine lv_isub hx hb dX2_join_30 ?_
        rw [show (3 : Int32) - 1 = 2 from by decide]
        refine lv_icmp_ge (tgt := 73) hx hb dX2_join_31 (by decide) (fun _ => ?_) (fun c_20 => absurd c_20 (by decide))
        refine lv_aload_n hx hb dX2_join_73 rfl (lv_at hl 1 rfl) ?_
        refine lv_dup hx hb dX2_join_74 rfl ?_
        refine va_get (D := D) (ci := 2) (v := .int 3) (C := RX2) (T := TX2) (N := 5) hx hb hg inX2 hown hK hP 0 rfl rfl 3 (by decide) (hg _ fl_X2_26) (fun _ h9 => h9) rfl dX2_join_75 ?_
        refine lv_iconst (v := 1) hx hb dX2_join_78 (by decide) ?_
        refine lv_isub hx hb dX2_join_79 ?_
        rw [show (3 : Int32) - 1 = 2 from by decide]
        refine va_put (D := D) (ci := 2) (v := .int 2) (ty := .int) (C := RX2) (T := TX2) (N := 5) hx hb hg inX2 tyX2 tyX2_ok nmX2 hown hK hP hD hS 0 rfl rfl 3 (by decide) (hg _ fl_X2_26) (fun _ h9 => h9) rfl (by decide +kernel) rfl rfl (Nat.le_of_ble_eq_true rfl) dX2_join_80 (fun H locs hP hD hS => ?_)
        have hP : va_P D vwCl (xw cI cQ a pl pq nq nm ab lg 2 kn ++ fr) H := hP
        have hD : va_D A (xw cI cQ a pl pq nq nm ab lg 2 kn ++ fr) := hD
        refine vx_ret ?_
        refine W.widen (k := 1) (n := 6) (Nat.zero_le _) (Nat.zero_le _) ?_
        exact W.vret hx hb hr (fun t ht hW => ⟨⟨(pl, nm), rfl, ⟨hj5, 2, by omega, rfl, fun j hj => by rcases (show j = 0 ∨ j = 1 by omega) with rfl | rfl <;> simp [upd], fun j hj => by rcases (show j = 0 ∨ j = 1 ∨ j = 2 by omega) with rfl | rfl | rfl <;> simp [va_up]⟩, wd_E.at hK hP hD ht hW⟩, hS.F ht⟩) hS.2.2 dX2_join_83
    · obtain ⟨sa, hsa⟩ := hG.2.2.2.1 (65, "no such cut") (by decide)
      exact vx_throwS (names := ["java/lang/RuntimeException", "java/lang/Exception"]) (A := A) (sa := sa) hx hb hlt hown (by decide) (by decide) (hg _ cl_X2_63) (hg _ ini_IndexOutOfBoundsException) hsa (fun w hw => (xa_67 w hw).elim (hg w) (fun h => hG.nest h)) xg_67 hG.2.2.2.2.1 hG.2.2.2.2.2.1 hS (hl.1.trans hml.symm) dX2_join_12 dX2_join_15 dX2_join_16 dX2_join_18 dX2_join_21 (fun x hx9 => (htab x hx9).elim) (Nat.le_of_ble_eq_true rfl) (Nat.le_of_ble_eq_true rfl) (Nat.le_of_ble_eq_true rfl) (Nat.le_of_ble_eq_true rfl) hlocks (fun t hal hsz hq => ⟨(), trivial, ⟨⟨rfl, by simp [x_kc, c_1, c_2]⟩, (wd_thr hK hP hD hS t hal hsz hq).1⟩, (wd_thr hK hP hD hS t hal hsz hq).2⟩) hS.2.2 (Nat.le_of_ble_eq_true rfl) (Nat.le_of_ble_eq_true rfl)
