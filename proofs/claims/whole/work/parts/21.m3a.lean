theorem m_k {k : Int32} {cnt : Nat} (hc : cnt ≤ 3) : m_in k 0 (nI cnt - 1) = !x_kc k cnt := by
  have e : (nI cnt - 1).toInt = (cnt : Int) - 1 := by
    have h1 : (1 : Int32).toInt = 1 := rfl
    rw [Int32.toInt_sub, nI_toInt (by omega), h1, ma_I] <;> omega
  have h : (decide (nI cnt - 1 < k)) = !decide (k < nI cnt) := by
    rw [Bool.eq_iff_iff]
    simp only [decide_eq_true_eq, Bool.not_eq_true', decide_eq_false_iff_not, Int32.lt_iff_toInt_lt, e, nI_toInt (show cnt < 2 ^ 31 by omega)]
    omega
  rw [m_in, x_kc, h]
  cases decide (k < 0) <;> cases decide (k < nI cnt) <;> rfl
theorem m_p {k : Int32} {cnt : Nat} : m_in k 0 (nI cnt) = !x_pc k cnt := by
  have h : (decide (nI cnt < k)) = !decide (k ≤ nI cnt) := by
    rw [Bool.eq_iff_iff]
    simp only [decide_eq_true_eq, Bool.not_eq_true', decide_eq_false_iff_not, Int32.not_le]
  rw [m_in, x_pc, h]
  cases decide (k < 0) <;> cases decide (k ≤ nI cnt) <;> rfl
theorem m_n {k : Int32} : m_in k 0 7 = !x_nc k := by
  have h : (decide ((7 : Int32) < k)) = !decide (k < 8) := by
    rw [Bool.eq_iff_iff]
    have h7 : (7 : Int32).toInt = 7 := rfl
    have h8 : (8 : Int32).toInt = 8 := rfl
    simp only [decide_eq_true_eq, Bool.not_eq_true', decide_eq_false_iff_not, Int32.lt_iff_toInt_lt, h7, h8]
    omega
  rw [m_in, x_nc, h]
  cases decide (k < 0) <;> cases decide (k < 8) <;> rfl
theorem kc_n {k : Int32} {cnt : Nat} (hc : cnt ≤ 3) (h : x_kc k cnt = false) : ∃ j, j < cnt ∧ k = nI j := by
  simp only [x_kc, Bool.or_eq_false_iff, decide_eq_false_iff_not, Bool.not_eq_false', decide_eq_true_eq] at h
  exact x_kn hc h.1 h.2
theorem pc_n {k : Int32} {cnt : Nat} (hc : cnt ≤ 3) (h : x_pc k cnt = false) : ∃ j, j ≤ cnt ∧ k = nI j := by
  simp only [x_pc, Bool.or_eq_false_iff, decide_eq_false_iff_not, Bool.not_eq_false', decide_eq_true_eq] at h
  exact x_pn hc h.1 h.2
theorem nc_n {k : Int32} (h : x_nc k = false) : ∃ j, j < 8 ∧ k = nI j := by
  simp only [x_nc, Bool.or_eq_false_iff, decide_eq_false_iff_not, Bool.not_eq_false', decide_eq_true_eq] at h
  exact x_nn h.1 h.2
set_option maxHeartbeats 4000000 in
set_option maxRecDepth 100000 in
theorem c_X3_raise (l : Launch) (A : Nat → Prop) (D : va_G) (cI cL cQ : ClassId) (fr : va_W) (b : Nat → Nat) (cod : Int32) (cnt : Nat) (hc : cnt ≤ 3) (pl nm od op : Nat → Int32) (kb : Bool) (kU kD : Int64) (kl : Nat → Int32) (up dn : Int64) (lg : Nat → Int32) (k : Int32) : Met l yX3_raise wsX3_raise { frames := 0, cells := 0, slots := 0, locals := 0 } (va_Pc [.ref (b 0), .int k] (wd_B D (ty3 cI cL cQ) A (mw cI b cod (nI cnt) pl nm od op (zi kb) kU kD kl up dn lg ++ fr))) (va_Qi (fun r (u : Unit) => r = 0) (fun u t => wd_E D (ty3 cI cL cQ) A (mw cI b k (nI cnt) pl nm od op (zi kb) kU kD kl up dn lg ++ fr) t) A) 0 0 A := by
  refine Met.ofW (cc := cX3_raise) (maxL := 2) (ret := (some .int)) (by decide) rfl ?_
  intro p e s m args below meth c s₁ B hml hv
  obtain ⟨rfl, hG, hK, hP, hD, hA⟩ := hv
  have hx := B.exec
  have hb := B.bytes
  have hr := B.returns
  have hts := atoms_spec (ws := wsX3_raise) B.pre
  have hg : ∀ w ∈ gw, w.before ([.ref (b 0), .int k] : List Value).toArray s = true := fun w h => hts w (List.mem_cons_of_mem _ h)
  have hown : s.vm.findClass RX3 = some m.cls := findClass_of_methodNamed B.named
  have hlocks := B.notSynchronized
  have hS : va_S A s.heap s.heap [] := va_S.rf
  have hl := lv_entry ([.ref (b 0), .int k]) (n := 2) (Nat.le_of_ble_eq_true rfl)
  rw [lg_entry_eq]
  generalize (lg_sl ([.ref (b 0), .int k]) ++ List.replicate (2 - (lg_sl ([.ref (b 0), .int k])).length) Slot.unset).toArray = ls at hl ⊢
  have hl : lv_has ls 2 [(0, .ref (b 0)), (1, .int k)] := hl
  refine lv_aload_n hx hb dX3_raise_0 rfl (lv_at hl 0 rfl) ?_
  refine lv_iload_n hx hb dX3_raise_1 rfl (lv_at hl 1 rfl) ?_
  refine va_put (D := D) (ci := 3) (v := .int k) (ty := .int) (C := RX3) (T := TX3) (N := 13) hx hb hg inX3 tyX3 tyX3_ok nmX3 hown hK hP hD hS 0 rfl rfl 0 (by decide) (hg _ fl_X3_28) (fun _ h9 => h9) rfl (by decide +kernel) rfl rfl (Nat.le_of_ble_eq_true rfl) dX3_raise_2 (fun H locs hP hD hS => ?_)
  have hP : va_P D vwCl (mw cI b k (nI cnt) pl nm od op (zi kb) kU kD kl up dn lg ++ fr) H := hP
  have hD : va_D A (mw cI b k (nI cnt) pl nm od op (zi kb) kU kD kl up dn lg ++ fr) := hD
  refine lv_iconst (v := 0) hx hb dX3_raise_5 (by decide) ?_
  exact W.iret (v := 0) hx hb hr (fun t ht hW => ⟨⟨0, (), rfl, rfl, wd_E.at hK hP hD ht hW⟩, hS.F ht⟩) hS.2.2 dX3_raise_6
set_option maxHeartbeats 4000000 in
set_option maxRecDepth 100000 in
theorem c_X3_cuts (l : Launch) (A : Nat → Prop) (D : va_G) (cI cL cQ : ClassId) (fr : va_W) (b : Nat → Nat) (cod : Int32) (cnt : Nat) (hc : cnt ≤ 3) (pl nm od op : Nat → Int32) (kb : Bool) (kU kD : Int64) (kl : Nat → Int32) (up dn : Int64) (lg : Nat → Int32) : Met l yX3_cuts wsX3_cuts { frames := 0, cells := 0, slots := 0, locals := 0 } (va_Pc [.ref (b 0)] (wd_B D (ty3 cI cL cQ) A (mw cI b cod (nI cnt) pl nm od op (zi kb) kU kD kl up dn lg ++ fr))) (va_Qi (fun r (u : Unit) => r = nI cnt) (fun u t => wd_E D (ty3 cI cL cQ) A (mw cI b 0 (nI cnt) pl nm od op (zi kb) kU kD kl up dn lg ++ fr) t) A) 0 0 A := by
  refine Met.ofW (cc := cX3_cuts) (maxL := 1) (ret := (some .int)) (by decide) rfl ?_
  intro p e s m args below meth c s₁ B hml hv
  obtain ⟨rfl, hG, hK, hP, hD, hA⟩ := hv
  have hx := B.exec
  have hb := B.bytes
  have hr := B.returns
  have hts := atoms_spec (ws := wsX3_cuts) B.pre
  have hg : ∀ w ∈ gw, w.before ([.ref (b 0)] : List Value).toArray s = true := fun w h => hts w (List.mem_cons_of_mem _ h)
  have hown : s.vm.findClass RX3 = some m.cls := findClass_of_methodNamed B.named
  have hlocks := B.notSynchronized
  have hS : va_S A s.heap s.heap [] := va_S.rf
  have hl := lv_entry ([.ref (b 0)]) (n := 1) (Nat.le_of_ble_eq_true rfl)
  rw [lg_entry_eq]
  generalize (lg_sl ([.ref (b 0)]) ++ List.replicate (1 - (lg_sl ([.ref (b 0)])).length) Slot.unset).toArray = ls at hl ⊢
  have hl : lv_has ls 1 [(0, .ref (b 0))] := hl
  refine lv_aload_n hx hb dX3_cuts_0 rfl (lv_at hl 0 rfl) ?_
  refine lv_iconst (v := 0) hx hb dX3_cuts_1 (by decide) ?_
  refine va_put (D := D) (ci := 3) (v := .int 0) (ty := .int) (C := RX3) (T := TX3) (N := 13) hx hb hg inX3 tyX3 tyX3_ok nmX3 hown hK hP hD hS 0 rfl rfl 0 (by decide) (hg _ fl_X3_28) (fun _ h9 => h9) rfl (by decide +kernel) rfl rfl (Nat.le_of_ble_eq_true rfl) dX3_cuts_2 (fun H locs hP hD hS => ?_)
  have hP : va_P D vwCl (mw cI b 0 (nI cnt) pl nm od op (zi kb) kU kD kl up dn lg ++ fr) H := hP
  have hD : va_D A (mw cI b 0 (nI cnt) pl nm od op (zi kb) kU kD kl up dn lg ++ fr) := hD
  refine lv_aload_n hx hb dX3_cuts_5 rfl (lv_at hl 0 rfl) ?_
  refine va_get (D := D) (ci := 3) (v := .int (nI cnt)) (C := RX3) (T := TX3) (N := 13) hx hb hg inX3 hown hK hP 0 rfl rfl 1 (by decide) (hg _ fl_X3_32) (fun _ h9 => h9) rfl dX3_cuts_6 ?_
  exact W.iret (v := nI cnt) hx hb hr (fun t ht hW => ⟨⟨(nI cnt), (), rfl, rfl, wd_E.at hK hP hD ht hW⟩, hS.F ht⟩) hS.2.2 dX3_cuts_9
set_option maxHeartbeats 4000000 in
set_option maxRecDepth 100000 in
theorem c_X3_place (l : Launch) (A : Nat → Prop) (D : va_G) (cI cL cQ : ClassId) (fr : va_W) (b : Nat → Nat) (cod : Int32) (cnt : Nat) (hc : cnt ≤ 3) (pl nm od op : Nat → Int32) (kb : Bool) (kU kD : Int64) (kl : Nat → Int32) (up dn : Int64) (lg : Nat → Int32) (k : Int32) : Met l yX3_place wsX3_place { frames := 1, cells := 0, slots := 0, locals := 22 } (va_Pc [.ref (b 0), .int k] (wd_B D (ty3 cI cL cQ) A (mw cI b cod (nI cnt) pl nm od op (zi kb) kU kD kl up dn lg ++ fr))) (va_Qi (fun r (u : Int32) => (x_kc k cnt = true ∧ u = 1) ∨ (x_kc k cnt = false ∧ u = 0 ∧ ∃ j, j < cnt ∧ k = nI j ∧ r = pl j)) (fun u t => wd_E D (ty3 cI cL cQ) A (mw cI b u (nI cnt) pl nm od op (zi kb) kU kD kl up dn lg ++ fr) t) A) 0 0 A := by
  refine Met.ofW (cc := cX3_place) (maxL := 2) (ret := (some .int)) (by decide) rfl ?_
  intro p e s m args below meth c s₁ B hml hv
  obtain ⟨rfl, hG, hK, hP, hD, hA⟩ := hv
  have hx := B.exec
  have hb := B.bytes
  have hr := B.returns
  have hts := atoms_spec (ws := wsX3_place) B.pre
  have hg : ∀ w ∈ gw, w.before ([.ref (b 0), .int k] : List Value).toArray s = true := fun w h => hts w (List.mem_cons_of_mem _ h)
  have hown : s.vm.findClass RX3 = some m.cls := findClass_of_methodNamed B.named
  have hlocks := B.notSynchronized
  have hS : va_S A s.heap s.heap [] := va_S.rf
  have hl := lv_entry ([.ref (b 0), .int k]) (n := 2) (Nat.le_of_ble_eq_true rfl)
  rw [lg_entry_eq]
  generalize (lg_sl ([.ref (b 0), .int k]) ++ List.replicate (2 - (lg_sl ([.ref (b 0), .int k])).length) Slot.unset).toArray = ls at hl ⊢
  have hl : lv_has ls 2 [(0, .ref (b 0)), (1, .int k)] := hl
  refine lv_aload_n hx hb dX3_place_0 rfl (lv_at hl 0 rfl) ?_
  refine lv_iload_n hx hb dX3_place_1 rfl (lv_at hl 1 rfl) ?_
  refine lv_iconst (v := 0) hx hb dX3_place_2 (by decide) ?_
  refine lv_aload_n hx hb dX3_place_3 rfl (lv_at hl 0 rfl) ?_
  refine va_get (D := D) (ci := 3) (v := .int (nI cnt)) (C := RX3) (T := TX3) (N := 13) hx hb hg inX3 hown hK hP 0 rfl rfl 1 (by decide) (hg _ fl_X3_32) (fun _ h9 => h9) rfl dX3_place_4 ?_
  refine lv_iconst (v := 1) hx hb dX3_place_7 (by decide) ?_
  refine lv_isub hx hb dX3_place_8 ?_
  refine vp_callSi (W.runS (As := [.int k, .int 0, .int (nI cnt - 1)]) (rest := [.ref (b 0)]) ⟨hx, hb, hml, hown, hg⟩ (c_X3_in l k 0 (nI cnt - 1)) (va_cwS 3 hg (gw_S ml_X3_35 sm_X3_in ini_X3 co_X3_in) rfl rfl rfl (by decide +kernel) ⟨Nat.le_of_ble_eq_true rfl, Nat.le_of_ble_eq_true rfl⟩) ⟨tt_blind, (fun U hU hW => ⟨rfl, trivial⟩)⟩ rfl rfl hl.1 rfl (lv_room (Nat.le_of_ble_eq_true rfl)) dX3_place_9 ⟨Nat.le_of_ble_eq_true rfl, Nat.le_of_ble_eq_true rfl⟩) (fun r_1 hr_1 => ?_)
  subst hr_1
  refine lv_if_eq (tgt := 19) hx hb dX3_place_12 (by decide) (fun c_2 => ?_) (fun c_2 => ?_)
  · replace c_2 := zi_0 c_2
    refine lv_iconst (v := 1) hx hb dX3_place_19 (by decide) ?_
    have hkc : x_kc k cnt = true := by rw [m_k hc] at c_2; simpa using c_2
    refine va_put (D := D) (ci := 3) (v := .int 1) (ty := .int) (C := RX3) (T := TX3) (N := 13) hx hb hg inX3 tyX3 tyX3_ok nmX3 hown hK hP hD hS 0 rfl rfl 0 (by decide) (hg _ fl_X3_28) (fun _ h9 => h9) rfl (by decide +kernel) rfl rfl (Nat.le_of_ble_eq_true rfl) dX3_place_20 (fun H locs hP hD hS => ?_)
    have hP : va_P D vwCl (mw cI b 1 (nI cnt) pl nm od op (zi kb) kU kD kl up dn lg ++ fr) H := hP
    have hD : va_D A (mw cI b 1 (nI cnt) pl nm od op (zi kb) kU kD kl up dn lg ++ fr) := hD
    refine lv_aload_n hx hb dX3_place_23 rfl (lv_at hl 0 rfl) ?_
    refine va_get (D := D) (ci := 3) (v := .int 1) (C := RX3) (T := TX3) (N := 13) hx hb hg inX3 hown hK hP 0 rfl rfl 0 (by decide) (hg _ fl_X3_28) (fun _ h9 => h9) rfl dX3_place_24 ?_
    refine lv_if_le (tgt := 34) hx hb dX3_place_27 (by decide) (fun c_3 => absurd c_3 (by decide)) (fun _ => ?_)
    refine lv_iconst (v := 0) hx hb dX3_place_30 (by decide) ?_
    refine lv_goto (tgt := 40) hx hb dX3_place_31 (by decide) ?_
    exact W.iret (v := 0) hx hb hr (fun t ht hW => ⟨⟨0, 1, rfl, Or.inl ⟨hkc, rfl⟩, wd_E.at hK hP hD ht hW⟩, hS.F ht⟩) hS.2.2 dX3_place_40
  · replace c_2 := zi_n0 c_2
    refine lv_iconst (v := 0) hx hb dX3_place_15 (by decide) ?_
    refine lv_goto (tgt := 20) hx hb dX3_place_16 (by decide) ?_
    have hkc : x_kc k cnt = false := by rw [m_k hc] at c_2; simpa using c_2
    refine va_put (D := D) (ci := 3) (v := .int 0) (ty := .int) (C := RX3) (T := TX3) (N := 13) hx hb hg inX3 tyX3 tyX3_ok nmX3 hown hK hP hD hS 0 rfl rfl 0 (by decide) (hg _ fl_X3_28) (fun _ h9 => h9) rfl (by decide +kernel) rfl rfl (Nat.le_of_ble_eq_true rfl) dX3_place_20 (fun H locs hP hD hS => ?_)
    have hP : va_P D vwCl (mw cI b 0 (nI cnt) pl nm od op (zi kb) kU kD kl up dn lg ++ fr) H := hP
    have hD : va_D A (mw cI b 0 (nI cnt) pl nm od op (zi kb) kU kD kl up dn lg ++ fr) := hD
    refine lv_aload_n hx hb dX3_place_23 rfl (lv_at hl 0 rfl) ?_
    refine va_get (D := D) (ci := 3) (v := .int 0) (C := RX3) (T := TX3) (N := 13) hx hb hg inX3 hown hK hP 0 rfl rfl 0 (by decide) (hg _ fl_X3_28) (fun _ h9 => h9) rfl dX3_place_24 ?_
    refine lv_if_le (tgt := 34) hx hb dX3_place_27 (by decide) (fun _ => ?_) (fun c_4 => absurd c_4 (by decide))
    obtain ⟨j, hj, rfl⟩ := kc_n hc hkc
    refine lv_aload_n hx hb dX3_place_34 rfl (lv_at hl 0 rfl) ?_
    refine va_get (D := D) (ci := 3) (v := .ref (b 1)) (C := RX3) (T := TX3) (N := 13) hx hb hg inX3 hown hK hP 0 rfl rfl 2 (by decide) (hg _ fl_X3_7) (fun _ h9 => h9) rfl dX3_place_35 ?_
    refine lv_iload_n hx hb dX3_place_38 rfl (lv_at hl 1 rfl) ?_
    refine va_iald (D := D) (n := 3) (f := pl) hx hb hK hP 1 0 rfl rfl (vp_in_nI (show j < 3 by omega) (by decide)) dX3_place_39 ?_
    rw [nI_clamp (show j < 2 ^ 31 by omega)]
    exact W.iret (v := (pl j)) hx hb hr (fun t ht hW => ⟨⟨(pl j), 0, rfl, Or.inr ⟨hkc, rfl, j, hj, rfl, rfl⟩, wd_E.at hK hP hD ht hW⟩, hS.F ht⟩) hS.2.2 dX3_place_40
set_option maxHeartbeats 4000000 in
set_option maxRecDepth 100000 in
theorem c_X3_at (l : Launch) (A : Nat → Prop) (D : va_G) (cI cL cQ : ClassId) (fr : va_W) (b : Nat → Nat) (cod : Int32) (cnt : Nat) (hc : cnt ≤ 3) (pl nm od op : Nat → Int32) (kb : Bool) (kU kD : Int64) (kl : Nat → Int32) (up dn : Int64) (lg : Nat → Int32) (k n : Int32) : Met l yX3_at wsX3_at { frames := 1, cells := 0, slots := 0, locals := 22 } (va_Pc [.ref (b 0), .int k, .int n] (wd_B D (ty3 cI cL cQ) A (mw cI b cod (nI cnt) pl nm od op (zi kb) kU kD kl up dn lg ++ fr))) (va_Qi (fun r (u : Int32) => (x_pc k cnt = true ∧ u = 1) ∨ (x_pc k cnt = false ∧ x_nc n = true ∧ u = 2) ∨ (x_pc k cnt = false ∧ x_nc n = false ∧ u = 0 ∧ ∃ i j, i ≤ cnt ∧ j < 8 ∧ k = nI i ∧ n = nI j ∧ r = nm (8 * i + j))) (fun u t => wd_E D (ty3 cI cL cQ) A (mw cI b u (nI cnt) pl nm od op (zi kb) kU kD kl up dn lg ++ fr) t) A) 0 0 A := by
  refine Met.ofW (cc := cX3_at) (maxL := 3) (ret := (some .int)) (by decide) rfl ?_
  intro p e s m args below meth c s₁ B hml hv
  obtain ⟨rfl, hG, hK, hP, hD, hA⟩ := hv
  have hx := B.exec
  have hb := B.bytes
  have hr := B.returns
  have hts := atoms_spec (ws := wsX3_at) B.pre
  have hg : ∀ w ∈ gw, w.before ([.ref (b 0), .int k, .int n] : List Value).toArray s = true := fun w h => hts w (List.mem_cons_of_mem _ h)
  have hown : s.vm.findClass RX3 = some m.cls := findClass_of_methodNamed B.named
  have hlocks := B.notSynchronized
  have hS : va_S A s.heap s.heap [] := va_S.rf
  have hl := lv_entry ([.ref (b 0), .int k, .int n]) (n := 3) (Nat.le_of_ble_eq_true rfl)
  rw [lg_entry_eq]
  generalize (lg_sl ([.ref (b 0), .int k, .int n]) ++ List.replicate (3 - (lg_sl ([.ref (b 0), .int k, .int n])).length) Slot.unset).toArray = ls at hl ⊢
  have hl : lv_has ls 3 [(0, .ref (b 0)), (1, .int k), (2, .int n)] := hl
  refine lv_aload_n hx hb dX3_at_0 rfl (lv_at hl 0 rfl) ?_
  refine lv_iload_n hx hb dX3_at_1 rfl (lv_at hl 1 rfl) ?_
  refine lv_iconst (v := 0) hx hb dX3_at_2 (by decide) ?_
  refine lv_aload_n hx hb dX3_at_3 rfl (lv_at hl 0 rfl) ?_
  refine va_get (D := D) (ci := 3) (v := .int (nI cnt)) (C := RX3) (T := TX3) (N := 13) hx hb hg inX3 hown hK hP 0 rfl rfl 1 (by decide) (hg _ fl_X3_32) (fun _ h9 => h9) rfl dX3_at_4 ?_
  refine vp_callSi (W.runS (As := [.int k, .int 0, .int (nI cnt)]) (rest := [.ref (b 0)]) ⟨hx, hb, hml, hown, hg⟩ (c_X3_in l k 0 (nI cnt)) (va_cwS 3 hg (gw_S ml_X3_35 sm_X3_in ini_X3 co_X3_in) rfl rfl rfl (by decide +kernel) ⟨Nat.le_of_ble_eq_true rfl, Nat.le_of_ble_eq_true rfl⟩) ⟨tt_blind, (fun U hU hW => ⟨rfl, trivial⟩)⟩ rfl rfl hl.1 rfl (lv_room (Nat.le_of_ble_eq_true rfl)) dX3_at_7 ⟨Nat.le_of_ble_eq_true rfl, Nat.le_of_ble_eq_true rfl⟩) (fun r_1 hr_1 => ?_)
  subst hr_1
  refine lv_if_ne (tgt := 17) hx hb dX3_at_10 (by decide) (fun c_2 => ?_) (fun c_2 => ?_)
  · replace c_2 := zi_n0 c_2
    refine lv_iload_n hx hb dX3_at_17 rfl (lv_at hl 2 rfl) ?_
    refine lv_iconst (v := 0) hx hb dX3_at_18 (by decide) ?_
    refine lv_bipush (v := 7) hx hb dX3_at_19 (by decide) ?_
    refine vp_callSi (W.runS (As := [.int n, .int 0, .int 7]) (rest := [.ref (b 0)]) ⟨hx, hb, hml, hown, hg⟩ (c_X3_in l n 0 7) (va_cwS 3 hg (gw_S ml_X3_35 sm_X3_in ini_X3 co_X3_in) rfl rfl rfl (by decide +kernel) ⟨Nat.le_of_ble_eq_true rfl, Nat.le_of_ble_eq_true rfl⟩) ⟨tt_blind, (fun U hU hW => ⟨rfl, trivial⟩)⟩ rfl rfl hl.1 rfl (lv_room (Nat.le_of_ble_eq_true rfl)) dX3_at_21 ⟨Nat.le_of_ble_eq_true rfl, Nat.le_of_ble_eq_true rfl⟩) (fun r_3 hr_3 => ?_)
    subst hr_3
    refine lv_if_eq (tgt := 31) hx hb dX3_at_24 (by decide) (fun c_4 => ?_) (fun c_4 => ?_)
    · replace c_4 := zi_0 c_4
      refine lv_iconst (v := 2) hx hb dX3_at_31 (by decide) ?_
      have hpc : x_pc k cnt = false := by rw [m_p] at c_2; simpa using c_2
      have hnc : x_nc n = true := by rw [m_n] at c_4; simpa using c_4
      refine va_put (D := D) (ci := 3) (v := .int 2) (ty := .int) (C := RX3) (T := TX3) (N := 13) hx hb hg inX3 tyX3 tyX3_ok nmX3 hown hK hP hD hS 0 rfl rfl 0 (by decide) (hg _ fl_X3_28) (fun _ h9 => h9) rfl (by decide +kernel) rfl rfl (Nat.le_of_ble_eq_true rfl) dX3_at_32 (fun H locs hP hD hS => ?_)
      have hP : va_P D vwCl (mw cI b 2 (nI cnt) pl nm od op (zi kb) kU kD kl up dn lg ++ fr) H := hP
      have hD : va_D A (mw cI b 2 (nI cnt) pl nm od op (zi kb) kU kD kl up dn lg ++ fr) := hD
      refine lv_aload_n hx hb dX3_at_35 rfl (lv_at hl 0 rfl) ?_
      refine va_get (D := D) (ci := 3) (v := .int 2) (C := RX3) (T := TX3) (N := 13) hx hb hg inX3 hown hK hP 0 rfl rfl 0 (by decide) (hg _ fl_X3_28) (fun _ h9 => h9) rfl dX3_at_36 ?_
      refine lv_if_le (tgt := 46) hx hb dX3_at_39 (by decide) (fun c_5 => absurd c_5 (by decide)) (fun _ => ?_)
      refine lv_iconst (v := 0) hx hb dX3_at_42 (by decide) ?_
      refine lv_goto (tgt := 57) hx hb dX3_at_43 (by decide) ?_
      exact W.iret (v := 0) hx hb hr (fun t ht hW => ⟨⟨0, 2, rfl, Or.inr (Or.inl ⟨hpc, hnc, rfl⟩), wd_E.at hK hP hD ht hW⟩, hS.F ht⟩) hS.2.2 dX3_at_57
    · replace c_4 := zi_n0 c_4
      refine lv_iconst (v := 0) hx hb dX3_at_27 (by decide) ?_
      refine lv_goto (tgt := 32) hx hb dX3_at_28 (by decide) ?_
      have hpc : x_pc k cnt = false := by rw [m_p] at c_2; simpa using c_2
      have hnc : x_nc n = false := by rw [m_n] at c_4; simpa using c_4
      refine va_put (D := D) (ci := 3) (v := .int 0) (ty := .int) (C := RX3) (T := TX3) (N := 13) hx hb hg inX3 tyX3 tyX3_ok nmX3 hown hK hP hD hS 0 rfl rfl 0 (by decide) (hg _ fl_X3_28) (fun _ h9 => h9) rfl (by decide +kernel) rfl rfl (Nat.le_of_ble_eq_true rfl) dX3_at_32 (fun H locs hP hD hS => ?_)
      have hP : va_P D vwCl (mw cI b 0 (nI cnt) pl nm od op (zi kb) kU kD kl up dn lg ++ fr) H := hP
      have hD : va_D A (mw cI b 0 (nI cnt) pl nm od op (zi kb) kU kD kl up dn lg ++ fr) := hD
      refine lv_aload_n hx hb dX3_at_35 rfl (lv_at hl 0 rfl) ?_
      refine va_get (D := D) (ci := 3) (v := .int 0) (C := RX3) (T := TX3) (N := 13) hx hb hg inX3 hown hK hP 0 rfl rfl 0 (by decide) (hg _ fl_X3_28) (fun _ h9 => h9) rfl dX3_at_36 ?_
      refine lv_if_le (tgt := 46) hx hb dX3_at_39 (by decide) (fun _ => ?_) (fun c_6 => absurd c_6 (by decide))
      obtain ⟨i, hi, rfl⟩ := pc_n hc hpc
      obtain ⟨j, hj, rfl⟩ := nc_n hnc
      refine lv_aload_n hx hb dX3_at_46 rfl (lv_at hl 0 rfl) ?_
      refine va_get (D := D) (ci := 3) (v := .ref (b 2)) (C := RX3) (T := TX3) (N := 13) hx hb hg inX3 hown hK hP 0 rfl rfl 3 (by decide) (hg _ fl_X3_13) (fun _ h9 => h9) rfl dX3_at_47 ?_
      refine lv_bipush (v := 8) hx hb dX3_at_50 (by decide) ?_
      refine lv_iload_n hx hb dX3_at_52 rfl (lv_at hl 1 rfl) ?_
      refine lv_imul hx hb dX3_at_53 ?_
      rw [show (8 : Int32) * nI i = nI (8 * i) from pk_mul 8 i]
      refine lv_iload_n hx hb dX3_at_54 rfl (lv_at hl 2 rfl) ?_
      refine lv_iadd hx hb dX3_at_55 ?_
      rw [show (nI (8 * i)) + nI j = nI ((8 * i) + j) from nI_add (8 * i) j]
      refine va_iald (D := D) (n := 32) (f := nm) hx hb hK hP 2 0 rfl rfl (vp_in_nI (show ((8 * i) + j) < 32 by omega) (by decide)) dX3_at_56 ?_
      rw [nI_clamp (show ((8 * i) + j) < 2 ^ 31 by omega)]
      exact W.iret (v := (nm ((8 * i) + j))) hx hb hr (fun t ht hW => ⟨⟨(nm ((8 * i) + j)), 0, rfl, Or.inr (Or.inr ⟨hpc, hnc, rfl, i, j, hi, hj, rfl, rfl, rfl⟩), wd_E.at hK hP hD ht hW⟩, hS.F ht⟩) hS.2.2 dX3_at_57
  · replace c_2 := zi_0 c_2
    refine lv_iconst (v := 1) hx hb dX3_at_13 (by decide) ?_
    refine lv_goto (tgt := 32) hx hb dX3_at_14 (by decide) ?_
    have hpc : x_pc k cnt = true := by rw [m_p] at c_2; simpa using c_2
    refine va_put (D := D) (ci := 3) (v := .int 1) (ty := .int) (C := RX3) (T := TX3) (N := 13) hx hb hg inX3 tyX3 tyX3_ok nmX3 hown hK hP hD hS 0 rfl rfl 0 (by decide) (hg _ fl_X3_28) (fun _ h9 => h9) rfl (by decide +kernel) rfl rfl (Nat.le_of_ble_eq_true rfl) dX3_at_32 (fun H locs hP hD hS => ?_)
    have hP : va_P D vwCl (mw cI b 1 (nI cnt) pl nm od op (zi kb) kU kD kl up dn lg ++ fr) H := hP
    have hD : va_D A (mw cI b 1 (nI cnt) pl nm od op (zi kb) kU kD kl up dn lg ++ fr) := hD
    refine lv_aload_n hx hb dX3_at_35 rfl (lv_at hl 0 rfl) ?_
    refine va_get (D := D) (ci := 3) (v := .int 1) (C := RX3) (T := TX3) (N := 13) hx hb hg inX3 hown hK hP 0 rfl rfl 0 (by decide) (hg _ fl_X3_28) (fun _ h9 => h9) rfl dX3_at_36 ?_
    refine lv_if_le (tgt := 46) hx hb dX3_at_39 (by decide) (fun c_7 => absurd c_7 (by decide)) (fun _ => ?_)
    refine lv_iconst (v := 0) hx hb dX3_at_42 (by decide) ?_
    refine lv_goto (tgt := 57) hx hb dX3_at_43 (by decide) ?_
    exact W.iret (v := 0) hx hb hr (fun t ht hW => ⟨⟨0, 1, rfl, Or.inl ⟨hpc, rfl⟩, wd_E.at hK hP hD ht hW⟩, hS.F ht⟩) hS.2.2 dX3_at_57
theorem m_v {v : Int32} {q : Int32} : m_in v (-q) q = x_in v q := rfl
set_option maxHeartbeats 4000000 in
set_option maxRecDepth 100000 in
theorem c_X3_put (l : Launch) (A : Nat → Prop) (D : va_G) (cI cL cQ : ClassId) (fr : va_W) (b : Nat → Nat) (cod : Int32) (cnt : Nat) (hc : cnt ≤ 3) (pl nm od op : Nat → Int32) (kb : Bool) (kU kD : Int64) (kl : Nat → Int32) (up dn : Int64) (lg : Nat → Int32) (k n v : Int32) : Met l yX3_put wsX3_put { frames := 1, cells := 0, slots := 0, locals := 22 } (va_Pc [.ref (b 0), .int k, .int n, .int v] (wd_B D (ty3 cI cL cQ) A (mw cI b cod (nI cnt) pl nm od op (zi kb) kU kD kl up dn lg ++ fr))) (va_Qi (fun r (u : Int32 × (Nat → Int32)) => (x_pc k cnt = true ∧ u.1 = 1 ∧ u.2 = nm) ∨ (x_pc k cnt = false ∧ (x_nc n = true ∨ x_in v (if n = 7 then 6 else 5) = false) ∧ u.1 = 2 ∧ u.2 = nm) ∨ (x_pc k cnt = false ∧ x_nc n = false ∧ x_in v (if n = 7 then 6 else 5) = true ∧ u.1 = 0 ∧ ∃ i j, i ≤ cnt ∧ j < 8 ∧ k = nI i ∧ n = nI j ∧ u.2 = upd nm (8 * i + j) v ∧ r = zi (!decide (nm (8 * i + j) = v)))) (fun u t => wd_E D (ty3 cI cL cQ) A (mw cI b u.1 (nI cnt) pl u.2 od op (zi kb) kU kD kl up dn lg ++ fr) t) A) 0 0 A := by
  refine Met.ofW (cc := cX3_put) (maxL := 5) (ret := (some .boolean)) (by decide) rfl ?_
  intro p e s m args below meth c s₁ B hml hv
  obtain ⟨rfl, hG, hK, hP, hD, hA⟩ := hv
  have hx := B.exec
  have hb := B.bytes
  have hr := B.returns
  have hts := atoms_spec (ws := wsX3_put) B.pre
  have hg : ∀ w ∈ gw, w.before ([.ref (b 0), .int k, .int n, .int v] : List Value).toArray s = true := fun w h => hts w (List.mem_cons_of_mem _ h)
  have hown : s.vm.findClass RX3 = some m.cls := findClass_of_methodNamed B.named
  have hlocks := B.notSynchronized
  have hS : va_S A s.heap s.heap [] := va_S.rf
  have hl := lv_entry ([.ref (b 0), .int k, .int n, .int v]) (n := 5) (Nat.le_of_ble_eq_true rfl)
  rw [lg_entry_eq]
  generalize (lg_sl ([.ref (b 0), .int k, .int n, .int v]) ++ List.replicate (5 - (lg_sl ([.ref (b 0), .int k, .int n, .int v])).length) Slot.unset).toArray = ls at hl ⊢
  have hl : lv_has ls 5 [(0, .ref (b 0)), (1, .int k), (2, .int n), (3, .int v)] := hl
  refine lv_aload_n hx hb dX3_put_0 rfl (lv_at hl 0 rfl) ?_
  refine lv_iload_n hx hb dX3_put_1 rfl (lv_at hl 1 rfl) ?_
  refine lv_iconst (v := 0) hx hb dX3_put_2 (by decide) ?_
  refine lv_aload_n hx hb dX3_put_3 rfl (lv_at hl 0 rfl) ?_
  refine va_get (D := D) (ci := 3) (v := .int (nI cnt)) (C := RX3) (T := TX3) (N := 13) hx hb hg inX3 hown hK hP 0 rfl rfl 1 (by decide) (hg _ fl_X3_32) (fun _ h9 => h9) rfl dX3_put_4 ?_
  refine vp_callSi (W.runS (As := [.int k, .int 0, .int (nI cnt)]) (rest := [.ref (b 0)]) ⟨hx, hb, hml, hown, hg⟩ (c_X3_in l k 0 (nI cnt)) (va_cwS 3 hg (gw_S ml_X3_35 sm_X3_in ini_X3 co_X3_in) rfl rfl rfl (by decide +kernel) ⟨Nat.le_of_ble_eq_true rfl, Nat.le_of_ble_eq_true rfl⟩) ⟨tt_blind, (fun U hU hW => ⟨rfl, trivial⟩)⟩ rfl rfl hl.1 rfl (lv_room (Nat.le_of_ble_eq_true rfl)) dX3_put_7 ⟨Nat.le_of_ble_eq_true rfl, Nat.le_of_ble_eq_true rfl⟩) (fun r_1 hr_1 => ?_)
  subst hr_1
  refine lv_if_ne (tgt := 17) hx hb dX3_put_10 (by decide) (fun c_2 => ?_) (fun c_2 => ?_)
  · replace c_2 := zi_n0 c_2
    refine lv_iload_n hx hb dX3_put_17 rfl (lv_at hl 2 rfl) ?_
    refine lv_iconst (v := 0) hx hb dX3_put_18 (by decide) ?_
    refine lv_bipush (v := 7) hx hb dX3_put_19 (by decide) ?_
    refine vp_callSi (W.runS (As := [.int n, .int 0, .int 7]) (rest := [.ref (b 0)]) ⟨hx, hb, hml, hown, hg⟩ (c_X3_in l n 0 7) (va_cwS 3 hg (gw_S ml_X3_35 sm_X3_in ini_X3 co_X3_in) rfl rfl rfl (by decide +kernel) ⟨Nat.le_of_ble_eq_true rfl, Nat.le_of_ble_eq_true rfl⟩) ⟨tt_blind, (fun U hU hW => ⟨rfl, trivial⟩)⟩ rfl rfl hl.1 rfl (lv_room (Nat.le_of_ble_eq_true rfl)) dX3_put_21 ⟨Nat.le_of_ble_eq_true rfl, Nat.le_of_ble_eq_true rfl⟩) (fun r_3 hr_3 => ?_)
    subst hr_3
    refine lv_if_eq (tgt := 59) hx hb dX3_put_24 (by decide) (fun c_4 => ?_) (fun c_4 => ?_)
    · replace c_4 := zi_0 c_4
      refine lv_iconst (v := 2) hx hb dX3_put_59 (by decide) ?_
      refine lv_goto (tgt := 64) hx hb dX3_put_60 (by decide) ?_
      have hpc : x_pc k cnt = false := by rw [m_p] at c_2; simpa using c_2
      have hnc : x_nc n = true := by rw [m_n] at c_4; simpa using c_4
      refine va_put (D := D) (ci := 3) (v := .int 2) (ty := .int) (C := RX3) (T := TX3) (N := 13) hx hb hg inX3 tyX3 tyX3_ok nmX3 hown hK hP hD hS 0 rfl rfl 0 (by decide) (hg _ fl_X3_28) (fun _ h9 => h9) rfl (by decide +kernel) rfl rfl (Nat.le_of_ble_eq_true rfl) dX3_put_64 (fun H locs hP hD hS => ?_)
      have hP : va_P D vwCl (mw cI b 2 (nI cnt) pl nm od op (zi kb) kU kD kl up dn lg ++ fr) H := hP
      have hD : va_D A (mw cI b 2 (nI cnt) pl nm od op (zi kb) kU kD kl up dn lg ++ fr) := hD
      refine lv_aload_n hx hb dX3_put_67 rfl (lv_at hl 0 rfl) ?_
      refine va_get (D := D) (ci := 3) (v := .int 2) (C := RX3) (T := TX3) (N := 13) hx hb hg inX3 hown hK hP 0 rfl rfl 0 (by decide) (hg _ fl_X3_28) (fun _ h9 => h9) rfl dX3_put_68 ?_
      refine lv_if_le (tgt := 76) hx hb dX3_put_71 (by decide) (fun c_5 => absurd c_5 (by decide)) (fun _ => ?_)
      refine lv_iconst (v := 0) hx hb dX3_put_74 (by decide) ?_
      exact W.zret (v := 0) hx hb hr rfl (fun t ht hW => ⟨⟨0, (2, nm), rfl, Or.inr (Or.inl ⟨hpc, Or.inl hnc, rfl, rfl⟩), wd_E.at hK hP hD ht hW⟩, hS.F ht⟩) hS.2.2 dX3_put_75
    · replace c_4 := zi_n0 c_4
      refine lv_iload_n hx hb dX3_put_27 rfl (lv_at hl 3 rfl) ?_
      refine lv_iload_n hx hb dX3_put_28 rfl (lv_at hl 2 rfl) ?_
      refine lv_bipush (v := 7) hx hb dX3_put_29 (by decide) ?_
      refine lv_icmp_ne (tgt := 39) hx hb dX3_put_31 (by decide) (fun c_6 => ?_) (fun c_6 => ?_)
      · refine lv_bipush (v := (-5)) hx hb dX3_put_39 (by decide) ?_
        refine lv_iload_n hx hb dX3_put_41 rfl (lv_at hl 2 rfl) ?_
        refine lv_bipush (v := 7) hx hb dX3_put_42 (by decide) ?_
        refine lv_icmp_ne (tgt := 52) hx hb dX3_put_44 (by decide) (fun _ => ?_) (fun h => absurd h (by simpa using c_6))
        refine lv_iconst (v := 5) hx hb dX3_put_52 (by decide) ?_
        refine vp_callSi (W.runS (As := [.int v, .int (-5), .int 5]) (rest := [.ref (b 0)]) ⟨hx, hb, hml, hown, hg⟩ (c_X3_in l v (-5) 5) (va_cwS 3 hg (gw_S ml_X3_35 sm_X3_in ini_X3 co_X3_in) rfl rfl rfl (by decide +kernel) ⟨Nat.le_of_ble_eq_true rfl, Nat.le_of_ble_eq_true rfl⟩) ⟨tt_blind, (fun U hU hW => ⟨rfl, trivial⟩)⟩ rfl rfl hl.1 rfl (lv_room (Nat.le_of_ble_eq_true rfl)) dX3_put_53 ⟨Nat.le_of_ble_eq_true rfl, Nat.le_of_ble_eq_true rfl⟩) (fun r_7 hr_7 => ?_)
        subst hr_7
        refine lv_if_ne (tgt := 63) hx hb dX3_put_56 (by decide) (fun c_8 => ?_) (fun c_8 => ?_)
        · replace c_8 := zi_n0 c_8
          refine lv_iconst (v := 0) hx hb dX3_put_63 (by decide) ?_
          have hpc : x_pc k cnt = false := by rw [m_p] at c_2; simpa using c_2
          have hnc : x_nc n = false := by rw [m_n] at c_4; simpa using c_4
          have hxv : x_in v (if n = 7 then 6 else 5) = true := by rw [if_neg c_6]; exact c_8
          refine va_put (D := D) (ci := 3) (v := .int 0) (ty := .int) (C := RX3) (T := TX3) (N := 13) hx hb hg inX3 tyX3 tyX3_ok nmX3 hown hK hP hD hS 0 rfl rfl 0 (by decide) (hg _ fl_X3_28) (fun _ h9 => h9) rfl (by decide +kernel) rfl rfl (Nat.le_of_ble_eq_true rfl) dX3_put_64 (fun H locs hP hD hS => ?_)
          have hP : va_P D vwCl (mw cI b 0 (nI cnt) pl nm od op (zi kb) kU kD kl up dn lg ++ fr) H := hP
          have hD : va_D A (mw cI b 0 (nI cnt) pl nm od op (zi kb) kU kD kl up dn lg ++ fr) := hD
          refine lv_aload_n hx hb dX3_put_67 rfl (lv_at hl 0 rfl) ?_
          refine va_get (D := D) (ci := 3) (v := .int 0) (C := RX3) (T := TX3) (N := 13) hx hb hg inX3 hown hK hP 0 rfl rfl 0 (by decide) (hg _ fl_X3_28) (fun _ h9 => h9) rfl dX3_put_68 ?_
          refine lv_if_le (tgt := 76) hx hb dX3_put_71 (by decide) (fun _ => ?_) (fun c_9 => absurd c_9 (by decide))
          obtain ⟨i, hi, rfl⟩ := pc_n hc hpc
          obtain ⟨j, hj, rfl⟩ := nc_n hnc
          refine lv_aload_n hx hb dX3_put_76 rfl (lv_at hl 0 rfl) ?_
          refine va_get (D := D) (ci := 3) (v := .ref (b 2)) (C := RX3) (T := TX3) (N := 13) hx hb hg inX3 hown hK hP 0 rfl rfl 3 (by decide) (hg _ fl_X3_13) (fun _ h9 => h9) rfl dX3_put_77 ?_
          refine lv_bipush (v := 8) hx hb dX3_put_80 (by decide) ?_
          refine lv_iload_n hx hb dX3_put_82 rfl (lv_at hl 1 rfl) ?_
          refine lv_imul hx hb dX3_put_83 ?_
          rw [show (8 : Int32) * nI i = nI (8 * i) from pk_mul 8 i]
          refine lv_iload_n hx hb dX3_put_84 rfl (lv_at hl 2 rfl) ?_
          refine lv_iadd hx hb dX3_put_85 ?_
          rw [show (nI (8 * i)) + nI j = nI ((8 * i) + j) from nI_add (8 * i) j]
          refine va_iald (D := D) (n := 32) (f := nm) hx hb hK hP 2 0 rfl rfl (vp_in_nI (show ((8 * i) + j) < 32 by omega) (by decide)) dX3_put_86 ?_
          rw [nI_clamp (show ((8 * i) + j) < 2 ^ 31 by omega)]
          refine lv_iload_n hx hb dX3_put_87 rfl (lv_at hl 3 rfl) ?_
          refine lv_icmp_eq (tgt := 95) hx hb dX3_put_88 (by decide) (fun c_10 => ?_) (fun c_10 => ?_)
          · refine lv_iconst (v := 0) hx hb dX3_put_95 (by decide) ?_
            refine lv_istore (lv' := [(4, .int 0), (0, .ref (b 0)), (1, .int (nI i)), (2, .int (nI j)), (3, .int v)]) hx hb dX3_put_96 hl (by decide) rfl (fun ls hl => ?_)
            refine lv_aload_n hx hb dX3_put_98 rfl (lv_at hl 1 rfl) ?_
            refine va_get (D := D) (ci := 3) (v := .ref (b 2)) (C := RX3) (T := TX3) (N := 13) hx hb hg inX3 hown hK hP 0 rfl rfl 3 (by decide) (hg _ fl_X3_13) (fun _ h9 => h9) rfl dX3_put_99 ?_
            refine lv_bipush (v := 8) hx hb dX3_put_102 (by decide) ?_
            refine lv_iload_n hx hb dX3_put_104 rfl (lv_at hl 2 rfl) ?_
            refine lv_imul hx hb dX3_put_105 ?_
            rw [show (8 : Int32) * nI i = nI (8 * i) from pk_mul 8 i]
            refine lv_iload_n hx hb dX3_put_106 rfl (lv_at hl 3 rfl) ?_
            refine lv_iadd hx hb dX3_put_107 ?_
            rw [show (nI (8 * i)) + nI j = nI ((8 * i) + j) from nI_add (8 * i) j]
            refine lv_iload_n hx hb dX3_put_108 rfl (lv_at hl 4 rfl) ?_
            refine va_iast (D := D) (n := 32) (f := nm) (x := v) hx hb hK hP hD hS 2 0 rfl rfl (vp_in_nI (show ((8 * i) + j) < 32 by omega) (by decide)) dX3_put_109 (fun H locs hP hD hS => ?_)
            rw [nI_clamp (show ((8 * i) + j) < 2 ^ 31 by omega)] at hP hD
            have hP : va_P D vwCl (mw cI b 0 (nI cnt) pl (upd nm ((8 * i) + j) v) od op (zi kb) kU kD kl up dn lg ++ fr) H := hP
            have hD : va_D A (mw cI b 0 (nI cnt) pl (upd nm ((8 * i) + j) v) od op (zi kb) kU kD kl up dn lg ++ fr) := hD
            refine lv_iload hx hb dX3_put_110 (lv_at hl 0 rfl) ?_
            exact W.zret (v := 0) hx hb hr rfl (fun t ht hW => ⟨⟨0, (0, (upd nm ((8 * i) + j) v)), rfl, Or.inr (Or.inr ⟨hpc, hnc, hxv, rfl, i, j, hi, hj, rfl, rfl, rfl, by simp [zi, c_10]⟩), wd_E.at hK hP hD ht hW⟩, hS.F ht⟩) hS.2.2 dX3_put_112
          · refine lv_iconst (v := 1) hx hb dX3_put_91 (by decide) ?_
            refine lv_goto (tgt := 96) hx hb dX3_put_92 (by decide) ?_
            refine lv_istore (lv' := [(4, .int 1), (0, .ref (b 0)), (1, .int (nI i)), (2, .int (nI j)), (3, .int v)]) hx hb dX3_put_96 hl (by decide) rfl (fun ls hl => ?_)
            refine lv_aload_n hx hb dX3_put_98 rfl (lv_at hl 1 rfl) ?_
            refine va_get (D := D) (ci := 3) (v := .ref (b 2)) (C := RX3) (T := TX3) (N := 13) hx hb hg inX3 hown hK hP 0 rfl rfl 3 (by decide) (hg _ fl_X3_13) (fun _ h9 => h9) rfl dX3_put_99 ?_
            refine lv_bipush (v := 8) hx hb dX3_put_102 (by decide) ?_
            refine lv_iload_n hx hb dX3_put_104 rfl (lv_at hl 2 rfl) ?_
            refine lv_imul hx hb dX3_put_105 ?_
            rw [show (8 : Int32) * nI i = nI (8 * i) from pk_mul 8 i]
            refine lv_iload_n hx hb dX3_put_106 rfl (lv_at hl 3 rfl) ?_
            refine lv_iadd hx hb dX3_put_107 ?_
            rw [show (nI (8 * i)) + nI j = nI ((8 * i) + j) from nI_add (8 * i) j]
            refine lv_iload_n hx hb dX3_put_108 rfl (lv_at hl 4 rfl) ?_
            refine va_iast (D := D) (n := 32) (f := nm) (x := v) hx hb hK hP hD hS 2 0 rfl rfl (vp_in_nI (show ((8 * i) + j) < 32 by omega) (by decide)) dX3_put_109 (fun H locs hP hD hS => ?_)
            rw [nI_clamp (show ((8 * i) + j) < 2 ^ 31 by omega)] at hP hD
            have hP : va_P D vwCl (mw cI b 0 (nI cnt) pl (upd nm ((8 * i) + j) v) od op (zi kb) kU kD kl up dn lg ++ fr) H := hP
            have hD : va_D A (mw cI b 0 (nI cnt) pl (upd nm ((8 * i) + j) v) od op (zi kb) kU kD kl up dn lg ++ fr) := hD
            refine lv_iload hx hb dX3_put_110 (lv_at hl 0 rfl) ?_
            exact W.zret (v := 1) hx hb hr rfl (fun t ht hW => ⟨⟨1, (0, (upd nm ((8 * i) + j) v)), rfl, Or.inr (Or.inr ⟨hpc, hnc, hxv, rfl, i, j, hi, hj, rfl, rfl, rfl, by simp [zi, c_10]⟩), wd_E.at hK hP hD ht hW⟩, hS.F ht⟩) hS.2.2 dX3_put_112
        · replace c_8 := zi_0 c_8
          refine lv_iconst (v := 2) hx hb dX3_put_59 (by decide) ?_
          refine lv_goto (tgt := 64) hx hb dX3_put_60 (by decide) ?_
          have hpc : x_pc k cnt = false := by rw [m_p] at c_2; simpa using c_2
          have hnc : x_nc n = false := by rw [m_n] at c_4; simpa using c_4
          have hxv : x_in v (if n = 7 then 6 else 5) = false := by rw [if_neg c_6]; exact c_8
          refine va_put (D := D) (ci := 3) (v := .int 2) (ty := .int) (C := RX3) (T := TX3) (N := 13) hx hb hg inX3 tyX3 tyX3_ok nmX3 hown hK hP hD hS 0 rfl rfl 0 (by decide) (hg _ fl_X3_28) (fun _ h9 => h9) rfl (by decide +kernel) rfl rfl (Nat.le_of_ble_eq_true rfl) dX3_put_64 (fun H locs hP hD hS => ?_)
          have hP : va_P D vwCl (mw cI b 2 (nI cnt) pl nm od op (zi kb) kU kD kl up dn lg ++ fr) H := hP
          have hD : va_D A (mw cI b 2 (nI cnt) pl nm od op (zi kb) kU kD kl up dn lg ++ fr) := hD
          refine lv_aload_n hx hb dX3_put_67 rfl (lv_at hl 0 rfl) ?_
          refine va_get (D := D) (ci := 3) (v := .int 2) (C := RX3) (T := TX3) (N := 13) hx hb hg inX3 hown hK hP 0 rfl rfl 0 (by decide) (hg _ fl_X3_28) (fun _ h9 => h9) rfl dX3_put_68 ?_
          refine lv_if_le (tgt := 76) hx hb dX3_put_71 (by decide) (fun c_11 => absurd c_11 (by decide)) (fun _ => ?_)
          refine lv_iconst (v := 0) hx hb dX3_put_74 (by decide) ?_
          exact W.zret (v := 0) hx hb hr rfl (fun t ht hW => ⟨⟨0, (2, nm), rfl, Or.inr (Or.inl ⟨hpc, Or.inr hxv, rfl, rfl⟩), wd_E.at hK hP hD ht hW⟩, hS.F ht⟩) hS.2.2 dX3_put_75
      · refine lv_bipush (v := (-6)) hx hb dX3_put_34 (by decide) ?_
        refine lv_goto (tgt := 41) hx hb dX3_put_36 (by decide) ?_
        refine lv_iload_n hx hb dX3_put_41 rfl (lv_at hl 2 rfl) ?_
        refine lv_bipush (v := 7) hx hb dX3_put_42 (by decide) ?_
        refine lv_icmp_ne (tgt := 52) hx hb dX3_put_44 (by decide) (fun h => absurd c_6 h) (fun _ => ?_)
        refine lv_bipush (v := 6) hx hb dX3_put_47 (by decide) ?_
        refine lv_goto (tgt := 53) hx hb dX3_put_49 (by decide) ?_
        refine vp_callSi (W.runS (As := [.int v, .int (-6), .int 6]) (rest := [.ref (b 0)]) ⟨hx, hb, hml, hown, hg⟩ (c_X3_in l v (-6) 6) (va_cwS 3 hg (gw_S ml_X3_35 sm_X3_in ini_X3 co_X3_in) rfl rfl rfl (by decide +kernel) ⟨Nat.le_of_ble_eq_true rfl, Nat.le_of_ble_eq_true rfl⟩) ⟨tt_blind, (fun U hU hW => ⟨rfl, trivial⟩)⟩ rfl rfl hl.1 rfl (lv_room (Nat.le_of_ble_eq_true rfl)) dX3_put_53 ⟨Nat.le_of_ble_eq_true rfl, Nat.le_of_ble_eq_true rfl⟩) (fun r_12 hr_12 => ?_)
        subst hr_12
        refine lv_if_ne (tgt := 63) hx hb dX3_put_56 (by decide) (fun c_13 => ?_) (fun c_13 => ?_)
        · replace c_13 := zi_n0 c_13
          refine lv_iconst (v := 0) hx hb dX3_put_63 (by decide) ?_
          have hpc : x_pc k cnt = false := by rw [m_p] at c_2; simpa using c_2
          have hnc : x_nc n = false := by rw [m_n] at c_4; simpa using c_4
          have hxv : x_in v (if n = 7 then 6 else 5) = true := by rw [if_pos c_6]; exact c_13
          refine va_put (D := D) (ci := 3) (v := .int 0) (ty := .int) (C := RX3) (T := TX3) (N := 13) hx hb hg inX3 tyX3 tyX3_ok nmX3 hown hK hP hD hS 0 rfl rfl 0 (by decide) (hg _ fl_X3_28) (fun _ h9 => h9) rfl (by decide +kernel) rfl rfl (Nat.le_of_ble_eq_true rfl) dX3_put_64 (fun H locs hP hD hS => ?_)
          have hP : va_P D vwCl (mw cI b 0 (nI cnt) pl nm od op (zi kb) kU kD kl up dn lg ++ fr) H := hP
          have hD : va_D A (mw cI b 0 (nI cnt) pl nm od op (zi kb) kU kD kl up dn lg ++ fr) := hD
          refine lv_aload_n hx hb dX3_put_67 rfl (lv_at hl 0 rfl) ?_
          refine va_get (D := D) (ci := 3) (v := .int 0) (C := RX3) (T := TX3) (N := 13) hx hb hg inX3 hown hK hP 0 rfl rfl 0 (by decide) (hg _ fl_X3_28) (fun _ h9 => h9) rfl dX3_put_68 ?_
          refine lv_if_le (tgt := 76) hx hb dX3_put_71 (by decide) (fun _ => ?_) (fun c_14 => absurd c_14 (by decide))
          obtain ⟨i, hi, rfl⟩ := pc_n hc hpc
          obtain ⟨j, hj, rfl⟩ := nc_n hnc
          refine lv_aload_n hx hb dX3_put_76 rfl (lv_at hl 0 rfl) ?_
          refine va_get (D := D) (ci := 3) (v := .ref (b 2)) (C := RX3) (T := TX3) (N := 13) hx hb hg inX3 hown hK hP 0 rfl rfl 3 (by decide) (hg _ fl_X3_13) (fun _ h9 => h9) rfl dX3_put_77 ?_
          refine lv_bipush (v := 8) hx hb dX3_put_80 (by decide) ?_
          refine lv_iload_n hx hb dX3_put_82 rfl (lv_at hl 1 rfl) ?_
          refine lv_imul hx hb dX3_put_83 ?_
          rw [show (8 : Int32) * nI i = nI (8 * i) from pk_mul 8 i]
          refine lv_iload_n hx hb dX3_put_84 rfl (lv_at hl 2 rfl) ?_
          refine lv_iadd hx hb dX3_put_85 ?_
          rw [show (nI (8 * i)) + nI j = nI ((8 * i) + j) from nI_add (8 * i) j]
          refine va_iald (D := D) (n := 32) (f := nm) hx hb hK hP 2 0 rfl rfl (vp_in_nI (show ((8 * i) + j) < 32 by omega) (by decide)) dX3_put_86 ?_
          rw [nI_clamp (show ((8 * i) + j) < 2 ^ 31 by omega)]
          refine lv_iload_n hx hb dX3_put_87 rfl (lv_at hl 3 rfl) ?_
          refine lv_icmp_eq (tgt := 95) hx hb dX3_put_88 (by decide) (fun c_15 => ?_) (fun c_15 => ?_)
          · refine lv_iconst (v := 0) hx hb dX3_put_95 (by decide) ?_
            refine lv_istore (lv' := [(4, .int 0), (0, .ref (b 0)), (1, .int (nI i)), (2, .int (nI j)), (3, .int v)]) hx hb dX3_put_96 hl (by decide) rfl (fun ls hl => ?_)
            refine lv_aload_n hx hb dX3_put_98 rfl (lv_at hl 1 rfl) ?_
            refine va_get (D := D) (ci := 3) (v := .ref (b 2)) (C := RX3) (T := TX3) (N := 13) hx hb hg inX3 hown hK hP 0 rfl rfl 3 (by decide) (hg _ fl_X3_13) (fun _ h9 => h9) rfl dX3_put_99 ?_
            refine lv_bipush (v := 8) hx hb dX3_put_102 (by decide) ?_
            refine lv_iload_n hx hb dX3_put_104 rfl (lv_at hl 2 rfl) ?_
            refine lv_imul hx hb dX3_put_105 ?_
            rw [show (8 : Int32) * nI i = nI (8 * i) from pk_mul 8 i]
            refine lv_iload_n hx hb dX3_put_106 rfl (lv_at hl 3 rfl) ?_
            refine lv_iadd hx hb dX3_put_107 ?_
            rw [show (nI (8 * i)) + nI j = nI ((8 * i) + j) from nI_add (8 * i) j]
            refine lv_iload_n hx hb dX3_put_108 rfl (lv_at hl 4 rfl) ?_
            refine va_iast (D := D) (n := 32) (f := nm) (x := v) hx hb hK hP hD hS 2 0 rfl rfl (vp_in_nI (show ((8 * i) + j) < 32 by omega) (by decide)) dX3_put_109 (fun H locs hP hD hS => ?_)
            rw [nI_clamp (show ((8 * i) + j) < 2 ^ 31 by omega)] at hP hD
            have hP : va_P D vwCl (mw cI b 0 (nI cnt) pl (upd nm ((8 * i) + j) v) od op (zi kb) kU kD kl up dn lg ++ fr) H := hP
            have hD : va_D A (mw cI b 0 (nI cnt) pl (upd nm ((8 * i) + j) v) od op (zi kb) kU kD kl up dn lg ++ fr) := hD
            refine lv_iload hx hb dX3_put_110 (lv_at hl 0 rfl) ?_
            exact W.zret (v := 0) hx hb hr rfl (fun t ht hW => ⟨⟨0, (0, (upd nm ((8 * i) + j) v)), rfl, Or.inr (Or.inr ⟨hpc, hnc, hxv, rfl, i, j, hi, hj, rfl, rfl, rfl, by simp [zi, c_15]⟩), wd_E.at hK hP hD ht hW⟩, hS.F ht⟩) hS.2.2 dX3_put_112
          · refine lv_iconst (v := 1) hx hb dX3_put_91 (by decide) ?_
            refine lv_goto (tgt := 96) hx hb dX3_put_92 (by decide) ?_
            refine lv_istore (lv' := [(4, .int 1), (0, .ref (b 0)), (1, .int (nI i)), (2, .int (nI j)), (3, .int v)]) hx hb dX3_put_96 hl (by decide) rfl (fun ls hl => ?_)
            refine lv_aload_n hx hb dX3_put_98 rfl (lv_at hl 1 rfl) ?_
            refine va_get (D := D) (ci := 3) (v := .ref (b 2)) (C := RX3) (T := TX3) (N := 13) hx hb hg inX3 hown hK hP 0 rfl rfl 3 (by decide) (hg _ fl_X3_13) (fun _ h9 => h9) rfl dX3_put_99 ?_
            refine lv_bipush (v := 8) hx hb dX3_put_102 (by decide) ?_
            refine lv_iload_n hx hb dX3_put_104 rfl (lv_at hl 2 rfl) ?_
            refine lv_imul hx hb dX3_put_105 ?_
            rw [show (8 : Int32) * nI i = nI (8 * i) from pk_mul 8 i]
            refine lv_iload_n hx hb dX3_put_106 rfl (lv_at hl 3 rfl) ?_
            refine lv_iadd hx hb dX3_put_107 ?_
            rw [show (nI (8 * i)) + nI j = nI ((8 * i) + j) from nI_add (8 * i) j]
            refine lv_iload_n hx hb dX3_put_108 rfl (lv_at hl 4 rfl) ?_
            refine va_iast (D := D) (n := 32) (f := nm) (x := v) hx hb hK hP hD hS 2 0 rfl rfl (vp_in_nI (show ((8 * i) + j) < 32 by omega) (by decide)) dX3_put_109 (fun H locs hP hD hS => ?_)
            rw [nI_clamp (show ((8 * i) + j) < 2 ^ 31 by omega)] at hP hD
            have hP : va_P D vwCl (mw cI b 0 (nI cnt) pl (upd nm ((8 * i) + j) v) od op (zi kb) kU kD kl up dn lg ++ fr) H := hP
            have hD : va_D A (mw cI b 0 (nI cnt) pl (upd nm ((8 * i) + j) v) od op (zi kb) kU kD kl up dn lg ++ fr) := hD
            refine lv_iload hx hb dX3_put_110 (lv_at hl 0 rfl) ?_
            exact W.zret (v := 1) hx hb hr rfl (fun t ht hW => ⟨⟨1, (0, (upd nm ((8 * i) + j) v)), rfl, Or.inr (Or.inr ⟨hpc, hnc, hxv, rfl, i, j, hi, hj, rfl, rfl, rfl, by simp [zi, c_15]⟩), wd_E.at hK hP hD ht hW⟩, hS.F ht⟩) hS.2.2 dX3_put_112
        · replace c_13 := zi_0 c_13
          refine lv_iconst (v := 2) hx hb dX3_put_59 (by decide) ?_
          refine lv_goto (tgt := 64) hx hb dX3_put_60 (by decide) ?_
          have hpc : x_pc k cnt = false := by rw [m_p] at c_2; simpa using c_2
          have hnc : x_nc n = false := by rw [m_n] at c_4; simpa using c_4
          have hxv : x_in v (if n = 7 then 6 else 5) = false := by rw [if_pos c_6]; exact c_13
          refine va_put (D := D) (ci := 3) (v := .int 2) (ty := .int) (C := RX3) (T := TX3) (N := 13) hx hb hg inX3 tyX3 tyX3_ok nmX3 hown hK hP hD hS 0 rfl rfl 0 (by decide) (hg _ fl_X3_28) (fun _ h9 => h9) rfl (by decide +kernel) rfl rfl (Nat.le_of_ble_eq_true rfl) dX3_put_64 (fun H locs hP hD hS => ?_)
          have hP : va_P D vwCl (mw cI b 2 (nI cnt) pl nm od op (zi kb) kU kD kl up dn lg ++ fr) H := hP
          have hD : va_D A (mw cI b 2 (nI cnt) pl nm od op (zi kb) kU kD kl up dn lg ++ fr) := hD
          refine lv_aload_n hx hb dX3_put_67 rfl (lv_at hl 0 rfl) ?_
          refine va_get (D := D) (ci := 3) (v := .int 2) (C := RX3) (T := TX3) (N := 13) hx hb hg inX3 hown hK hP 0 rfl rfl 0 (by decide) (hg _ fl_X3_28) (fun _ h9 => h9) rfl dX3_put_68 ?_
          refine lv_if_le (tgt := 76) hx hb dX3_put_71 (by decide) (fun c_16 => absurd c_16 (by decide)) (fun _ => ?_)
          refine lv_iconst (v := 0) hx hb dX3_put_74 (by decide) ?_
          exact W.zret (v := 0) hx hb hr rfl (fun t ht hW => ⟨⟨0, (2, nm), rfl, Or.inr (Or.inl ⟨hpc, Or.inr hxv, rfl, rfl⟩), wd_E.at hK hP hD ht hW⟩, hS.F ht⟩) hS.2.2 dX3_put_75
  · replace c_2 := zi_0 c_2
    refine lv_iconst (v := 1) hx hb dX3_put_13 (by decide) ?_
    refine lv_goto (tgt := 64) hx hb dX3_put_14 (by decide) ?_
    have hpc : x_pc k cnt = true := by rw [m_p] at c_2; simpa using c_2
    refine va_put (D := D) (ci := 3) (v := .int 1) (ty := .int) (C := RX3) (T := TX3) (N := 13) hx hb hg inX3 tyX3 tyX3_ok nmX3 hown hK hP hD hS 0 rfl rfl 0 (by decide) (hg _ fl_X3_28) (fun _ h9 => h9) rfl (by decide +kernel) rfl rfl (Nat.le_of_ble_eq_true rfl) dX3_put_64 (fun H locs hP hD hS => ?_)
    have hP : va_P D vwCl (mw cI b 1 (nI cnt) pl nm od op (zi kb) kU kD kl up dn lg ++ fr) H := hP
    have hD : va_D A (mw cI b 1 (nI cnt) pl nm od op (zi kb) kU kD kl up dn lg ++ fr) := hD
    refine lv_aload_n hx hb dX3_put_67 rfl (lv_at hl 0 rfl) ?_
    refine va_get (D := D) (ci := 3) (v := .int 1) (C := RX3) (T := TX3) (N := 13) hx hb hg inX3 hown hK hP 0 rfl rfl 0 (by decide) (hg _ fl_X3_28) (fun _ h9 => h9) rfl dX3_put_68 ?_
    refine lv_if_le (tgt := 76) hx hb dX3_put_71 (by decide) (fun c_17 => absurd c_17 (by decide)) (fun _ => ?_)
    refine lv_iconst (v := 0) hx hb dX3_put_74 (by decide) ?_
    exact W.zret (v := 0) hx hb hr rfl (fun t ht hW => ⟨⟨0, (1, nm), rfl, Or.inl ⟨hpc, rfl, rfl⟩, wd_E.at hK hP hD ht hW⟩, hS.F ht⟩) hS.2.2 dX3_put_75
set_option maxHeartbeats 4000000 in
set_option maxRecDepth 100000 in
theorem c_X3_clear (l : Launch) (A : Nat → Prop) (D : va_G) (cI cL cQ : ClassId) (fr : va_W) (b : Nat → Nat) (cod : Int32) (cnt : Nat) (hc : cnt ≤ 3) (pl nm od op : Nat → Int32) (kb : Bool) (kU kD : Int64) (kl : Nat → Int32) (up dn : Int64) (lg : Nat → Int32) : Met l yX3_clear wsX3_clear { frames := 0, cells := 0, slots := 0, locals := 0 } (va_Pc [.ref (b 0)] (wd_B D (ty3 cI cL cQ) A (mw cI b cod (nI cnt) pl nm od op (zi kb) kU kD kl up dn lg ++ fr))) (va_Qv (fun (u : Unit) => True) (fun u t => wd_E D (ty3 cI cL cQ) A (mw cI b 0 0 pl (fun _ => 0) od op 0 kU kD kl up dn lg ++ fr) t) A) 0 0 A := by
  refine Met.ofW (cc := cX3_clear) (maxL := 2) (ret := none) (by decide) rfl ?_
  intro p e s m args below meth c s₁ B hml hv
  obtain ⟨rfl, hG, hK, hP, hD, hA⟩ := hv
  have hx := B.exec
  have hb := B.bytes
  have hr := B.returns
  have hts := atoms_spec (ws := wsX3_clear) B.pre
  have hg : ∀ w ∈ gw, w.before ([.ref (b 0)] : List Value).toArray s = true := fun w h => hts w (List.mem_cons_of_mem _ h)
  have hown : s.vm.findClass RX3 = some m.cls := findClass_of_methodNamed B.named
  have hlocks := B.notSynchronized
  have hS : va_S A s.heap s.heap [] := va_S.rf
  have hl := lv_entry ([.ref (b 0)]) (n := 2) (Nat.le_of_ble_eq_true rfl)
  rw [lg_entry_eq]
  generalize (lg_sl ([.ref (b 0)]) ++ List.replicate (2 - (lg_sl ([.ref (b 0)])).length) Slot.unset).toArray = ls at hl ⊢
  have hl : lv_has ls 2 [(0, .ref (b 0))] := hl
  refine lv_aload_n hx hb dX3_clear_0 rfl (lv_at hl 0 rfl) ?_
  refine lv_iconst (v := 0) hx hb dX3_clear_1 (by decide) ?_
  refine va_put (D := D) (ci := 3) (v := .int 0) (ty := .int) (C := RX3) (T := TX3) (N := 13) hx hb hg inX3 tyX3 tyX3_ok nmX3 hown hK hP hD hS 0 rfl rfl 0 (by decide) (hg _ fl_X3_28) (fun _ h9 => h9) rfl (by decide +kernel) rfl rfl (Nat.le_of_ble_eq_true rfl) dX3_clear_2 (fun H locs hP hD hS => ?_)
  have hP : va_P D vwCl (mw cI b 0 (nI cnt) pl nm od op (zi kb) kU kD kl up dn lg ++ fr) H := hP
  have hD : va_D A (mw cI b 0 (nI cnt) pl nm od op (zi kb) kU kD kl up dn lg ++ fr) := hD
  refine lv_aload_n hx hb dX3_clear_5 rfl (lv_at hl 0 rfl) ?_
  refine lv_iconst (v := 0) hx hb dX3_clear_6 (by decide) ?_
  refine va_put (D := D) (ci := 3) (v := .int 0) (ty := .int) (C := RX3) (T := TX3) (N := 13) hx hb hg inX3 tyX3 tyX3_ok nmX3 hown hK hP hD hS 0 rfl rfl 1 (by decide) (hg _ fl_X3_32) (fun _ h9 => h9) rfl (by decide +kernel) rfl rfl (Nat.le_of_ble_eq_true rfl) dX3_clear_7 (fun H locs hP hD hS => ?_)
  have hP : va_P D vwCl (mw cI b 0 0 pl nm od op (zi kb) kU kD kl up dn lg ++ fr) H := hP
  have hD : va_D A (mw cI b 0 0 pl nm od op (zi kb) kU kD kl up dn lg ++ fr) := hD
  refine lv_aload_n hx hb dX3_clear_10 rfl (lv_at hl 0 rfl) ?_
  refine lv_iconst (v := 0) hx hb dX3_clear_11 (by decide) ?_
  refine va_put (D := D) (ci := 3) (v := .int 0) (ty := .boolean) (C := RX3) (T := TX3) (N := 13) hx hb hg inX3 tyX3 tyX3_ok nmX3 hown hK hP hD hS 0 rfl rfl 6 (by decide) (hg _ fl_X3_43) (fun _ h9 => h9) rfl (by decide +kernel) rfl rfl (Nat.le_of_ble_eq_true rfl) dX3_clear_12 (fun H locs hP hD hS => ?_)
  have hP : va_P D vwCl (mw cI b 0 0 pl nm od op 0 kU kD kl up dn lg ++ fr) H := hP
  have hD : va_D A (mw cI b 0 0 pl nm od op 0 kU kD kl up dn lg ++ fr) := hD
  refine lv_iconst (v := 0) hx hb dX3_clear_15 (by decide) ?_
  refine lv_istore_n (lv' := [(1, .int 0), (0, .ref (b 0))]) hx hb dX3_clear_16 rfl hl (by decide) rfl (fun ls hl => ?_)
  have L17 : ∀ (n9 : Nat) (i : Nat) (g : Nat → Int32) (H : Heap) (locs : List Loc), (i ≤ 32) → (∀ j, j < i → g j = 0) → va_P D vwCl (mw cI b 0 0 pl g od op 0 kU kD kl up dn lg ++ fr) H → va_D A (mw cI b 0 0 pl g od op 0 kU kD kl up dn lg ++ fr) → va_S A s.heap H locs → (32 - i < n9) → ∀ (ls : Array Slot), lv_has ls 2 [(1, .int (nI i)), (0, .ref (b 0))] → W p l e (headSpec wsX3_clear { frames := 0, cells := 0, slots := 0, locals := 0 }).room s m ([.ref (b 0)] : List Value).toArray below meth c H locs 0 0 (MQ below (va_Qv (fun (u : Unit) => True) (fun u t => wd_E D (ty3 cI cL cQ) A (mw cI b 0 0 pl (fun _ => 0) od op 0 kU kD kl up dn lg ++ fr) t) A) ([.ref (b 0)] : List Value).toArray s 0 0 A) (F0 m 17 ls []) := by
    clear hP hD hS
    intro n17
    induction n17 with
    | zero => intro i g H locs hi hgv hP hD hS h9; exact absurd h9 (by omega)
    | succ n17 ih17 =>
      intro i g H locs hi hgv hP hD hS h9 ls hl
      refine lv_iload_n hx hb dX3_clear_17 rfl (lv_at hl 0 rfl) ?_
      refine lv_bipush (v := 32) hx hb dX3_clear_18 (by decide) ?_
      refine lv_icmp_ge (tgt := 36) hx hb dX3_clear_20 (by decide) (fun c_1 => ?_) (fun c_1 => ?_)
      · replace c_1 : 32 ≤ i := (nI_leI (a := 32) (b := i) (by omega) (by omega)).mp c_1
        have hP := hP.cg (p := 2) (g := fun _ => 0) rfl (fun j hj => hgv j (by omega))
        have hD := hD.set (p := 2) (e := .inl (cI, 32, .inl (fun _ => 0))) rfl
        exact W.vret hx hb hr (fun t ht hW => ⟨⟨(), rfl, trivial, wd_E.at hK hP hD ht hW⟩, hS.F ht⟩) hS.2.2 dX3_clear_36
      · replace c_1 : ¬ 32 ≤ i := fun h => c_1 ((nI_leI (a := 32) (b := i) (by omega) (by omega)).mpr h)
        refine lv_aload_n hx hb dX3_clear_23 rfl (lv_at hl 1 rfl) ?_
        refine va_get (D := D) (ci := 3) (v := .ref (b 2)) (C := RX3) (T := TX3) (N := 13) hx hb hg inX3 hown hK hP 0 rfl rfl 3 (by decide) (hg _ fl_X3_13) (fun _ h9 => h9) rfl dX3_clear_24 ?_
        refine lv_iload_n hx hb dX3_clear_27 rfl (lv_at hl 0 rfl) ?_
        refine lv_iconst (v := 0) hx hb dX3_clear_28 (by decide) ?_
        refine va_iast (D := D) (n := 32) (f := g) (x := 0) hx hb hK hP hD hS 2 0 rfl rfl (vp_in_nI (show i < 32 by omega) (by decide)) dX3_clear_29 (fun H locs hP hD hS => ?_)
        rw [nI_clamp (show i < 2 ^ 31 by omega)] at hP hD
        have hP : va_P D vwCl (mw cI b 0 0 pl (upd g i 0) od op 0 kU kD kl up dn lg ++ fr) H := hP
        have hD : va_D A (mw cI b 0 0 pl (upd g i 0) od op 0 kU kD kl up dn lg ++ fr) := hD
        refine lv_iinc (v := nI (i + 1)) (lv' := [(1, .int (nI (i + 1))), (0, .ref (b 0))]) hx hb dX3_clear_30 hl (k := 0) rfl (nI_1 i) (by decide) rfl (fun ls hl => ?_)
        refine lv_goto (tgt := 17) hx hb dX3_clear_33 (by decide) ?_
        exact ih17 (i + 1) (upd g i 0) _ _ (by omega) (fun j hj => by unfold upd; split; rfl; exact hgv j (by omega)) hP hD hS (by omega) ls (lv_sub hl [0, 1] rfl)
  exact L17 (32 + 1) 0 nm _ _ (Nat.zero_le _) (fun j hj => absurd hj (Nat.not_lt_zero j)) hP hD hS (Nat.lt_succ_self _) ls (lv_sub hl [0, 1] rfl)
set_option maxHeartbeats 4000000 in
set_option maxRecDepth 100000 in
theorem c_X3_start (l : Launch) (A : Nat → Prop) (D : va_G) (cI cL cQ : ClassId) (fr : va_W) (b : Nat → Nat) (cod : Int32) (cnt : Nat) (hc : cnt ≤ 3) (pl nm od op : Nat → Int32) (kb : Bool) (kU kD : Int64) (kl : Nat → Int32) (up dn : Int64) (lg : Nat → Int32) : Met l yX3_start wsX3_start { frames := 0, cells := 0, slots := 0, locals := 0 } (va_Pc [.ref (b 0)] (wd_B D (ty3 cI cL cQ) A (mw cI b cod (nI cnt) pl nm od op (zi kb) kU kD kl up dn lg ++ fr))) (va_Qv (fun (u : Unit) => True) (fun u t => wd_E D (ty3 cI cL cQ) A (mw cI b cod (nI cnt) pl nm od op (zi kb) kU kD kl 0 1 (fun _ => 0) ++ fr) t) A) 0 0 A := by
  refine Met.ofW (cc := cX3_start) (maxL := 2) (ret := none) (by decide) rfl ?_
  intro p e s m args below meth c s₁ B hml hv
  obtain ⟨rfl, hG, hK, hP, hD, hA⟩ := hv
  have hx := B.exec
  have hb := B.bytes
  have hr := B.returns
  have hts := atoms_spec (ws := wsX3_start) B.pre
  have hg : ∀ w ∈ gw, w.before ([.ref (b 0)] : List Value).toArray s = true := fun w h => hts w (List.mem_cons_of_mem _ h)
  have hown : s.vm.findClass RX3 = some m.cls := findClass_of_methodNamed B.named
  have hlocks := B.notSynchronized
  have hS : va_S A s.heap s.heap [] := va_S.rf
  have hl := lv_entry ([.ref (b 0)]) (n := 2) (Nat.le_of_ble_eq_true rfl)
  rw [lg_entry_eq]
  generalize (lg_sl ([.ref (b 0)]) ++ List.replicate (2 - (lg_sl ([.ref (b 0)])).length) Slot.unset).toArray = ls at hl ⊢
  have hl : lv_has ls 2 [(0, .ref (b 0))] := hl
  refine lv_aload_n hx hb dX3_start_0 rfl (lv_at hl 0 rfl) ?_
  refine lv_lconst (v := 0) hx hb dX3_start_1 (by decide) ?_
  refine va_put (D := D) (ci := 3) (v := .long 0) (ty := .long) (C := RX3) (T := TX3) (N := 13) hx hb hg inX3 tyX3 tyX3_ok nmX3 hown hK hP hD hS 0 rfl rfl 10 (by decide) (hg _ fl_X3_47) (fun _ h9 => h9) rfl (by decide +kernel) rfl rfl (Nat.le_of_ble_eq_true rfl) dX3_start_2 (fun H locs hP hD hS => ?_)
  have hP : va_P D vwCl (mw cI b cod (nI cnt) pl nm od op (zi kb) kU kD kl 0 dn lg ++ fr) H := hP
  have hD : va_D A (mw cI b cod (nI cnt) pl nm od op (zi kb) kU kD kl 0 dn lg ++ fr) := hD
  refine lv_aload_n hx hb dX3_start_5 rfl (lv_at hl 0 rfl) ?_
  refine lv_lconst (v := 1) hx hb dX3_start_6 (by decide) ?_
  refine va_put (D := D) (ci := 3) (v := .long 1) (ty := .long) (C := RX3) (T := TX3) (N := 13) hx hb hg inX3 tyX3 tyX3_ok nmX3 hown hK hP hD hS 0 rfl rfl 11 (by decide) (hg _ fl_X3_51) (fun _ h9 => h9) rfl (by decide +kernel) rfl rfl (Nat.le_of_ble_eq_true rfl) dX3_start_7 (fun H locs hP hD hS => ?_)
  have hP : va_P D vwCl (mw cI b cod (nI cnt) pl nm od op (zi kb) kU kD kl 0 1 lg ++ fr) H := hP
  have hD : va_D A (mw cI b cod (nI cnt) pl nm od op (zi kb) kU kD kl 0 1 lg ++ fr) := hD
  refine lv_iconst (v := 0) hx hb dX3_start_10 (by decide) ?_
  refine lv_istore_n (lv' := [(1, .int 0), (0, .ref (b 0))]) hx hb dX3_start_11 rfl hl (by decide) rfl (fun ls hl => ?_)
  have L12 : ∀ (n9 : Nat) (i : Nat) (g : Nat → Int32) (H : Heap) (locs : List Loc), (i ≤ 5) → (∀ j, j < i → g j = 0) → va_P D vwCl (mw cI b cod (nI cnt) pl nm od op (zi kb) kU kD kl 0 1 g ++ fr) H → va_D A (mw cI b cod (nI cnt) pl nm od op (zi kb) kU kD kl 0 1 g ++ fr) → va_S A s.heap H locs → (5 - i < n9) → ∀ (ls : Array Slot), lv_has ls 2 [(1, .int (nI i)), (0, .ref (b 0))] → W p l e (headSpec wsX3_start { frames := 0, cells := 0, slots := 0, locals := 0 }).room s m ([.ref (b 0)] : List Value).toArray below meth c H locs 0 0 (MQ below (va_Qv (fun (u : Unit) => True) (fun u t => wd_E D (ty3 cI cL cQ) A (mw cI b cod (nI cnt) pl nm od op (zi kb) kU kD kl 0 1 (fun _ => 0) ++ fr) t) A) ([.ref (b 0)] : List Value).toArray s 0 0 A) (F0 m 12 ls []) := by
    clear hP hD hS
    intro n12
    induction n12 with
    | zero => intro i g H locs hi hgv hP hD hS h9; exact absurd h9 (by omega)
    | succ n12 ih12 =>
      intro i g H locs hi hgv hP hD hS h9 ls hl
      refine lv_iload_n hx hb dX3_start_12 rfl (lv_at hl 0 rfl) ?_
      refine lv_iconst (v := 5) hx hb dX3_start_13 (by decide) ?_
      refine lv_icmp_ge (tgt := 30) hx hb dX3_start_14 (by decide) (fun c_1 => ?_) (fun c_1 => ?_)
      · replace c_1 : 5 ≤ i := (nI_leI (a := 5) (b := i) (by omega) (by omega)).mp c_1
        have hP := hP.cg (p := 6) (g := fun _ => 0) rfl (fun j hj => hgv j (by omega))
        have hD := hD.set (p := 6) (e := .inl (cI, 5, .inl (fun _ => 0))) rfl
        exact W.vret hx hb hr (fun t ht hW => ⟨⟨(), rfl, trivial, wd_E.at hK hP hD ht hW⟩, hS.F ht⟩) hS.2.2 dX3_start_30
      · replace c_1 : ¬ 5 ≤ i := fun h => c_1 ((nI_leI (a := 5) (b := i) (by omega) (by omega)).mpr h)
        refine lv_aload_n hx hb dX3_start_17 rfl (lv_at hl 1 rfl) ?_
        refine va_get (D := D) (ci := 3) (v := .ref (b 6)) (C := RX3) (T := TX3) (N := 13) hx hb hg inX3 hown hK hP 0 rfl rfl 12 (by decide) (hg _ fl_X3_25) (fun _ h9 => h9) rfl dX3_start_18 ?_
        refine lv_iload_n hx hb dX3_start_21 rfl (lv_at hl 0 rfl) ?_
        refine lv_iconst (v := 0) hx hb dX3_start_22 (by decide) ?_
        refine va_iast (D := D) (n := 5) (f := g) (x := 0) hx hb hK hP hD hS 6 0 rfl rfl (vp_in_nI (show i < 5 by omega) (by decide)) dX3_start_23 (fun H locs hP hD hS => ?_)
        rw [nI_clamp (show i < 2 ^ 31 by omega)] at hP hD
        have hP : va_P D vwCl (mw cI b cod (nI cnt) pl nm od op (zi kb) kU kD kl 0 1 (upd g i 0) ++ fr) H := hP
        have hD : va_D A (mw cI b cod (nI cnt) pl nm od op (zi kb) kU kD kl 0 1 (upd g i 0) ++ fr) := hD
        refine lv_iinc (v := nI (i + 1)) (lv' := [(1, .int (nI (i + 1))), (0, .ref (b 0))]) hx hb dX3_start_24 hl (k := 0) rfl (nI_1 i) (by decide) rfl (fun ls hl => ?_)
        refine lv_goto (tgt := 12) hx hb dX3_start_27 (by decide) ?_
        exact ih12 (i + 1) (upd g i 0) _ _ (by omega) (fun j hj => by unfold upd; split; rfl; exact hgv j (by omega)) hP hD hS (by omega) ls (lv_sub hl [0, 1] rfl)
  exact L12 (5 + 1) 0 lg _ _ (Nat.zero_le _) (fun j hj => absurd hj (Nat.not_lt_zero j)) hP hD hS (Nat.lt_succ_self _) ls (lv_sub hl [0, 1] rfl)
theorem m_1 {k : Int32} : m_in k 0 1 = x_part k := by
  have h0 : (0 : Int32).toInt = 0 := rfl
  have h1 : (1 : Int32).toInt = 1 := rfl
  rw [Bool.eq_iff_iff]
  simp only [m_in, x_part, Bool.and_eq_true, Bool.or_eq_true, Bool.not_eq_true', decide_eq_false_iff_not, decide_eq_true_eq, Int32.lt_iff_toInt_lt, ← Int32.toInt_inj, h0, h1]
  omega
set_option maxHeartbeats 4000000 in
set_option maxRecDepth 100000 in
theorem c_X3_fraction (l : Launch) (A : Nat → Prop) (D : va_G) (cI cL cQ : ClassId) (fr : va_W) (b : Nat → Nat) (cod : Int32) (cnt : Nat) (hc : cnt ≤ 3) (pl nm od op : Nat → Int32) (kb : Bool) (kU kD : Int64) (kl : Nat → Int32) (up dn : Int64) (lg : Nat → Int32) (k : Int32) : Met l yX3_fraction wsX3_fraction { frames := 1, cells := 0, slots := 0, locals := 22 } (va_Pc [.ref (b 0), .int k] (wd_B D (ty3 cI cL cQ) A (mw cI b cod (nI cnt) pl nm od op (zi kb) kU kD kl up dn lg ++ fr))) (va_Ql (fun r (u : Int32) => (kb = false ∧ u = 1) ∨ (kb = true ∧ x_part k = false ∧ u = 2) ∨ (kb = true ∧ x_part k = true ∧ u = 0 ∧ r = if k = 0 then kU else kD)) (fun u t => wd_E D (ty3 cI cL cQ) A (mw cI b u (nI cnt) pl nm od op (zi kb) kU kD kl up dn lg ++ fr) t) A) 0 0 A := by
  refine Met.ofW (cc := cX3_fraction) (maxL := 2) (ret := (some .long)) (by decide) rfl ?_
  intro p e s m args below meth c s₁ B hml hv
  obtain ⟨rfl, hG, hK, hP, hD, hA⟩ := hv
  have hx := B.exec
  have hb := B.bytes
  have hr := B.returns
  have hts := atoms_spec (ws := wsX3_fraction) B.pre
  have hg : ∀ w ∈ gw, w.before ([.ref (b 0), .int k] : List Value).toArray s = true := fun w h => hts w (List.mem_cons_of_mem _ h)
  have hown : s.vm.findClass RX3 = some m.cls := findClass_of_methodNamed B.named
  have hlocks := B.notSynchronized
  have hS : va_S A s.heap s.heap [] := va_S.rf
  have hl := lv_entry ([.ref (b 0), .int k]) (n := 2) (Nat.le_of_ble_eq_true rfl)
  rw [lg_entry_eq]
  generalize (lg_sl ([.ref (b 0), .int k]) ++ List.replicate (2 - (lg_sl ([.ref (b 0), .int k])).length) Slot.unset).toArray = ls at hl ⊢
  have hl : lv_has ls 2 [(0, .ref (b 0)), (1, .int k)] := hl
  refine lv_aload_n hx hb dX3_fraction_0 rfl (lv_at hl 0 rfl) ?_
  refine lv_aload_n hx hb dX3_fraction_1 rfl (lv_at hl 0 rfl) ?_
  refine va_get (D := D) (ci := 3) (v := .int (zi kb)) (C := RX3) (T := TX3) (N := 13) hx hb hg inX3 hown hK hP 0 rfl rfl 6 (by decide) (hg _ fl_X3_43) (fun _ h9 => h9) rfl dX3_fraction_2 ?_
  refine lv_if_ne (tgt := 12) hx hb dX3_fraction_5 (by decide) (fun c_1 => ?_) (fun c_1 => ?_)
  · replace c_1 := zi_n0 c_1
    refine lv_iload_n hx hb dX3_fraction_12 rfl (lv_at hl 1 rfl) ?_
    refine lv_iconst (v := 0) hx hb dX3_fraction_13 (by decide) ?_
    refine lv_iconst (v := 1) hx hb dX3_fraction_14 (by decide) ?_
    refine vp_callSi (W.runS (As := [.int k, .int 0, .int 1]) (rest := [.ref (b 0)]) ⟨hx, hb, hml, hown, hg⟩ (c_X3_in l k 0 1) (va_cwS 3 hg (gw_S ml_X3_35 sm_X3_in ini_X3 co_X3_in) rfl rfl rfl (by decide +kernel) ⟨Nat.le_of_ble_eq_true rfl, Nat.le_of_ble_eq_true rfl⟩) ⟨tt_blind, (fun U hU hW => ⟨rfl, trivial⟩)⟩ rfl rfl hl.1 rfl (lv_room (Nat.le_of_ble_eq_true rfl)) dX3_fraction_15 ⟨Nat.le_of_ble_eq_true rfl, Nat.le_of_ble_eq_true rfl⟩) (fun r_2 hr_2 => ?_)
    subst hr_2
    refine lv_if_eq (tgt := 25) hx hb dX3_fraction_18 (by decide) (fun c_3 => ?_) (fun c_3 => ?_)
    · replace c_3 := zi_0 c_3
      refine lv_iconst (v := 2) hx hb dX3_fraction_25 (by decide) ?_
      refine va_put (D := D) (ci := 3) (v := .int 2) (ty := .int) (C := RX3) (T := TX3) (N := 13) hx hb hg inX3 tyX3 tyX3_ok nmX3 hown hK hP hD hS 0 rfl rfl 0 (by decide) (hg _ fl_X3_28) (fun _ h9 => h9) rfl (by decide +kernel) rfl rfl (Nat.le_of_ble_eq_true rfl) dX3_fraction_26 (fun H locs hP hD hS => ?_)
      have hP : va_P D vwCl (mw cI b 2 (nI cnt) pl nm od op (zi kb) kU kD kl up dn lg ++ fr) H := hP
      have hD : va_D A (mw cI b 2 (nI cnt) pl nm od op (zi kb) kU kD kl up dn lg ++ fr) := hD
      refine lv_aload_n hx hb dX3_fraction_29 rfl (lv_at hl 0 rfl) ?_
      refine va_get (D := D) (ci := 3) (v := .int 2) (C := RX3) (T := TX3) (N := 13) hx hb hg inX3 hown hK hP 0 rfl rfl 0 (by decide) (hg _ fl_X3_28) (fun _ h9 => h9) rfl dX3_fraction_30 ?_
      refine lv_if_le (tgt := 40) hx hb dX3_fraction_33 (by decide) (fun c_4 => absurd c_4 (by decide)) (fun _ => ?_)
      refine lv_lconst (v := 0) hx hb dX3_fraction_36 (by decide) ?_
      refine lv_goto (tgt := 55) hx hb dX3_fraction_37 (by decide) ?_
      exact W.lret (v := 0) hx hb hr (fun t ht hW => ⟨⟨0, 2, rfl, Or.inr (Or.inl ⟨c_1, by rw [← m_1]; exact c_3, rfl⟩), wd_E.at hK hP hD ht hW⟩, hS.F ht⟩) hS.2.2 dX3_fraction_55
    · replace c_3 := zi_n0 c_3
      refine lv_iconst (v := 0) hx hb dX3_fraction_21 (by decide) ?_
      refine lv_goto (tgt := 26) hx hb dX3_fraction_22 (by decide) ?_
      refine va_put (D := D) (ci := 3) (v := .int 0) (ty := .int) (C := RX3) (T := TX3) (N := 13) hx hb hg inX3 tyX3 tyX3_ok nmX3 hown hK hP hD hS 0 rfl rfl 0 (by decide) (hg _ fl_X3_28) (fun _ h9 => h9) rfl (by decide +kernel) rfl rfl (Nat.le_of_ble_eq_true rfl) dX3_fraction_26 (fun H locs hP hD hS => ?_)
      have hP : va_P D vwCl (mw cI b 0 (nI cnt) pl nm od op (zi kb) kU kD kl up dn lg ++ fr) H := hP
      have hD : va_D A (mw cI b 0 (nI cnt) pl nm od op (zi kb) kU kD kl up dn lg ++ fr) := hD
      refine lv_aload_n hx hb dX3_fraction_29 rfl (lv_at hl 0 rfl) ?_
      refine va_get (D := D) (ci := 3) (v := .int 0) (C := RX3) (T := TX3) (N := 13) hx hb hg inX3 hown hK hP 0 rfl rfl 0 (by decide) (hg _ fl_X3_28) (fun _ h9 => h9) rfl dX3_fraction_30 ?_
      refine lv_if_le (tgt := 40) hx hb dX3_fraction_33 (by decide) (fun _ => ?_) (fun c_5 => absurd c_5 (by decide))
      refine lv_iload_n hx hb dX3_fraction_40 rfl (lv_at hl 1 rfl) ?_
      refine lv_if_ne (tgt := 51) hx hb dX3_fraction_41 (by decide) (fun c_6 => ?_) (fun c_6 => ?_)
      · refine lv_aload_n hx hb dX3_fraction_51 rfl (lv_at hl 0 rfl) ?_
        refine va_get (D := D) (ci := 3) (v := .long kD) (C := RX3) (T := TX3) (N := 13) hx hb hg inX3 hown hK hP 0 rfl rfl 8 (by decide) (hg _ fl_X3_88) (fun _ h9 => h9) rfl dX3_fraction_52 ?_
        exact W.lret (v := kD) hx hb hr (fun t ht hW => ⟨⟨kD, 0, rfl, Or.inr (Or.inr ⟨c_1, by rw [← m_1]; exact c_3, rfl, by rw [if_neg c_6]⟩), wd_E.at hK hP hD ht hW⟩, hS.F ht⟩) hS.2.2 dX3_fraction_55
      · refine lv_aload_n hx hb dX3_fraction_44 rfl (lv_at hl 0 rfl) ?_
        refine va_get (D := D) (ci := 3) (v := .long kU) (C := RX3) (T := TX3) (N := 13) hx hb hg inX3 hown hK hP 0 rfl rfl 7 (by decide) (hg _ fl_X3_85) (fun _ h9 => h9) rfl dX3_fraction_45 ?_
        refine lv_goto (tgt := 55) hx hb dX3_fraction_48 (by decide) ?_
        exact W.lret (v := kU) hx hb hr (fun t ht hW => ⟨⟨kU, 0, rfl, Or.inr (Or.inr ⟨c_1, by rw [← m_1]; exact c_3, rfl, by rw [if_pos c_6]⟩), wd_E.at hK hP hD ht hW⟩, hS.F ht⟩) hS.2.2 dX3_fraction_55
  · replace c_1 := zi_0 c_1
    refine lv_iconst (v := 1) hx hb dX3_fraction_8 (by decide) ?_
    refine lv_goto (tgt := 26) hx hb dX3_fraction_9 (by decide) ?_
    refine va_put (D := D) (ci := 3) (v := .int 1) (ty := .int) (C := RX3) (T := TX3) (N := 13) hx hb hg inX3 tyX3 tyX3_ok nmX3 hown hK hP hD hS 0 rfl rfl 0 (by decide) (hg _ fl_X3_28) (fun _ h9 => h9) rfl (by decide +kernel) rfl rfl (Nat.le_of_ble_eq_true rfl) dX3_fraction_26 (fun H locs hP hD hS => ?_)
    have hP : va_P D vwCl (mw cI b 1 (nI cnt) pl nm od op (zi kb) kU kD kl up dn lg ++ fr) H := hP
    have hD : va_D A (mw cI b 1 (nI cnt) pl nm od op (zi kb) kU kD kl up dn lg ++ fr) := hD
    refine lv_aload_n hx hb dX3_fraction_29 rfl (lv_at hl 0 rfl) ?_
    refine va_get (D := D) (ci := 3) (v := .int 1) (C := RX3) (T := TX3) (N := 13) hx hb hg inX3 hown hK hP 0 rfl rfl 0 (by decide) (hg _ fl_X3_28) (fun _ h9 => h9) rfl dX3_fraction_30 ?_
    refine lv_if_le (tgt := 40) hx hb dX3_fraction_33 (by decide) (fun c_7 => absurd c_7 (by decide)) (fun _ => ?_)
    refine lv_lconst (v := 0) hx hb dX3_fraction_36 (by decide) ?_
    refine lv_goto (tgt := 55) hx hb dX3_fraction_37 (by decide) ?_
    exact W.lret (v := 0) hx hb hr (fun t ht hW => ⟨⟨0, 1, rfl, Or.inl ⟨c_1, rfl⟩, wd_E.at hK hP hD ht hW⟩, hS.F ht⟩) hS.2.2 dX3_fraction_55
set_option maxHeartbeats 4000000 in
set_option maxRecDepth 100000 in
theorem c_X3_logarithm (l : Launch) (A : Nat → Prop) (D : va_G) (cI cL cQ : ClassId) (fr : va_W) (b : Nat → Nat) (cod : Int32) (cnt : Nat) (hc : cnt ≤ 3) (pl nm od op : Nat → Int32) (kb : Bool) (kU kD : Int64) (kl : Nat → Int32) (up dn : Int64) (lg : Nat → Int32) (k : Int32) : Met l yX3_logarithm wsX3_logarithm { frames := 1, cells := 0, slots := 0, locals := 21 } (va_Pc [.ref (b 0), .int k] (wd_B D (ty3 cI cL cQ) A (mw cI b cod (nI cnt) pl nm od op (zi kb) kU kD kl up dn lg ++ fr))) (va_Qi (fun r (u : Int32) => (kb = false ∧ u = 1) ∨ (kb = true ∧ (∀ i, i < 5 → ¬ gl_prime i = k) ∧ u = 2) ∨ (kb = true ∧ u = 0 ∧ ∃ i, i < 5 ∧ gl_prime i = k ∧ (∀ j, j < i → ¬ gl_prime j = k) ∧ r = kl i)) (fun u t => wd_E D (ty3 cI cL cQ) A (mw cI b u (nI cnt) pl nm od op (zi kb) kU kD kl up dn lg ++ fr) t) A) 0 0 A := by
  refine Met.ofW (cc := cX3_logarithm) (maxL := 3) (ret := (some .int)) (by decide) rfl ?_
  intro p e s m args below meth c s₁ B hml hv
  obtain ⟨rfl, hG, hK, hP, hD, hA⟩ := hv
  have hx := B.exec
  have hb := B.bytes
  have hr := B.returns
  have hts := atoms_spec (ws := wsX3_logarithm) B.pre
  have hg : ∀ w ∈ gw, w.before ([.ref (b 0), .int k] : List Value).toArray s = true := fun w h => hts w (List.mem_cons_of_mem _ h)
  have hown : s.vm.findClass RX3 = some m.cls := findClass_of_methodNamed B.named
  have hlocks := B.notSynchronized
  have hS : va_S A s.heap s.heap [] := va_S.rf
  have hl := lv_entry ([.ref (b 0), .int k]) (n := 3) (Nat.le_of_ble_eq_true rfl)
  rw [lg_entry_eq]
  generalize (lg_sl ([.ref (b 0), .int k]) ++ List.replicate (3 - (lg_sl ([.ref (b 0), .int k])).length) Slot.unset).toArray = ls at hl ⊢
  have hl : lv_has ls 3 [(0, .ref (b 0)), (1, .int k)] := hl
  refine lv_aload_n hx hb dX3_logarithm_0 rfl (lv_at hl 0 rfl) ?_
  refine va_get (D := D) (ci := 3) (v := .int (zi kb)) (C := RX3) (T := TX3) (N := 13) hx hb hg inX3 hown hK hP 0 rfl rfl 6 (by decide) (hg _ fl_X3_43) (fun _ h9 => h9) rfl dX3_logarithm_1 ?_
  refine lv_if_ne (tgt := 13) hx hb dX3_logarithm_4 (by decide) (fun c_1 => ?_) (fun c_1 => ?_)
  · replace c_1 := zi_n0 c_1
    refine lv_aload_n hx hb dX3_logarithm_13 rfl (lv_at hl 0 rfl) ?_
    refine lv_iconst (v := 0) hx hb dX3_logarithm_14 (by decide) ?_
    refine va_put (D := D) (ci := 3) (v := .int 0) (ty := .int) (C := RX3) (T := TX3) (N := 13) hx hb hg inX3 tyX3 tyX3_ok nmX3 hown hK hP hD hS 0 rfl rfl 0 (by decide) (hg _ fl_X3_28) (fun _ h9 => h9) rfl (by decide +kernel) rfl rfl (Nat.le_of_ble_eq_true rfl) dX3_logarithm_15 (fun H locs hP hD hS => ?_)
    have hP : va_P D vwCl (mw cI b 0 (nI cnt) pl nm od op (zi kb) kU kD kl up dn lg ++ fr) H := hP
    have hD : va_D A (mw cI b 0 (nI cnt) pl nm od op (zi kb) kU kD kl up dn lg ++ fr) := hD
    refine lv_iconst (v := 0) hx hb dX3_logarithm_18 (by decide) ?_
    refine lv_istore_n (lv' := [(2, .int 0), (0, .ref (b 0)), (1, .int k)]) hx hb dX3_logarithm_19 rfl hl (by decide) rfl (fun ls hl => ?_)
    refine lv_iload_n hx hb dX3_logarithm_20 rfl (lv_at hl 0 rfl) ?_
    refine lv_iconst (v := 5) hx hb dX3_logarithm_21 (by decide) ?_
    refine lv_icmp_ge (tgt := 46) hx hb dX3_logarithm_22 (by decide) (fun c_2 => absurd c_2 (by decide)) (fun _ => ?_)
    refine lv_iload_n hx hb dX3_logarithm_25 rfl (lv_at hl 0 rfl) ?_
    refine vp_callSi (W.runS (As := [.int 0]) (rest := []) ⟨hx, hb, hml, hown, hg⟩ (c_X3_primeOf l 0) (va_cwS 1 hg (gw_S ml_X3_54 sm_X3_primeOf ini_X3 co_X3_primeOf) rfl rfl rfl (by decide +kernel) ⟨Nat.le_of_ble_eq_true rfl, Nat.le_of_ble_eq_true rfl⟩) ⟨tt_blind, (fun U hU hW => ⟨rfl, trivial⟩)⟩ rfl rfl hl.1 rfl (lv_room (Nat.le_of_ble_eq_true rfl)) dX3_logarithm_26 ⟨Nat.le_of_ble_eq_true rfl, Nat.le_of_ble_eq_true rfl⟩) (fun r_3 hr_3 => ?_)
    subst hr_3
    refine lv_iload_n hx hb dX3_logarithm_29 rfl (lv_at hl 2 rfl) ?_
    refine lv_icmp_ne (tgt := 40) hx hb dX3_logarithm_30 (by decide) (fun c_4 => ?_) (fun c_4 => ?_)
    · refine lv_iinc (v := 1) (lv' := [(2, .int 1), (0, .ref (b 0)), (1, .int k)]) hx hb dX3_logarithm_40 hl (k := 0) rfl (by decide) (by decide) rfl (fun ls hl => ?_)
      refine lv_goto (tgt := 20) hx hb dX3_logarithm_43 (by decide) ?_
      refine lv_iload_n hx hb dX3_logarithm_20 rfl (lv_at hl 0 rfl) ?_
      refine lv_iconst (v := 5) hx hb dX3_logarithm_21 (by decide) ?_
      refine lv_icmp_ge (tgt := 46) hx hb dX3_logarithm_22 (by decide) (fun c_5 => absurd c_5 (by decide)) (fun _ => ?_)
      refine lv_iload_n hx hb dX3_logarithm_25 rfl (lv_at hl 0 rfl) ?_
      refine vp_callSi (W.runS (As := [.int 1]) (rest := []) ⟨hx, hb, hml, hown, hg⟩ (c_X3_primeOf l 1) (va_cwS 1 hg (gw_S ml_X3_54 sm_X3_primeOf ini_X3 co_X3_primeOf) rfl rfl rfl (by decide +kernel) ⟨Nat.le_of_ble_eq_true rfl, Nat.le_of_ble_eq_true rfl⟩) ⟨tt_blind, (fun U hU hW => ⟨rfl, trivial⟩)⟩ rfl rfl hl.1 rfl (lv_room (Nat.le_of_ble_eq_true rfl)) dX3_logarithm_26 ⟨Nat.le_of_ble_eq_true rfl, Nat.le_of_ble_eq_true rfl⟩) (fun r_6 hr_6 => ?_)
      subst hr_6
      refine lv_iload_n hx hb dX3_logarithm_29 rfl (lv_at hl 2 rfl) ?_
      refine lv_icmp_ne (tgt := 40) hx hb dX3_logarithm_30 (by decide) (fun c_7 => ?_) (fun c_7 => ?_)
      · refine lv_iinc (v := 2) (lv' := [(2, .int 2), (0, .ref (b 0)), (1, .int k)]) hx hb dX3_logarithm_40 hl (k := 0) rfl (by decide) (by decide) rfl (fun ls hl => ?_)
        refine lv_goto (tgt := 20) hx hb dX3_logarithm_43 (by decide) ?_
        refine lv_iload_n hx hb dX3_logarithm_20 rfl (lv_at hl 0 rfl) ?_
        refine lv_iconst (v := 5) hx hb dX3_logarithm_21 (by decide) ?_
        refine lv_icmp_ge (tgt := 46) hx hb dX3_logarithm_22 (by decide) (fun c_8 => absurd c_8 (by decide)) (fun _ => ?_)
        refine lv_iload_n hx hb dX3_logarithm_25 rfl (lv_at hl 0 rfl) ?_
        refine vp_callSi (W.runS (As := [.int 2]) (rest := []) ⟨hx, hb, hml, hown, hg⟩ (c_X3_primeOf l 2) (va_cwS 1 hg (gw_S ml_X3_54 sm_X3_primeOf ini_X3 co_X3_primeOf) rfl rfl rfl (by decide +kernel) ⟨Nat.le_of_ble_eq_true rfl, Nat.le_of_ble_eq_true rfl⟩) ⟨tt_blind, (fun U hU hW => ⟨rfl, trivial⟩)⟩ rfl rfl hl.1 rfl (lv_room (Nat.le_of_ble_eq_true rfl)) dX3_logarithm_26 ⟨Nat.le_of_ble_eq_true rfl, Nat.le_of_ble_eq_true rfl⟩) (fun r_9 hr_9 => ?_)
        subst hr_9
        refine lv_iload_n hx hb dX3_logarithm_29 rfl (lv_at hl 2 rfl) ?_
        refine lv_icmp_ne (tgt := 40) hx hb dX3_logarithm_30 (by decide) (fun c_10 => ?_) (fun c_10 => ?_)
        · refine lv_iinc (v := 3) (lv' := [(2, .int 3), (0, .ref (b 0)), (1, .int k)]) hx hb dX3_logarithm_40 hl (k := 0) rfl (by decide) (by decide) rfl (fun ls hl => ?_)
          refine lv_goto (tgt := 20) hx hb dX3_logarithm_43 (by decide) ?_
          refine lv_iload_n hx hb dX3_logarithm_20 rfl (lv_at hl 0 rfl) ?_
          refine lv_iconst (v := 5) hx hb dX3_logarithm_21 (by decide) ?_
          refine lv_icmp_ge (tgt := 46) hx hb dX3_logarithm_22 (by decide) (fun c_11 => absurd c_11 (by decide)) (fun _ => ?_)
          refine lv_iload_n hx hb dX3_logarithm_25 rfl (lv_at hl 0 rfl) ?_
          refine vp_callSi (W.runS (As := [.int 3]) (rest := []) ⟨hx, hb, hml, hown, hg⟩ (c_X3_primeOf l 3) (va_cwS 1 hg (gw_S ml_X3_54 sm_X3_primeOf ini_X3 co_X3_primeOf) rfl rfl rfl (by decide +kernel) ⟨Nat.le_of_ble_eq_true rfl, Nat.le_of_ble_eq_true rfl⟩) ⟨tt_blind, (fun U hU hW => ⟨rfl, trivial⟩)⟩ rfl rfl hl.1 rfl (lv_room (Nat.le_of_ble_eq_true rfl)) dX3_logarithm_26 ⟨Nat.le_of_ble_eq_true rfl, Nat.le_of_ble_eq_true rfl⟩) (fun r_12 hr_12 => ?_)
          subst hr_12
          refine lv_iload_n hx hb dX3_logarithm_29 rfl (lv_at hl 2 rfl) ?_
          refine lv_icmp_ne (tgt := 40) hx hb dX3_logarithm_30 (by decide) (fun c_13 => ?_) (fun c_13 => ?_)
          · refine lv_iinc (v := 4) (lv' := [(2, .int 4), (0, .ref (b 0)), (1, .int k)]) hx hb dX3_logarithm_40 hl (k := 0) rfl (by decide) (by decide) rfl (fun ls hl => ?_)
            refine lv_goto (tgt := 20) hx hb dX3_logarithm_43 (by decide) ?_
            refine lv_iload_n hx hb dX3_logarithm_20 rfl (lv_at hl 0 rfl) ?_
            refine lv_iconst (v := 5) hx hb dX3_logarithm_21 (by decide) ?_
            refine lv_icmp_ge (tgt := 46) hx hb dX3_logarithm_22 (by decide) (fun c_14 => absurd c_14 (by decide)) (fun _ => ?_)
            refine lv_iload_n hx hb dX3_logarithm_25 rfl (lv_at hl 0 rfl) ?_
            refine vp_callSi (W.runS (As := [.int 4]) (rest := []) ⟨hx, hb, hml, hown, hg⟩ (c_X3_primeOf l 4) (va_cwS 1 hg (gw_S ml_X3_54 sm_X3_primeOf ini_X3 co_X3_primeOf) rfl rfl rfl (by decide +kernel) ⟨Nat.le_of_ble_eq_true rfl, Nat.le_of_ble_eq_true rfl⟩) ⟨tt_blind, (fun U hU hW => ⟨rfl, trivial⟩)⟩ rfl rfl hl.1 rfl (lv_room (Nat.le_of_ble_eq_true rfl)) dX3_logarithm_26 ⟨Nat.le_of_ble_eq_true rfl, Nat.le_of_ble_eq_true rfl⟩) (fun r_15 hr_15 => ?_)
            subst hr_15
            refine lv_iload_n hx hb dX3_logarithm_29 rfl (lv_at hl 2 rfl) ?_
            refine lv_icmp_ne (tgt := 40) hx hb dX3_logarithm_30 (by decide) (fun c_16 => ?_) (fun c_16 => ?_)
            · refine lv_iinc (v := 5) (lv' := [(2, .int 5), (0, .ref (b 0)), (1, .int k)]) hx hb dX3_logarithm_40 hl (k := 0) rfl (by decide) (by decide) rfl (fun ls hl => ?_)
              refine lv_goto (tgt := 20) hx hb dX3_logarithm_43 (by decide) ?_
              refine lv_iload_n hx hb dX3_logarithm_20 rfl (lv_at hl 0 rfl) ?_
              refine lv_iconst (v := 5) hx hb dX3_logarithm_21 (by decide) ?_
              refine lv_icmp_ge (tgt := 46) hx hb dX3_logarithm_22 (by decide) (fun _ => ?_) (fun c_17 => absurd c_17 (by decide))
              refine lv_aload_n hx hb dX3_logarithm_46 rfl (lv_at hl 1 rfl) ?_
              refine lv_iconst (v := 2) hx hb dX3_logarithm_47 (by decide) ?_
              refine va_calli (va_runV (As := [.int 2]) (rest := []) ⟨hx, hb, hml, hown, hg⟩ (c_X3_raise l A D cI cL cQ fr b 0 cnt hc pl nm od op kb kU kD kl up dn lg 2) (cwV 1 hg (gw_V ml_X3_62 im_X3_raise se_X3_raise ini_X3 co_X3_raise) rfl rfl rfl (by decide +kernel) ⟨Nat.le_of_ble_eq_true rfl, Nat.le_of_ble_eq_true rfl⟩) ⟨wd_B.blind, va_recv hK hP (ci := 3) (q0 := 0) rfl rfl, (fun U hU hW => ⟨rfl, wd_B.at hG hK hP hD hS hA hU hW⟩)⟩ rfl rfl hl.1 rfl (lv_room (Nat.le_of_ble_eq_true rfl)) dX3_logarithm_48 ⟨Nat.le_of_ble_eq_true rfl, Nat.le_of_ble_eq_true rfl⟩) hS (fun q _ h => h) (fun q h => h) (fun r_18 u t H1 locs ht hvm hr_18 hB hz1 hk1 hS => ?_)
              obtain ⟨hK, hP, hD⟩ := hB.back ht hvm
              generalize H1 = H at hP hS ⊢
              subst hr_18
              have hP : va_P D vwCl (mw cI b 2 (nI cnt) pl nm od op (zi kb) kU kD kl up dn lg ++ fr) H := hP
              have hD : va_D A (mw cI b 2 (nI cnt) pl nm od op (zi kb) kU kD kl up dn lg ++ fr) := hD
              exact W.iret (v := (0)) hx hb hr (fun t ht hW => ⟨⟨(0), 2, rfl, Or.inr (Or.inl ⟨c_1, fun i hi => by rcases (show i = 0 ∨ i = 1 ∨ i = 2 ∨ i = 3 ∨ i = 4 by omega) with rfl | rfl | rfl | rfl | rfl; exact c_4; exact c_7; exact c_10; exact c_13; exact c_16, rfl⟩), wd_E.at hK hP hD ht hW⟩, hS.F ht⟩) hS.2.2 dX3_logarithm_51
            · refine lv_aload_n hx hb dX3_logarithm_33 rfl (lv_at hl 1 rfl) ?_
              refine va_get (D := D) (ci := 3) (v := .ref (b 5)) (C := RX3) (T := TX3) (N := 13) hx hb hg inX3 hown hK hP 0 rfl rfl 9 (by decide) (hg _ fl_X3_22) (fun _ h9 => h9) rfl dX3_logarithm_34 ?_
              refine lv_iload_n hx hb dX3_logarithm_37 rfl (lv_at hl 0 rfl) ?_
              refine va_iald (D := D) (n := 5) (f := kl) hx hb hK hP 5 0 rfl rfl (vp_in_nI (show 4 < 5 by decide) (by decide)) dX3_logarithm_38 ?_
              rw [show (4 : Int32).toNatClampNeg = 4 from by decide]
              exact W.iret (v := (kl 4)) hx hb hr (fun t ht hW => ⟨⟨(kl 4), 0, rfl, Or.inr (Or.inr ⟨c_1, rfl, 4, by decide, c_16, fun j hj => by rcases (show j = 0 ∨ j = 1 ∨ j = 2 ∨ j = 3 by omega) with rfl | rfl | rfl | rfl; exact c_4; exact c_7; exact c_10; exact c_13, rfl⟩), wd_E.at hK hP hD ht hW⟩, hS.F ht⟩) hS.2.2 dX3_logarithm_39
          · refine lv_aload_n hx hb dX3_logarithm_33 rfl (lv_at hl 1 rfl) ?_
            refine va_get (D := D) (ci := 3) (v := .ref (b 5)) (C := RX3) (T := TX3) (N := 13) hx hb hg inX3 hown hK hP 0 rfl rfl 9 (by decide) (hg _ fl_X3_22) (fun _ h9 => h9) rfl dX3_logarithm_34 ?_
            refine lv_iload_n hx hb dX3_logarithm_37 rfl (lv_at hl 0 rfl) ?_
            refine va_iald (D := D) (n := 5) (f := kl) hx hb hK hP 5 0 rfl rfl (vp_in_nI (show 3 < 5 by decide) (by decide)) dX3_logarithm_38 ?_
            rw [show (3 : Int32).toNatClampNeg = 3 from by decide]
            exact W.iret (v := (kl 3)) hx hb hr (fun t ht hW => ⟨⟨(kl 3), 0, rfl, Or.inr (Or.inr ⟨c_1, rfl, 3, by decide, c_13, fun j hj => by rcases (show j = 0 ∨ j = 1 ∨ j = 2 by omega) with rfl | rfl | rfl; exact c_4; exact c_7; exact c_10, rfl⟩), wd_E.at hK hP hD ht hW⟩, hS.F ht⟩) hS.2.2 dX3_logarithm_39
        · refine lv_aload_n hx hb dX3_logarithm_33 rfl (lv_at hl 1 rfl) ?_
          refine va_get (D := D) (ci := 3) (v := .ref (b 5)) (C := RX3) (T := TX3) (N := 13) hx hb hg inX3 hown hK hP 0 rfl rfl 9 (by decide) (hg _ fl_X3_22) (fun _ h9 => h9) rfl dX3_logarithm_34 ?_
          refine lv_iload_n hx hb dX3_logarithm_37 rfl (lv_at hl 0 rfl) ?_
          refine va_iald (D := D) (n := 5) (f := kl) hx hb hK hP 5 0 rfl rfl (vp_in_nI (show 2 < 5 by decide) (by decide)) dX3_logarithm_38 ?_
          rw [show (2 : Int32).toNatClampNeg = 2 from by decide]
          exact W.iret (v := (kl 2)) hx hb hr (fun t ht hW => ⟨⟨(kl 2), 0, rfl, Or.inr (Or.inr ⟨c_1, rfl, 2, by decide, c_10, fun j hj => by rcases (show j = 0 ∨ j = 1 by omega) with rfl | rfl; exact c_4; exact c_7, rfl⟩), wd_E.at hK hP hD ht hW⟩, hS.F ht⟩) hS.2.2 dX3_logarithm_39
      · refine lv_aload_n hx hb dX3_logarithm_33 rfl (lv_at hl 1 rfl) ?_
        refine va_get (D := D) (ci := 3) (v := .ref (b 5)) (C := RX3) (T := TX3) (N := 13) hx hb hg inX3 hown hK hP 0 rfl rfl 9 (by decide) (hg _ fl_X3_22) (fun _ h9 => h9) rfl dX3_logarithm_34 ?_
        refine lv_iload_n hx hb dX3_logarithm_37 rfl (lv_at hl 0 rfl) ?_
        refine va_iald (D := D) (n := 5) (f := kl) hx hb hK hP 5 0 rfl rfl (vp_in_nI (show 1 < 5 by decide) (by decide)) dX3_logarithm_38 ?_
        rw [show (1 : Int32).toNatClampNeg = 1 from by decide]
        exact W.iret (v := (kl 1)) hx hb hr (fun t ht hW => ⟨⟨(kl 1), 0, rfl, Or.inr (Or.inr ⟨c_1, rfl, 1, by decide, c_7, fun j hj => by rcases (show j = 0 by omega) with rfl; exact c_4, rfl⟩), wd_E.at hK hP hD ht hW⟩, hS.F ht⟩) hS.2.2 dX3_logarithm_39
    · refine lv_aload_n hx hb dX3_logarithm_33 rfl (lv_at hl 1 rfl) ?_
      refine va_get (D := D) (ci := 3) (v := .ref (b 5)) (C := RX3) (T := TX3) (N := 13) hx hb hg inX3 hown hK hP 0 rfl rfl 9 (by decide) (hg _ fl_X3_22) (fun _ h9 => h9) rfl dX3_logarithm_34 ?_
      refine lv_iload_n hx hb dX3_logarithm_37 rfl (lv_at hl 0 rfl) ?_
      refine va_iald (D := D) (n := 5) (f := kl) hx hb hK hP 5 0 rfl rfl (vp_in_nI (show 0 < 5 by decide) (by decide)) dX3_logarithm_38 ?_
      rw [show (0 : Int32).toNatClampNeg = 0 from by decide]
      exact W.iret (v := (kl 0)) hx hb hr (fun t ht hW => ⟨⟨(kl 0), 0, rfl, Or.inr (Or.inr ⟨c_1, rfl, 0, by decide, c_4, fun j hj => by exact absurd hj (Nat.not_lt_zero j), rfl⟩), wd_E.at hK hP hD ht hW⟩, hS.F ht⟩) hS.2.2 dX3_logarithm_39
  · replace c_1 := zi_0 c_1
    refine lv_aload_n hx hb dX3_logarithm_7 rfl (lv_at hl 0 rfl) ?_
    refine lv_iconst (v := 1) hx hb dX3_logarithm_8 (by decide) ?_
    refine va_calli (va_runV (As := [.int 1]) (rest := []) ⟨hx, hb, hml, hown, hg⟩ (c_X3_raise l A D cI cL cQ fr b cod cnt hc pl nm od op kb kU kD kl up dn lg 1) (cwV 1 hg (gw_V ml_X3_62 im_X3_raise se_X3_raise ini_X3 co_X3_raise) rfl rfl rfl (by decide +kernel) ⟨Nat.le_of_ble_eq_true rfl, Nat.le_of_ble_eq_true rfl⟩) ⟨wd_B.blind, va_recv hK hP (ci := 3) (q0 := 0) rfl rfl, (fun U hU hW => ⟨rfl, wd_B.at hG hK hP hD hS hA hU hW⟩)⟩ rfl rfl hl.1 rfl (lv_room (Nat.le_of_ble_eq_true rfl)) dX3_logarithm_9 ⟨Nat.le_of_ble_eq_true rfl, Nat.le_of_ble_eq_true rfl⟩) hS (fun q _ h => h) (fun q h => h) (fun r_19 u t H1 locs ht hvm hr_19 hB hz1 hk1 hS => ?_)
    obtain ⟨hK, hP, hD⟩ := hB.back ht hvm
    generalize H1 = H at hP hS ⊢
    subst hr_19
    have hP : va_P D vwCl (mw cI b 1 (nI cnt) pl nm od op (zi kb) kU kD kl up dn lg ++ fr) H := hP
    have hD : va_D A (mw cI b 1 (nI cnt) pl nm od op (zi kb) kU kD kl up dn lg ++ fr) := hD
    exact W.iret (v := (0)) hx hb hr (fun t ht hW => ⟨⟨(0), 1, rfl, Or.inl ⟨c_1, rfl⟩, wd_E.at hK hP hD ht hW⟩, hS.F ht⟩) hS.2.2 dX3_logarithm_12
