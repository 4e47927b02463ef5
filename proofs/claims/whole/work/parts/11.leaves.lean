/-- isWithin, isPart, isEndless, isEnd; the reference's in -/
def x_in (v q : Int32) : Bool := !decide (v < -q) && !decide (q < v)
def x_part (v : Int32) : Bool := decide (v = 0) || decide (v = 1)
def x_less (v : Int32) : Bool := decide (v = 9) || decide (v = -9)
def x_end (v : Int32) : Bool := x_in v 6 || x_less v
def m_in (v a b : Int32) : Bool := !decide (v < a) && !decide (b < v)
set_option maxHeartbeats 4000000 in
set_option maxRecDepth 100000 in
theorem c_X2_isWithin (l : Launch) (v q : Int32) : Met l yX2_isWithin wsX2_isWithin { frames := 0, cells := 0, slots := 0, locals := 0 } (va_Pc [.int v, .int q] (fun _ => True)) (vp_Si (fun r => r = zi (x_in v q))) 0 0 (fun _ => False) := by
  refine Met.ofW (cc := cX2_isWithin) (maxL := 2) (ret := (some .boolean)) (by decide) rfl ?_
  intro p e s m args below meth c s₁ B hml hv
  obtain ⟨rfl, -⟩ := hv
  have hx := B.exec
  have hb := B.bytes
  have hr := B.returns
  have hts := atoms_spec (ws := wsX2_isWithin) B.pre
  have hg : ∀ w ∈ gw, w.before ([.int v, .int q] : List Value).toArray s = true := fun w h => hts w (List.mem_cons_of_mem _ h)
  have hown : s.vm.findClass RX2 = some m.cls := findClass_of_methodNamed B.named
  have hlocks := B.notSynchronized
  have hl := lv_entry ([.int v, .int q]) (n := 2) (Nat.le_of_ble_eq_true rfl)
  rw [lg_entry_eq]
  generalize (lg_sl ([.int v, .int q]) ++ List.replicate (2 - (lg_sl ([.int v, .int q])).length) Slot.unset).toArray = ls at hl ⊢
  have hl : lv_has ls 2 [(0, .int v), (1, .int q)] := hl
  refine lv_iload_n hx hb dX2_isWithin_0 rfl (lv_at hl 0 rfl) ?_
  refine lv_iload_n hx hb dX2_isWithin_1 rfl (lv_at hl 1 rfl) ?_
  refine lv_ineg hx hb dX2_isWithin_2 ?_
  refine lv_icmp_lt (tgt := 15) hx hb dX2_isWithin_3 (by decide) (fun c_1 => ?_) (fun c_1 => ?_)
  · refine lv_iconst (v := 0) hx hb dX2_isWithin_15 (by decide) ?_
    exact W.zret (v := 0) hx hb hr rfl (fun t ht hW => ⟨0, rfl, by simp [zi, x_in, c_1], ht⟩) (fun _ h => nomatch h) dX2_isWithin_16
  · refine lv_iload_n hx hb dX2_isWithin_6 rfl (lv_at hl 0 rfl) ?_
    refine lv_iload_n hx hb dX2_isWithin_7 rfl (lv_at hl 1 rfl) ?_
    refine lv_icmp_gt (tgt := 15) hx hb dX2_isWithin_8 (by decide) (fun c_2 => ?_) (fun c_2 => ?_)
    · refine lv_iconst (v := 0) hx hb dX2_isWithin_15 (by decide) ?_
      exact W.zret (v := 0) hx hb hr rfl (fun t ht hW => ⟨0, rfl, by simp [zi, x_in, c_1, c_2], ht⟩) (fun _ h => nomatch h) dX2_isWithin_16
    · refine lv_iconst (v := 1) hx hb dX2_isWithin_11 (by decide) ?_
      refine lv_goto (tgt := 16) hx hb dX2_isWithin_12 (by decide) ?_
      exact W.zret (v := 1) hx hb hr rfl (fun t ht hW => ⟨1, rfl, by simp [zi, x_in, c_1, c_2], ht⟩) (fun _ h => nomatch h) dX2_isWithin_16
set_option maxHeartbeats 4000000 in
set_option maxRecDepth 100000 in
theorem c_X2_isPart (l : Launch) (v : Int32) : Met l yX2_isPart wsX2_isPart { frames := 0, cells := 0, slots := 0, locals := 0 } (va_Pc [.int v] (fun _ => True)) (vp_Si (fun r => r = zi (x_part v))) 0 0 (fun _ => False) := by
  refine Met.ofW (cc := cX2_isPart) (maxL := 1) (ret := (some .boolean)) (by decide) rfl ?_
  intro p e s m args below meth c s₁ B hml hv
  obtain ⟨rfl, -⟩ := hv
  have hx := B.exec
  have hb := B.bytes
  have hr := B.returns
  have hts := atoms_spec (ws := wsX2_isPart) B.pre
  have hg : ∀ w ∈ gw, w.before ([.int v] : List Value).toArray s = true := fun w h => hts w (List.mem_cons_of_mem _ h)
  have hown : s.vm.findClass RX2 = some m.cls := findClass_of_methodNamed B.named
  have hlocks := B.notSynchronized
  have hl := lv_entry ([.int v]) (n := 1) (Nat.le_of_ble_eq_true rfl)
  rw [lg_entry_eq]
  generalize (lg_sl ([.int v]) ++ List.replicate (1 - (lg_sl ([.int v])).length) Slot.unset).toArray = ls at hl ⊢
  have hl : lv_has ls 1 [(0, .int v)] := hl
  refine lv_iload_n hx hb dX2_isPart_0 rfl (lv_at hl 0 rfl) ?_
  refine lv_if_eq (tgt := 9) hx hb dX2_isPart_1 (by decide) (fun c_1 => ?_) (fun c_1 => ?_)
  · refine lv_iconst (v := 1) hx hb dX2_isPart_9 (by decide) ?_
    refine lv_goto (tgt := 14) hx hb dX2_isPart_10 (by decide) ?_
    exact W.zret (v := 1) hx hb hr rfl (fun t ht hW => ⟨1, rfl, by simp [zi, x_part, c_1], ht⟩) (fun _ h => nomatch h) dX2_isPart_14
  · refine lv_iload_n hx hb dX2_isPart_4 rfl (lv_at hl 0 rfl) ?_
    refine lv_iconst (v := 1) hx hb dX2_isPart_5 (by decide) ?_
    refine lv_icmp_ne (tgt := 13) hx hb dX2_isPart_6 (by decide) (fun c_2 => ?_) (fun c_2 => ?_)
    · refine lv_iconst (v := 0) hx hb dX2_isPart_13 (by decide) ?_
      exact W.zret (v := 0) hx hb hr rfl (fun t ht hW => ⟨0, rfl, by simp [zi, x_part, c_1, c_2], ht⟩) (fun _ h => nomatch h) dX2_isPart_14
    · refine lv_iconst (v := 1) hx hb dX2_isPart_9 (by decide) ?_
      refine lv_goto (tgt := 14) hx hb dX2_isPart_10 (by decide) ?_
      exact W.zret (v := 1) hx hb hr rfl (fun t ht hW => ⟨1, rfl, by simp [zi, x_part, c_1, c_2], ht⟩) (fun _ h => nomatch h) dX2_isPart_14
set_option maxHeartbeats 4000000 in
set_option maxRecDepth 100000 in
theorem c_X2_isEndless (l : Launch) (v : Int32) : Met l yX2_isEndless wsX2_isEndless { frames := 0, cells := 0, slots := 0, locals := 0 } (va_Pc [.int v] (fun _ => True)) (vp_Si (fun r => r = zi (x_less v))) 0 0 (fun _ => False) := by
  refine Met.ofW (cc := cX2_isEndless) (maxL := 1) (ret := (some .boolean)) (by decide) rfl ?_
  intro p e s m args below meth c s₁ B hml hv
  obtain ⟨rfl, -⟩ := hv
  have hx := B.exec
  have hb := B.bytes
  have hr := B.returns
  have hts := atoms_spec (ws := wsX2_isEndless) B.pre
  have hg : ∀ w ∈ gw, w.before ([.int v] : List Value).toArray s = true := fun w h => hts w (List.mem_cons_of_mem _ h)
  have hown : s.vm.findClass RX2 = some m.cls := findClass_of_methodNamed B.named
  have hlocks := B.notSynchronized
  have hl := lv_entry ([.int v]) (n := 1) (Nat.le_of_ble_eq_true rfl)
  rw [lg_entry_eq]
  generalize (lg_sl ([.int v]) ++ List.replicate (1 - (lg_sl ([.int v])).length) Slot.unset).toArray = ls at hl ⊢
  have hl : lv_has ls 1 [(0, .int v)] := hl
  refine lv_iload_n hx hb dX2_isEndless_0 rfl (lv_at hl 0 rfl) ?_
  refine lv_bipush (v := 9) hx hb dX2_isEndless_1 (by decide) ?_
  refine lv_icmp_eq (tgt := 12) hx hb dX2_isEndless_3 (by decide) (fun c_1 => ?_) (fun c_1 => ?_)
  · refine lv_iconst (v := 1) hx hb dX2_isEndless_12 (by decide) ?_
    refine lv_goto (tgt := 17) hx hb dX2_isEndless_13 (by decide) ?_
    exact W.zret (v := 1) hx hb hr rfl (fun t ht hW => ⟨1, rfl, by simp [zi, x_less, c_1], ht⟩) (fun _ h => nomatch h) dX2_isEndless_17
  · refine lv_iload_n hx hb dX2_isEndless_6 rfl (lv_at hl 0 rfl) ?_
    refine lv_bipush (v := (-9)) hx hb dX2_isEndless_7 (by decide) ?_
    refine lv_icmp_ne (tgt := 16) hx hb dX2_isEndless_9 (by decide) (fun c_2 => ?_) (fun c_2 => ?_)
    · refine lv_iconst (v := 0) hx hb dX2_isEndless_16 (by decide) ?_
      exact W.zret (v := 0) hx hb hr rfl (fun t ht hW => ⟨0, rfl, by simp [zi, x_less, c_1, c_2], ht⟩) (fun _ h => nomatch h) dX2_isEndless_17
    · refine lv_iconst (v := 1) hx hb dX2_isEndless_12 (by decide) ?_
      refine lv_goto (tgt := 17) hx hb dX2_isEndless_13 (by decide) ?_
      exact W.zret (v := 1) hx hb hr rfl (fun t ht hW => ⟨1, rfl, by simp [zi, x_less, c_1, c_2], ht⟩) (fun _ h => nomatch h) dX2_isEndless_17
set_option maxHeartbeats 4000000 in
set_option maxRecDepth 100000 in
theorem c_X3_in (l : Launch) (v a b : Int32) : Met l yX3_in wsX3_in { frames := 0, cells := 0, slots := 0, locals := 0 } (va_Pc [.int v, .int a, .int b] (fun _ => True)) (vp_Si (fun r => r = zi (m_in v a b))) 0 0 (fun _ => False) := by
  refine Met.ofW (cc := cX3_in) (maxL := 3) (ret := (some .boolean)) (by decide) rfl ?_
  intro p e s m args below meth c s₁ B hml hv
  obtain ⟨rfl, -⟩ := hv
  have hx := B.exec
  have hb := B.bytes
  have hr := B.returns
  have hts := atoms_spec (ws := wsX3_in) B.pre
  have hg : ∀ w ∈ gw, w.before ([.int v, .int a, .int b] : List Value).toArray s = true := fun w h => hts w (List.mem_cons_of_mem _ h)
  have hown : s.vm.findClass RX3 = some m.cls := findClass_of_methodNamed B.named
  have hlocks := B.notSynchronized
  have hl := lv_entry ([.int v, .int a, .int b]) (n := 3) (Nat.le_of_ble_eq_true rfl)
  rw [lg_entry_eq]
  generalize (lg_sl ([.int v, .int a, .int b]) ++ List.replicate (3 - (lg_sl ([.int v, .int a, .int b])).length) Slot.unset).toArray = ls at hl ⊢
  have hl : lv_has ls 3 [(0, .int v), (1, .int a), (2, .int b)] := hl
  refine lv_iload_n hx hb dX3_in_0 rfl (lv_at hl 0 rfl) ?_
  refine lv_iload_n hx hb dX3_in_1 rfl (lv_at hl 1 rfl) ?_
  refine lv_icmp_lt (tgt := 14) hx hb dX3_in_2 (by decide) (fun c_1 => ?_) (fun c_1 => ?_)
  · refine lv_iconst (v := 0) hx hb dX3_in_14 (by decide) ?_
    exact W.zret (v := 0) hx hb hr rfl (fun t ht hW => ⟨0, rfl, by simp [zi, m_in, c_1], ht⟩) (fun _ h => nomatch h) dX3_in_15
  · refine lv_iload_n hx hb dX3_in_5 rfl (lv_at hl 0 rfl) ?_
    refine lv_iload_n hx hb dX3_in_6 rfl (lv_at hl 2 rfl) ?_
    refine lv_icmp_gt (tgt := 14) hx hb dX3_in_7 (by decide) (fun c_2 => ?_) (fun c_2 => ?_)
    · refine lv_iconst (v := 0) hx hb dX3_in_14 (by decide) ?_
      exact W.zret (v := 0) hx hb hr rfl (fun t ht hW => ⟨0, rfl, by simp [zi, m_in, c_1, c_2], ht⟩) (fun _ h => nomatch h) dX3_in_15
    · refine lv_iconst (v := 1) hx hb dX3_in_10 (by decide) ?_
      refine lv_goto (tgt := 15) hx hb dX3_in_11 (by decide) ?_
      exact W.zret (v := 1) hx hb hr rfl (fun t ht hW => ⟨1, rfl, by simp [zi, m_in, c_1, c_2], ht⟩) (fun _ h => nomatch h) dX3_in_15
set_option maxHeartbeats 4000000 in
set_option maxRecDepth 100000 in
theorem c_X2_isEnd (l : Launch) (v : Int32) : Met l yX2_isEnd wsX2_isEnd { frames := 1, cells := 0, slots := 0, locals := 21 } (va_Pc [.int v] (fun _ => True)) (vp_Si (fun r => r = zi (x_end v))) 0 0 (fun _ => False) := by
  refine Met.ofW (cc := cX2_isEnd) (maxL := 1) (ret := (some .boolean)) (by decide) rfl ?_
  intro p e s m args below meth c s₁ B hml hv
  obtain ⟨rfl, -⟩ := hv
  have hx := B.exec
  have hb := B.bytes
  have hr := B.returns
  have hts := atoms_spec (ws := wsX2_isEnd) B.pre
  have hg : ∀ w ∈ gw, w.before ([.int v] : List Value).toArray s = true := fun w h => hts w (List.mem_cons_of_mem _ h)
  have hown : s.vm.findClass RX2 = some m.cls := findClass_of_methodNamed B.named
  have hlocks := B.notSynchronized
  have hl := lv_entry ([.int v]) (n := 1) (Nat.le_of_ble_eq_true rfl)
  rw [lg_entry_eq]
  generalize (lg_sl ([.int v]) ++ List.replicate (1 - (lg_sl ([.int v])).length) Slot.unset).toArray = ls at hl ⊢
  have hl : lv_has ls 1 [(0, .int v)] := hl
  refine lv_iload_n hx hb dX2_isEnd_0 rfl (lv_at hl 0 rfl) ?_
  refine lv_bipush (v := 6) hx hb dX2_isEnd_1 (by decide) ?_
  refine vp_callSi (W.runS (As := [.int v, .int 6]) (rest := []) ⟨hx, hb, hml, hown, hg⟩ (c_X2_isWithin l v 6) (va_cwS 2 hg (gw_S ml_X2_35 sm_X2_isWithin ini_X2 co_X2_isWithin) rfl rfl rfl (by decide +kernel) ⟨Nat.le_of_ble_eq_true rfl, Nat.le_of_ble_eq_true rfl⟩) ⟨tt_blind, (fun U hU hW => ⟨rfl, trivial⟩)⟩ rfl rfl hl.1 rfl (lv_room (Nat.le_of_ble_eq_true rfl)) dX2_isEnd_3 ⟨Nat.le_of_ble_eq_true rfl, Nat.le_of_ble_eq_true rfl⟩) (fun r_1 hr_1 => ?_)
  subst hr_1
  refine lv_if_ne (tgt := 16) hx hb dX2_isEnd_6 (by decide) (fun c_2 => ?_) (fun c_2 => ?_)
  · replace c_2 := zi_n0 c_2
    refine lv_iconst (v := 1) hx hb dX2_isEnd_16 (by decide) ?_
    refine lv_goto (tgt := 21) hx hb dX2_isEnd_17 (by decide) ?_
    exact W.zret (v := 1) hx hb hr rfl (fun t ht hW => ⟨1, rfl, by simp [zi, x_end, c_2], ht⟩) (fun _ h => nomatch h) dX2_isEnd_21
  · replace c_2 := zi_0 c_2
    refine lv_iload_n hx hb dX2_isEnd_9 rfl (lv_at hl 0 rfl) ?_
    refine vp_callSi (W.runS (As := [.int v]) (rest := []) ⟨hx, hb, hml, hown, hg⟩ (c_X2_isEndless l v) (va_cwS 1 hg (gw_S ml_X2_144 sm_X2_isEndless ini_X2 co_X2_isEndless) rfl rfl rfl (by decide +kernel) ⟨Nat.le_of_ble_eq_true rfl, Nat.le_of_ble_eq_true rfl⟩) ⟨tt_blind, (fun U hU hW => ⟨rfl, trivial⟩)⟩ rfl rfl hl.1 rfl (lv_room (Nat.le_of_ble_eq_true rfl)) dX2_isEnd_10 ⟨Nat.le_of_ble_eq_true rfl, Nat.le_of_ble_eq_true rfl⟩) (fun r_3 hr_3 => ?_)
    subst hr_3
    refine lv_if_eq (tgt := 20) hx hb dX2_isEnd_13 (by decide) (fun c_4 => ?_) (fun c_4 => ?_)
    · replace c_4 := zi_0 c_4
      refine lv_iconst (v := 0) hx hb dX2_isEnd_20 (by decide) ?_
      exact W.zret (v := 0) hx hb hr rfl (fun t ht hW => ⟨0, rfl, by simp [zi, x_end, c_2, c_4], ht⟩) (fun _ h => nomatch h) dX2_isEnd_21
    · replace c_4 := zi_n0 c_4
      refine lv_iconst (v := 1) hx hb dX2_isEnd_16 (by decide) ?_
      refine lv_goto (tgt := 21) hx hb dX2_isEnd_17 (by decide) ?_
      exact W.zret (v := 1) hx hb hr rfl (fun t ht hW => ⟨1, rfl, by simp [zi, x_end, c_2, c_4], ht⟩) (fun _ h => nomatch h) dX2_isEnd_21
set_option maxHeartbeats 4000000 in
set_option maxRecDepth 100000 in
theorem c_X3_primeOf (l : Launch) (v : Int32) : Met l yX3_primeOf wsX3_primeOf { frames := 0, cells := 0, slots := 0, locals := 0 } (va_Pc [.int v] (fun _ => True)) (vp_Si (fun r => r = (if v = 0 then 2 else if v = 1 then 3 else if v = 2 then 5 else if v = 3 then 7 else 11))) 0 0 (fun _ => False) := by
  refine Met.ofW (cc := cX3_primeOf) (maxL := 1) (ret := (some .int)) (by decide) rfl ?_
  intro p e s m args below meth c s₁ B hml hv
  obtain ⟨rfl, -⟩ := hv
  have hx := B.exec
  have hb := B.bytes
  have hr := B.returns
  have hts := atoms_spec (ws := wsX3_primeOf) B.pre
  have hg : ∀ w ∈ gw, w.before ([.int v] : List Value).toArray s = true := fun w h => hts w (List.mem_cons_of_mem _ h)
  have hown : s.vm.findClass RX3 = some m.cls := findClass_of_methodNamed B.named
  have hlocks := B.notSynchronized
  have hl := lv_entry ([.int v]) (n := 1) (Nat.le_of_ble_eq_true rfl)
  rw [lg_entry_eq]
  generalize (lg_sl ([.int v]) ++ List.replicate (1 - (lg_sl ([.int v])).length) Slot.unset).toArray = ls at hl ⊢
  have hl : lv_has ls 1 [(0, .int v)] := hl
  refine lv_iload_n hx hb dX3_primeOf_0 rfl (lv_at hl 0 rfl) ?_
  refine lv_if_ne (tgt := 8) hx hb dX3_primeOf_1 (by decide) (fun c_1 => ?_) (fun c_1 => ?_)
  · refine lv_iload_n hx hb dX3_primeOf_8 rfl (lv_at hl 0 rfl) ?_
    refine lv_iconst (v := 1) hx hb dX3_primeOf_9 (by decide) ?_
    refine lv_icmp_ne (tgt := 17) hx hb dX3_primeOf_10 (by decide) (fun c_2 => ?_) (fun c_2 => ?_)
    · refine lv_iload_n hx hb dX3_primeOf_17 rfl (lv_at hl 0 rfl) ?_
      refine lv_iconst (v := 2) hx hb dX3_primeOf_18 (by decide) ?_
      refine lv_icmp_ne (tgt := 26) hx hb dX3_primeOf_19 (by decide) (fun c_3 => ?_) (fun c_3 => ?_)
      · refine lv_iload_n hx hb dX3_primeOf_26 rfl (lv_at hl 0 rfl) ?_
        refine lv_iconst (v := 3) hx hb dX3_primeOf_27 (by decide) ?_
        refine lv_icmp_ne (tgt := 36) hx hb dX3_primeOf_28 (by decide) (fun c_4 => ?_) (fun c_4 => ?_)
        · refine lv_bipush (v := 11) hx hb dX3_primeOf_36 (by decide) ?_
          exact W.iret (v := 11) hx hb hr (fun t ht hW => ⟨11, rfl, by simp [zi, c_1, c_2, c_3, c_4], ht⟩) (fun _ h => nomatch h) dX3_primeOf_38
        · refine lv_bipush (v := 7) hx hb dX3_primeOf_31 (by decide) ?_
          refine lv_goto (tgt := 38) hx hb dX3_primeOf_33 (by decide) ?_
          exact W.iret (v := 7) hx hb hr (fun t ht hW => ⟨7, rfl, by simp [zi, c_1, c_2, c_3, c_4], ht⟩) (fun _ h => nomatch h) dX3_primeOf_38
      · refine lv_iconst (v := 5) hx hb dX3_primeOf_22 (by decide) ?_
        refine lv_goto (tgt := 38) hx hb dX3_primeOf_23 (by decide) ?_
        exact W.iret (v := 5) hx hb hr (fun t ht hW => ⟨5, rfl, by simp [zi, c_1, c_2, c_3], ht⟩) (fun _ h => nomatch h) dX3_primeOf_38
    · refine lv_iconst (v := 3) hx hb dX3_primeOf_13 (by decide) ?_
      refine lv_goto (tgt := 38) hx hb dX3_primeOf_14 (by decide) ?_
      exact W.iret (v := 3) hx hb hr (fun t ht hW => ⟨3, rfl, by simp [zi, c_1, c_2], ht⟩) (fun _ h => nomatch h) dX3_primeOf_38
  · refine lv_iconst (v := 2) hx hb dX3_primeOf_4 (by decide) ?_
    refine lv_goto (tgt := 38) hx hb dX3_primeOf_5 (by decide) ?_
    exact W.iret (v := 2) hx hb hr (fun t ht hW => ⟨2, rfl, by simp [zi, c_1], ht⟩) (fun _ h => nomatch h) dX3_primeOf_38
/-- a piece's numbers f: whether it has a pole, an endless tail, diverges from a to b; its powers at x; whether it mirrors another -/
def p_pole (f : Nat → Int32) : Bool := !decide (f 4 = 0) || !decide (f 5 = 0) || !decide (f 6 = 0)
def p_tail (f : Nat → Int32) : Bool := !decide (f 0 = 0) || !decide (f 1 = 0) || !decide (f 2 = 0) || !decide (f 3 = 0) || !decide (f 4 = 0)
def p_div (f : Nat → Int32) (a b : Int32) : Bool := (p_pole f && !decide (f 7 < a) && !decide (b < f 7)) || ((x_less a || x_less b) && p_tail f)
def p_mir (f g : Nat → Int32) (s : Int32) : Bool := (decide (f 0 = s * gl_sign 0 * g 0) && decide (f 1 = s * gl_sign 1 * g 1) && decide (f 2 = s * gl_sign 2 * g 2) && decide (f 3 = s * gl_sign 3 * g 3) && decide (f 4 = s * gl_sign 4 * g 4) && decide (f 5 = s * gl_sign 5 * g 5) && decide (f 6 = s * gl_sign 6 * g 6)) && (!p_pole f || decide (f 7 = -g 7))
def p_powers (f : Nat → Int32) (x : Int64) : Int64 := (f 0).toInt64 + x * ((f 1).toInt64 + x * ((f 2).toInt64 + x * (f 3).toInt64))
set_option maxHeartbeats 4000000 in
set_option maxRecDepth 100000 in
theorem c_X0_hasPole (l : Launch) (D : va_G) (cI cL cQ : ClassId) (h n : Nat) (f : Nat → Int32) : Met l yX0_hasPole wsX0_hasPole { frames := 0, cells := 0, slots := 0, locals := 0 } (va_Pc [.ref h] (pu_B D (ty3 cI cL cQ) [(h, .inr (0, [.ref n])), (n, .inl (cI, 8, .inl f))])) (vp_Si (fun r => r = zi (p_pole f))) 0 0 (fun _ => False) := by
  refine Met.ofW (cc := cX0_hasPole) (maxL := 1) (ret := (some .boolean)) (by decide) rfl ?_
  intro p e s m args below meth c s₁ B hml hv
  obtain ⟨rfl, hK, hP⟩ := hv
  have hx := B.exec
  have hb := B.bytes
  have hr := B.returns
  have hts := atoms_spec (ws := wsX0_hasPole) B.pre
  have hg : ∀ w ∈ gw, w.before ([.ref h] : List Value).toArray s = true := fun w h => hts w (List.mem_cons_of_mem _ h)
  have hown : s.vm.findClass RX0 = some m.cls := findClass_of_methodNamed B.named
  have hlocks := B.notSynchronized
  have hl := lv_entry ([.ref h]) (n := 1) (Nat.le_of_ble_eq_true rfl)
  rw [lg_entry_eq]
  generalize (lg_sl ([.ref h]) ++ List.replicate (1 - (lg_sl ([.ref h])).length) Slot.unset).toArray = ls at hl ⊢
  have hl : lv_has ls 1 [(0, .ref h)] := hl
  refine lv_aload_n hx hb dX0_hasPole_0 rfl (lv_at hl 0 rfl) ?_
  refine va_get (D := D) (ci := 0) (v := .ref n) (C := RX0) (T := TX0) (N := 1) hx hb hg inX0 hown hK hP 0 rfl rfl 0 (by decide) (hg _ fl_X0_9) (fun _ h9 => h9) rfl dX0_hasPole_1 ?_
  refine lv_iconst (v := 4) hx hb dX0_hasPole_4 (by decide) ?_
  refine va_iald (D := D) (n := 8) (f := f) hx hb hK hP 1 0 rfl rfl (vp_in_nI (show 4 < 8 by decide) (by decide)) dX0_hasPole_5 ?_
  rw [show (4 : Int32).toNatClampNeg = 4 from by decide]
  refine lv_if_ne (tgt := 28) hx hb dX0_hasPole_6 (by decide) (fun c_1 => ?_) (fun c_1 => ?_)
  · refine lv_iconst (v := 1) hx hb dX0_hasPole_28 (by decide) ?_
    refine lv_goto (tgt := 33) hx hb dX0_hasPole_29 (by decide) ?_
    exact W.zret (v := 1) hx hb hr rfl (fun t ht hW => ⟨1, rfl, by simp [zi, p_pole, c_1], ht⟩) (fun _ h => nomatch h) dX0_hasPole_33
  · refine lv_aload_n hx hb dX0_hasPole_9 rfl (lv_at hl 0 rfl) ?_
    refine va_get (D := D) (ci := 0) (v := .ref n) (C := RX0) (T := TX0) (N := 1) hx hb hg inX0 hown hK hP 0 rfl rfl 0 (by decide) (hg _ fl_X0_9) (fun _ h9 => h9) rfl dX0_hasPole_10 ?_
    refine lv_iconst (v := 5) hx hb dX0_hasPole_13 (by decide) ?_
    refine va_iald (D := D) (n := 8) (f := f) hx hb hK hP 1 0 rfl rfl (vp_in_nI (show 5 < 8 by decide) (by decide)) dX0_hasPole_14 ?_
    rw [show (5 : Int32).toNatClampNeg = 5 from by decide]
    refine lv_if_ne (tgt := 28) hx hb dX0_hasPole_15 (by decide) (fun c_2 => ?_) (fun c_2 => ?_)
    · refine lv_iconst (v := 1) hx hb dX0_hasPole_28 (by decide) ?_
      refine lv_goto (tgt := 33) hx hb dX0_hasPole_29 (by decide) ?_
      exact W.zret (v := 1) hx hb hr rfl (fun t ht hW => ⟨1, rfl, by simp [zi, p_pole, c_1, c_2], ht⟩) (fun _ h => nomatch h) dX0_hasPole_33
    · refine lv_aload_n hx hb dX0_hasPole_18 rfl (lv_at hl 0 rfl) ?_
      refine va_get (D := D) (ci := 0) (v := .ref n) (C := RX0) (T := TX0) (N := 1) hx hb hg inX0 hown hK hP 0 rfl rfl 0 (by decide) (hg _ fl_X0_9) (fun _ h9 => h9) rfl dX0_hasPole_19 ?_
      refine lv_bipush (v := 6) hx hb dX0_hasPole_22 (by decide) ?_
      refine va_iald (D := D) (n := 8) (f := f) hx hb hK hP 1 0 rfl rfl (vp_in_nI (show 6 < 8 by decide) (by decide)) dX0_hasPole_24 ?_
      rw [show (6 : Int32).toNatClampNeg = 6 from by decide]
      refine lv_if_eq (tgt := 32) hx hb dX0_hasPole_25 (by decide) (fun c_3 => ?_) (fun c_3 => ?_)
      · refine lv_iconst (v := 0) hx hb dX0_hasPole_32 (by decide) ?_
        exact W.zret (v := 0) hx hb hr rfl (fun t ht hW => ⟨0, rfl, by simp [zi, p_pole, c_1, c_2, c_3], ht⟩) (fun _ h => nomatch h) dX0_hasPole_33
      · refine lv_iconst (v := 1) hx hb dX0_hasPole_28 (by decide) ?_
        refine lv_goto (tgt := 33) hx hb dX0_hasPole_29 (by decide) ?_
        exact W.zret (v := 1) hx hb hr rfl (fun t ht hW => ⟨1, rfl, by simp [zi, p_pole, c_1, c_2, c_3], ht⟩) (fun _ h => nomatch h) dX0_hasPole_33
set_option maxHeartbeats 4000000 in
set_option maxRecDepth 100000 in
theorem c_X0_hasEndlessTail (l : Launch) (D : va_G) (cI cL cQ : ClassId) (h n : Nat) (f : Nat → Int32) : Met l yX0_hasEndlessTail wsX0_hasEndlessTail { frames := 0, cells := 0, slots := 0, locals := 0 } (va_Pc [.ref h] (pu_B D (ty3 cI cL cQ) [(h, .inr (0, [.ref n])), (n, .inl (cI, 8, .inl f))])) (vp_Si (fun r => r = zi (p_tail f))) 0 0 (fun _ => False) := by
  refine Met.ofW (cc := cX0_hasEndlessTail) (maxL := 2) (ret := (some .boolean)) (by decide) rfl ?_
  intro p e s m args below meth c s₁ B hml hv
  obtain ⟨rfl, hK, hP⟩ := hv
  have hx := B.exec
  have hb := B.bytes
  have hr := B.returns
  have hts := atoms_spec (ws := wsX0_hasEndlessTail) B.pre
  have hg : ∀ w ∈ gw, w.before ([.ref h] : List Value).toArray s = true := fun w h => hts w (List.mem_cons_of_mem _ h)
  have hown : s.vm.findClass RX0 = some m.cls := findClass_of_methodNamed B.named
  have hlocks := B.notSynchronized
  have hl := lv_entry ([.ref h]) (n := 2) (Nat.le_of_ble_eq_true rfl)
  rw [lg_entry_eq]
  generalize (lg_sl ([.ref h]) ++ List.replicate (2 - (lg_sl ([.ref h])).length) Slot.unset).toArray = ls at hl ⊢
  have hl : lv_has ls 2 [(0, .ref h)] := hl
  refine lv_iconst (v := 0) hx hb dX0_hasEndlessTail_0 (by decide) ?_
  refine lv_istore_n (lv' := [(1, .int 0), (0, .ref h)]) hx hb dX0_hasEndlessTail_1 rfl hl (by decide) rfl (fun ls hl => ?_)
  refine lv_iload_n hx hb dX0_hasEndlessTail_2 rfl (lv_at hl 0 rfl) ?_
  refine lv_iconst (v := 4) hx hb dX0_hasEndlessTail_3 (by decide) ?_
  refine lv_icmp_gt (tgt := 24) hx hb dX0_hasEndlessTail_4 (by decide) (fun c_1 => absurd c_1 (by decide)) (fun _ => ?_)
  refine lv_aload_n hx hb dX0_hasEndlessTail_7 rfl (lv_at hl 1 rfl) ?_
  refine va_get (D := D) (ci := 0) (v := .ref n) (C := RX0) (T := TX0) (N := 1) hx hb hg inX0 hown hK hP 0 rfl rfl 0 (by decide) (hg _ fl_X0_9) (fun _ h9 => h9) rfl dX0_hasEndlessTail_8 ?_
  refine lv_iload_n hx hb dX0_hasEndlessTail_11 rfl (lv_at hl 0 rfl) ?_
  refine va_iald (D := D) (n := 8) (f := f) hx hb hK hP 1 0 rfl rfl (vp_in_nI (show 0 < 8 by decide) (by decide)) dX0_hasEndlessTail_12 ?_
  rw [show (0 : Int32).toNatClampNeg = 0 from by decide]
  refine lv_if_eq (tgt := 18) hx hb dX0_hasEndlessTail_13 (by decide) (fun c_2 => ?_) (fun c_2 => ?_)
  · refine lv_iinc (v := 1) (lv' := [(1, .int 1), (0, .ref h)]) hx hb dX0_hasEndlessTail_18 hl (k := 0) rfl (by decide) (by decide) rfl (fun ls hl => ?_)
    refine lv_goto (tgt := 2) hx hb dX0_hasEndlessTail_21 (by decide) ?_
    refine lv_iload_n hx hb dX0_hasEndlessTail_2 rfl (lv_at hl 0 rfl) ?_
    refine lv_iconst (v := 4) hx hb dX0_hasEndlessTail_3 (by decide) ?_
    refine lv_icmp_gt (tgt := 24) hx hb dX0_hasEndlessTail_4 (by decide) (fun c_3 => absurd c_3 (by decide)) (fun _ => ?_)
    refine lv_aload_n hx hb dX0_hasEndlessTail_7 rfl (lv_at hl 1 rfl) ?_
    refine va_get (D := D) (ci := 0) (v := .ref n) (C := RX0) (T := TX0) (N := 1) hx hb hg inX0 hown hK hP 0 rfl rfl 0 (by decide) (hg _ fl_X0_9) (fun _ h9 => h9) rfl dX0_hasEndlessTail_8 ?_
    refine lv_iload_n hx hb dX0_hasEndlessTail_11 rfl (lv_at hl 0 rfl) ?_
    refine va_iald (D := D) (n := 8) (f := f) hx hb hK hP 1 0 rfl rfl (vp_in_nI (show 1 < 8 by decide) (by decide)) dX0_hasEndlessTail_12 ?_
    rw [show (1 : Int32).toNatClampNeg = 1 from by decide]
    refine lv_if_eq (tgt := 18) hx hb dX0_hasEndlessTail_13 (by decide) (fun c_4 => ?_) (fun c_4 => ?_)
    · refine lv_iinc (v := 2) (lv' := [(1, .int 2), (0, .ref h)]) hx hb dX0_hasEndlessTail_18 hl (k := 0) rfl (by decide) (by decide) rfl (fun ls hl => ?_)
      refine lv_goto (tgt := 2) hx hb dX0_hasEndlessTail_21 (by decide) ?_
      refine lv_iload_n hx hb dX0_hasEndlessTail_2 rfl (lv_at hl 0 rfl) ?_
      refine lv_iconst (v := 4) hx hb dX0_hasEndlessTail_3 (by decide) ?_
      refine lv_icmp_gt (tgt := 24) hx hb dX0_hasEndlessTail_4 (by decide) (fun c_5 => absurd c_5 (by decide)) (fun _ => ?_)
      refine lv_aload_n hx hb dX0_hasEndlessTail_7 rfl (lv_at hl 1 rfl) ?_
      refine va_get (D := D) (ci := 0) (v := .ref n) (C := RX0) (T := TX0) (N := 1) hx hb hg inX0 hown hK hP 0 rfl rfl 0 (by decide) (hg _ fl_X0_9) (fun _ h9 => h9) rfl dX0_hasEndlessTail_8 ?_
      refine lv_iload_n hx hb dX0_hasEndlessTail_11 rfl (lv_at hl 0 rfl) ?_
      refine va_iald (D := D) (n := 8) (f := f) hx hb hK hP 1 0 rfl rfl (vp_in_nI (show 2 < 8 by decide) (by decide)) dX0_hasEndlessTail_12 ?_
      rw [show (2 : Int32).toNatClampNeg = 2 from by decide]
      refine lv_if_eq (tgt := 18) hx hb dX0_hasEndlessTail_13 (by decide) (fun c_6 => ?_) (fun c_6 => ?_)
      · refine lv_iinc (v := 3) (lv' := [(1, .int 3), (0, .ref h)]) hx hb dX0_hasEndlessTail_18 hl (k := 0) rfl (by decide) (by decide) rfl (fun ls hl => ?_)
        refine lv_goto (tgt := 2) hx hb dX0_hasEndlessTail_21 (by decide) ?_
        refine lv_iload_n hx hb dX0_hasEndlessTail_2 rfl (lv_at hl 0 rfl) ?_
        refine lv_iconst (v := 4) hx hb dX0_hasEndlessTail_3 (by decide) ?_
        refine lv_icmp_gt (tgt := 24) hx hb dX0_hasEndlessTail_4 (by decide) (fun c_7 => absurd c_7 (by decide)) (fun _ => ?_)
        refine lv_aload_n hx hb dX0_hasEndlessTail_7 rfl (lv_at hl 1 rfl) ?_
        refine va_get (D := D) (ci := 0) (v := .ref n) (C := RX0) (T := TX0) (N := 1) hx hb hg inX0 hown hK hP 0 rfl rfl 0 (by decide) (hg _ fl_X0_9) (fun _ h9 => h9) rfl dX0_hasEndlessTail_8 ?_
        refine lv_iload_n hx hb dX0_hasEndlessTail_11 rfl (lv_at hl 0 rfl) ?_
        refine va_iald (D := D) (n := 8) (f := f) hx hb hK hP 1 0 rfl rfl (vp_in_nI (show 3 < 8 by decide) (by decide)) dX0_hasEndlessTail_12 ?_
        rw [show (3 : Int32).toNatClampNeg = 3 from by decide]
        refine lv_if_eq (tgt := 18) hx hb dX0_hasEndlessTail_13 (by decide) (fun c_8 => ?_) (fun c_8 => ?_)
        · refine lv_iinc (v := 4) (lv' := [(1, .int 4), (0, .ref h)]) hx hb dX0_hasEndlessTail_18 hl (k := 0) rfl (by decide) (by decide) rfl (fun ls hl => ?_)
          refine lv_goto (tgt := 2) hx hb dX0_hasEndlessTail_21 (by decide) ?_
          refine lv_iload_n hx hb dX0_hasEndlessTail_2 rfl (lv_at hl 0 rfl) ?_
          refine lv_iconst (v := 4) hx hb dX0_hasEndlessTail_3 (by decide) ?_
          refine lv_icmp_gt (tgt := 24) hx hb dX0_hasEndlessTail_4 (by decide) (fun c_9 => absurd c_9 (by decide)) (fun _ => ?_)
          refine lv_aload_n hx hb dX0_hasEndlessTail_7 rfl (lv_at hl 1 rfl) ?_
          refine va_get (D := D) (ci := 0) (v := .ref n) (C := RX0) (T := TX0) (N := 1) hx hb hg inX0 hown hK hP 0 rfl rfl 0 (by decide) (hg _ fl_X0_9) (fun _ h9 => h9) rfl dX0_hasEndlessTail_8 ?_
          refine lv_iload_n hx hb dX0_hasEndlessTail_11 rfl (lv_at hl 0 rfl) ?_
          refine va_iald (D := D) (n := 8) (f := f) hx hb hK hP 1 0 rfl rfl (vp_in_nI (show 4 < 8 by decide) (by decide)) dX0_hasEndlessTail_12 ?_
          rw [show (4 : Int32).toNatClampNeg = 4 from by decide]
          refine lv_if_eq (tgt := 18) hx hb dX0_hasEndlessTail_13 (by decide) (fun c_10 => ?_) (fun c_10 => ?_)
          · refine lv_iinc (v := 5) (lv' := [(1, .int 5), (0, .ref h)]) hx hb dX0_hasEndlessTail_18 hl (k := 0) rfl (by decide) (by decide) rfl (fun ls hl => ?_)
            refine lv_goto (tgt := 2) hx hb dX0_hasEndlessTail_21 (by decide) ?_
            refine lv_iload_n hx hb dX0_hasEndlessTail_2 rfl (lv_at hl 0 rfl) ?_
            refine lv_iconst (v := 4) hx hb dX0_hasEndlessTail_3 (by decide) ?_
            refine lv_icmp_gt (tgt := 24) hx hb dX0_hasEndlessTail_4 (by decide) (fun _ => ?_) (fun c_11 => absurd c_11 (by decide))
            refine lv_iconst (v := 0) hx hb dX0_hasEndlessTail_24 (by decide) ?_
            exact W.zret (v := 0) hx hb hr rfl (fun t ht hW => ⟨0, rfl, by simp [zi, p_tail, c_2, c_4, c_6, c_8, c_10], ht⟩) (fun _ h => nomatch h) dX0_hasEndlessTail_25
          · refine lv_iconst (v := 1) hx hb dX0_hasEndlessTail_16 (by decide) ?_
            exact W.zret (v := 1) hx hb hr rfl (fun t ht hW => ⟨1, rfl, by simp [zi, p_tail, c_2, c_4, c_6, c_8, c_10], ht⟩) (fun _ h => nomatch h) dX0_hasEndlessTail_17
        · refine lv_iconst (v := 1) hx hb dX0_hasEndlessTail_16 (by decide) ?_
          exact W.zret (v := 1) hx hb hr rfl (fun t ht hW => ⟨1, rfl, by simp [zi, p_tail, c_2, c_4, c_6, c_8], ht⟩) (fun _ h => nomatch h) dX0_hasEndlessTail_17
      · refine lv_iconst (v := 1) hx hb dX0_hasEndlessTail_16 (by decide) ?_
        exact W.zret (v := 1) hx hb hr rfl (fun t ht hW => ⟨1, rfl, by simp [zi, p_tail, c_2, c_4, c_6], ht⟩) (fun _ h => nomatch h) dX0_hasEndlessTail_17
    · refine lv_iconst (v := 1) hx hb dX0_hasEndlessTail_16 (by decide) ?_
      exact W.zret (v := 1) hx hb hr rfl (fun t ht hW => ⟨1, rfl, by simp [zi, p_tail, c_2, c_4], ht⟩) (fun _ h => nomatch h) dX0_hasEndlessTail_17
  · refine lv_iconst (v := 1) hx hb dX0_hasEndlessTail_16 (by decide) ?_
    exact W.zret (v := 1) hx hb hr rfl (fun t ht hW => ⟨1, rfl, by simp [zi, p_tail, c_2], ht⟩) (fun _ h => nomatch h) dX0_hasEndlessTail_17
set_option maxHeartbeats 4000000 in
set_option maxRecDepth 100000 in
theorem c_X0_powersAt (l : Launch) (D : va_G) (cI cL cQ : ClassId) (h n : Nat) (f : Nat → Int32) (x : Int64) : Met l yX0_powersAt wsX0_powersAt { frames := 0, cells := 0, slots := 0, locals := 0 } (va_Pc [.ref h, .long x] (pu_B D (ty3 cI cL cQ) [(h, .inr (0, [.ref n])), (n, .inl (cI, 8, .inl f))])) (vp_Sl (fun r => r = p_powers f x)) 0 0 (fun _ => False) := by
  refine Met.ofW (cc := cX0_powersAt) (maxL := 3) (ret := (some .long)) (by decide) rfl ?_
  intro p e s m args below meth c s₁ B hml hv
  obtain ⟨rfl, hK, hP⟩ := hv
  have hx := B.exec
  have hb := B.bytes
  have hr := B.returns
  have hts := atoms_spec (ws := wsX0_powersAt) B.pre
  have hg : ∀ w ∈ gw, w.before ([.ref h, .long x] : List Value).toArray s = true := fun w h => hts w (List.mem_cons_of_mem _ h)
  have hown : s.vm.findClass RX0 = some m.cls := findClass_of_methodNamed B.named
  have hlocks := B.notSynchronized
  have hl := lv_entry ([.ref h, .long x]) (n := 3) (Nat.le_of_ble_eq_true rfl)
  rw [lg_entry_eq]
  generalize (lg_sl ([.ref h, .long x]) ++ List.replicate (3 - (lg_sl ([.ref h, .long x])).length) Slot.unset).toArray = ls at hl ⊢
  have hl : lv_has ls 3 [(0, .ref h), (1, .long x)] := hl
  refine lv_aload_n hx hb dX0_powersAt_0 rfl (lv_at hl 0 rfl) ?_
  refine va_get (D := D) (ci := 0) (v := .ref n) (C := RX0) (T := TX0) (N := 1) hx hb hg inX0 hown hK hP 0 rfl rfl 0 (by decide) (hg _ fl_X0_9) (fun _ h9 => h9) rfl dX0_powersAt_1 ?_
  refine lv_iconst (v := 0) hx hb dX0_powersAt_4 (by decide) ?_
  refine va_iald (D := D) (n := 8) (f := f) hx hb hK hP 1 0 rfl rfl (vp_in_nI (show 0 < 8 by decide) (by decide)) dX0_powersAt_5 ?_
  rw [show (0 : Int32).toNatClampNeg = 0 from by decide]
  refine lv_i2l hx hb dX0_powersAt_6 rfl ?_
  refine lv_lload_n hx hb dX0_powersAt_7 rfl (lv_at hl 1 rfl) ?_
  refine lv_aload_n hx hb dX0_powersAt_8 rfl (lv_at hl 0 rfl) ?_
  refine va_get (D := D) (ci := 0) (v := .ref n) (C := RX0) (T := TX0) (N := 1) hx hb hg inX0 hown hK hP 0 rfl rfl 0 (by decide) (hg _ fl_X0_9) (fun _ h9 => h9) rfl dX0_powersAt_9 ?_
  refine lv_iconst (v := 1) hx hb dX0_powersAt_12 (by decide) ?_
  refine va_iald (D := D) (n := 8) (f := f) hx hb hK hP 1 0 rfl rfl (vp_in_nI (show 1 < 8 by decide) (by decide)) dX0_powersAt_13 ?_
  rw [show (1 : Int32).toNatClampNeg = 1 from by decide]
  refine lv_i2l hx hb dX0_powersAt_14 rfl ?_
  refine lv_lload_n hx hb dX0_powersAt_15 rfl (lv_at hl 1 rfl) ?_
  refine lv_aload_n hx hb dX0_powersAt_16 rfl (lv_at hl 0 rfl) ?_
  refine va_get (D := D) (ci := 0) (v := .ref n) (C := RX0) (T := TX0) (N := 1) hx hb hg inX0 hown hK hP 0 rfl rfl 0 (by decide) (hg _ fl_X0_9) (fun _ h9 => h9) rfl dX0_powersAt_17 ?_
  refine lv_iconst (v := 2) hx hb dX0_powersAt_20 (by decide) ?_
  refine va_iald (D := D) (n := 8) (f := f) hx hb hK hP 1 0 rfl rfl (vp_in_nI (show 2 < 8 by decide) (by decide)) dX0_powersAt_21 ?_
  rw [show (2 : Int32).toNatClampNeg = 2 from by decide]
  refine lv_i2l hx hb dX0_powersAt_22 rfl ?_
  refine lv_lload_n hx hb dX0_powersAt_23 rfl (lv_at hl 1 rfl) ?_
  refine lv_aload_n hx hb dX0_powersAt_24 rfl (lv_at hl 0 rfl) ?_
  refine va_get (D := D) (ci := 0) (v := .ref n) (C := RX0) (T := TX0) (N := 1) hx hb hg inX0 hown hK hP 0 rfl rfl 0 (by decide) (hg _ fl_X0_9) (fun _ h9 => h9) rfl dX0_powersAt_25 ?_
  refine lv_iconst (v := 3) hx hb dX0_powersAt_28 (by decide) ?_
  refine va_iald (D := D) (n := 8) (f := f) hx hb hK hP 1 0 rfl rfl (vp_in_nI (show 3 < 8 by decide) (by decide)) dX0_powersAt_29 ?_
  rw [show (3 : Int32).toNatClampNeg = 3 from by decide]
  refine lv_i2l hx hb dX0_powersAt_30 rfl ?_
  refine lv_lmul hx hb dX0_powersAt_31 ?_
  refine lv_ladd hx hb dX0_powersAt_32 ?_
  refine lv_lmul hx hb dX0_powersAt_33 ?_
  refine lv_ladd hx hb dX0_powersAt_34 ?_
  refine lv_lmul hx hb dX0_powersAt_35 ?_
  refine lv_ladd hx hb dX0_powersAt_36 ?_
  exact W.lret (v := ((f 0).toInt64 + (x * ((f 1).toInt64 + (x * ((f 2).toInt64 + (x * (f 3).toInt64))))))) hx hb hr (fun t ht hW => ⟨((f 0).toInt64 + (x * ((f 1).toInt64 + (x * ((f 2).toInt64 + (x * (f 3).toInt64)))))), rfl, rfl, ht⟩) (fun _ h => nomatch h) dX0_powersAt_37
set_option maxHeartbeats 4000000 in
set_option maxRecDepth 100000 in
theorem c_X0_diverges (l : Launch) (A : Nat → Prop) (D : va_G) (cI cL cQ : ClassId) (h n : Nat) (f : Nat → Int32) (a b : Int32) : Met l yX0_diverges wsX0_diverges { frames := 1, cells := 0, slots := 0, locals := 21 } (va_Pc [.ref h, .int a, .int b] (fun U => gl_G A U U.heap ∧ pu_B D (ty3 cI cL cQ) [(h, .inr (0, [.ref n])), (n, .inl (cI, 8, .inl f))] U)) (vp_Si (fun r => r = zi (p_div f a b))) 0 0 (fun _ => False) := by
  refine Met.ofW (cc := cX0_diverges) (maxL := 5) (ret := (some .boolean)) (by decide) rfl ?_
  intro p e s m args below meth c s₁ B hml hv
  obtain ⟨rfl, hG, hK, hP⟩ := hv
  have hx := B.exec
  have hb := B.bytes
  have hr := B.returns
  have hts := atoms_spec (ws := wsX0_diverges) B.pre
  have hg : ∀ w ∈ gw, w.before ([.ref h, .int a, .int b] : List Value).toArray s = true := fun w h => hts w (List.mem_cons_of_mem _ h)
  have hown : s.vm.findClass RX0 = some m.cls := findClass_of_methodNamed B.named
  have hlocks := B.notSynchronized
  have hl := lv_entry ([.ref h, .int a, .int b]) (n := 5) (Nat.le_of_ble_eq_true rfl)
  rw [lg_entry_eq]
  generalize (lg_sl ([.ref h, .int a, .int b]) ++ List.replicate (5 - (lg_sl ([.ref h, .int a, .int b])).length) Slot.unset).toArray = ls at hl ⊢
  have hl : lv_has ls 5 [(0, .ref h), (1, .int a), (2, .int b)] := hl
  have K34 : W p l e (headSpec wsX0_diverges { frames := 1, cells := 0, slots := 0, locals := 21 }).room s m ([.ref h, .int a, .int b] : List Value).toArray below meth c s.heap [] 0 0 (MQ below (vp_Si (fun r => r = zi (p_div f a b))) ([.ref h, .int a, .int b] : List Value).toArray s 0 0 (fun _ => False)) (F0 m 34 ls [.int (zi (p_pole f && !decide (f 7 < a) && !decide (b < f 7)))]) := by
    refine lv_istore_n (lv' := [(3, .int (zi (p_pole f && !decide (f 7 < a) && !decide (b < f 7)))), (0, .ref h), (1, .int a), (2, .int b)]) hx hb dX0_diverges_34 rfl hl (by decide) rfl (fun ls hl => ?_)
    refine lv_iload_n hx hb dX0_diverges_35 rfl (lv_at hl 2 rfl) ?_
    refine vp_callSi (va_Run.run (va_runSN (As := [.int a]) (rest := []) ⟨hx, hb, hml, hown, hg⟩ (c_X2_isEndless l a) ⟨va_cnB 1 hg (gw_C co_X2_isEndless) rfl rfl rfl (hG.1 _ mn_X0_34) (hg _ ini_X2) (by decide +kernel) ⟨Nat.le_of_ble_eq_true rfl, Nat.le_of_ble_eq_true rfl⟩, hg _ sm_X2_isEndless, trivial⟩ ⟨tt_blind, (fun U hU hW => ⟨rfl, trivial⟩)⟩ rfl rfl hl.1 rfl (lv_room (Nat.le_of_ble_eq_true rfl)) dX0_diverges_36 ⟨Nat.le_of_ble_eq_true rfl, Nat.le_of_ble_eq_true rfl⟩)) (fun r_1 hr_1 => ?_)
    subst hr_1
    refine lv_if_ne (tgt := 49) hx hb dX0_diverges_39 (by decide) (fun c_2 => ?_) (fun c_2 => ?_)
    · replace c_2 := zi_n0 c_2
      refine lv_iconst (v := 1) hx hb dX0_diverges_49 (by decide) ?_
      refine lv_goto (tgt := 54) hx hb dX0_diverges_50 (by decide) ?_
      refine lv_istore (lv' := [(4, .int 1), (3, .int (zi (p_pole f && !decide (f 7 < a) && !decide (b < f 7)))), (0, .ref h), (1, .int a), (2, .int b)]) hx hb dX0_diverges_54 hl (by decide) rfl (fun ls hl => ?_)
      refine lv_iload_n hx hb dX0_diverges_56 rfl (lv_at hl 1 rfl) ?_
      refine lv_if_ne (tgt := 72) hx hb dX0_diverges_57 (by decide) (fun c_3 => ?_) (fun c_3 => ?_)
      · replace c_3 := zi_n0 c_3
        refine lv_iconst (v := 1) hx hb dX0_diverges_72 (by decide) ?_
        refine lv_goto (tgt := 77) hx hb dX0_diverges_73 (by decide) ?_
        exact W.zret (v := 1) hx hb hr rfl (fun t ht hW => ⟨1, rfl, by simp [zi, p_div, c_2, c_3], ht⟩) (fun _ h => nomatch h) dX0_diverges_77
      · replace c_3 := zi_0 c_3
        refine lv_iload hx hb dX0_diverges_60 (lv_at hl 0 rfl) ?_
        refine lv_if_eq (tgt := 76) hx hb dX0_diverges_62 (by decide) (fun c_4 => absurd c_4 (by decide)) (fun _ => ?_)
        refine lv_aload_n hx hb dX0_diverges_65 rfl (lv_at hl 2 rfl) ?_
        refine vp_callSi (W.runV (As := []) (rest := []) ⟨hx, hb, hml, hown, hg⟩ (c_X0_hasEndlessTail l D cI cL cQ h n f) (cwV 0 hg (gw_V ml_X0_38 im_X0_hasEndlessTail se_X0_hasEndlessTail ini_X0 co_X0_hasEndlessTail) rfl rfl rfl (by decide +kernel) ⟨Nat.le_of_ble_eq_true rfl, Nat.le_of_ble_eq_true rfl⟩) ⟨pu_B.blind, va_recv hK hP (ci := 0) (q0 := 0) rfl rfl, (fun U hU hW => ⟨rfl, pu_B.at hK hP hU hW⟩)⟩ rfl rfl hl.1 rfl (lv_room (Nat.le_of_ble_eq_true rfl)) dX0_diverges_66 ⟨Nat.le_of_ble_eq_true rfl, Nat.le_of_ble_eq_true rfl⟩) (fun r_5 hr_5 => ?_)
        subst hr_5
        refine lv_if_eq (tgt := 76) hx hb dX0_diverges_69 (by decide) (fun c_6 => ?_) (fun c_6 => ?_)
        · replace c_6 := zi_0 c_6
          refine lv_iconst (v := 0) hx hb dX0_diverges_76 (by decide) ?_
          exact W.zret (v := 0) hx hb hr rfl (fun t ht hW => ⟨0, rfl, by simp [zi, p_div, c_2, c_3, c_6], ht⟩) (fun _ h => nomatch h) dX0_diverges_77
        · replace c_6 := zi_n0 c_6
          refine lv_iconst (v := 1) hx hb dX0_diverges_72 (by decide) ?_
          refine lv_goto (tgt := 77) hx hb dX0_diverges_73 (by decide) ?_
          exact W.zret (v := 1) hx hb hr rfl (fun t ht hW => ⟨1, rfl, by simp [zi, p_div, c_2, c_3, c_6], ht⟩) (fun _ h => nomatch h) dX0_diverges_77
    · replace c_2 := zi_0 c_2
      refine lv_iload_n hx hb dX0_diverges_42 rfl (lv_at hl 3 rfl) ?_
      refine vp_callSi (va_Run.run (va_runSN (As := [.int b]) (rest := []) ⟨hx, hb, hml, hown, hg⟩ (c_X2_isEndless l b) ⟨va_cnB 1 hg (gw_C co_X2_isEndless) rfl rfl rfl (hG.1 _ mn_X0_34) (hg _ ini_X2) (by decide +kernel) ⟨Nat.le_of_ble_eq_true rfl, Nat.le_of_ble_eq_true rfl⟩, hg _ sm_X2_isEndless, trivial⟩ ⟨tt_blind, (fun U hU hW => ⟨rfl, trivial⟩)⟩ rfl rfl hl.1 rfl (lv_room (Nat.le_of_ble_eq_true rfl)) dX0_diverges_43 ⟨Nat.le_of_ble_eq_true rfl, Nat.le_of_ble_eq_true rfl⟩)) (fun r_7 hr_7 => ?_)
      subst hr_7
      refine lv_if_eq (tgt := 53) hx hb dX0_diverges_46 (by decide) (fun c_8 => ?_) (fun c_8 => ?_)
      · replace c_8 := zi_0 c_8
        refine lv_iconst (v := 0) hx hb dX0_diverges_53 (by decide) ?_
        refine lv_istore (lv' := [(4, .int 0), (3, .int (zi (p_pole f && !decide (f 7 < a) && !decide (b < f 7)))), (0, .ref h), (1, .int a), (2, .int b)]) hx hb dX0_diverges_54 hl (by decide) rfl (fun ls hl => ?_)
        refine lv_iload_n hx hb dX0_diverges_56 rfl (lv_at hl 1 rfl) ?_
        refine lv_if_ne (tgt := 72) hx hb dX0_diverges_57 (by decide) (fun c_9 => ?_) (fun c_9 => ?_)
        · replace c_9 := zi_n0 c_9
          refine lv_iconst (v := 1) hx hb dX0_diverges_72 (by decide) ?_
          refine lv_goto (tgt := 77) hx hb dX0_diverges_73 (by decide) ?_
          exact W.zret (v := 1) hx hb hr rfl (fun t ht hW => ⟨1, rfl, by simp [zi, p_div, c_2, c_8, c_9], ht⟩) (fun _ h => nomatch h) dX0_diverges_77
        · replace c_9 := zi_0 c_9
          refine lv_iload hx hb dX0_diverges_60 (lv_at hl 0 rfl) ?_
          refine lv_if_eq (tgt := 76) hx hb dX0_diverges_62 (by decide) (fun _ => ?_) (fun c_10 => absurd c_10 (by decide))
          refine lv_iconst (v := 0) hx hb dX0_diverges_76 (by decide) ?_
          exact W.zret (v := 0) hx hb hr rfl (fun t ht hW => ⟨0, rfl, by simp [zi, p_div, c_2, c_8, c_9], ht⟩) (fun _ h => nomatch h) dX0_diverges_77
      · replace c_8 := zi_n0 c_8
        refine lv_iconst (v := 1) hx hb dX0_diverges_49 (by decide) ?_
        refine lv_goto (tgt := 54) hx hb dX0_diverges_50 (by decide) ?_
        refine lv_istore (lv' := [(4, .int 1), (3, .int (zi (p_pole f && !decide (f 7 < a) && !decide (b < f 7)))), (0, .ref h), (1, .int a), (2, .int b)]) hx hb dX0_diverges_54 hl (by decide) rfl (fun ls hl => ?_)
        refine lv_iload_n hx hb dX0_diverges_56 rfl (lv_at hl 1 rfl) ?_
        refine lv_if_ne (tgt := 72) hx hb dX0_diverges_57 (by decide) (fun c_11 => ?_) (fun c_11 => ?_)
        · replace c_11 := zi_n0 c_11
          refine lv_iconst (v := 1) hx hb dX0_diverges_72 (by decide) ?_
          refine lv_goto (tgt := 77) hx hb dX0_diverges_73 (by decide) ?_
          exact W.zret (v := 1) hx hb hr rfl (fun t ht hW => ⟨1, rfl, by simp [zi, p_div, c_2, c_8, c_11], ht⟩) (fun _ h => nomatch h) dX0_diverges_77
        · replace c_11 := zi_0 c_11
          refine lv_iload hx hb dX0_diverges_60 (lv_at hl 0 rfl) ?_
          refine lv_if_eq (tgt := 76) hx hb dX0_diverges_62 (by decide) (fun c_12 => absurd c_12 (by decide)) (fun _ => ?_)
          refine lv_aload_n hx hb dX0_diverges_65 rfl (lv_at hl 2 rfl) ?_
          refine vp_callSi (W.runV (As := []) (rest := []) ⟨hx, hb, hml, hown, hg⟩ (c_X0_hasEndlessTail l D cI cL cQ h n f) (cwV 0 hg (gw_V ml_X0_38 im_X0_hasEndlessTail se_X0_hasEndlessTail ini_X0 co_X0_hasEndlessTail) rfl rfl rfl (by decide +kernel) ⟨Nat.le_of_ble_eq_true rfl, Nat.le_of_ble_eq_true rfl⟩) ⟨pu_B.blind, va_recv hK hP (ci := 0) (q0 := 0) rfl rfl, (fun U hU hW => ⟨rfl, pu_B.at hK hP hU hW⟩)⟩ rfl rfl hl.1 rfl (lv_room (Nat.le_of_ble_eq_true rfl)) dX0_diverges_66 ⟨Nat.le_of_ble_eq_true rfl, Nat.le_of_ble_eq_true rfl⟩) (fun r_13 hr_13 => ?_)
          subst hr_13
          refine lv_if_eq (tgt := 76) hx hb dX0_diverges_69 (by decide) (fun c_14 => ?_) (fun c_14 => ?_)
          · replace c_14 := zi_0 c_14
            refine lv_iconst (v := 0) hx hb dX0_diverges_76 (by decide) ?_
            exact W.zret (v := 0) hx hb hr rfl (fun t ht hW => ⟨0, rfl, by simp [zi, p_div, c_2, c_8, c_11, c_14], ht⟩) (fun _ h => nomatch h) dX0_diverges_77
          · replace c_14 := zi_n0 c_14
            refine lv_iconst (v := 1) hx hb dX0_diverges_72 (by decide) ?_
            refine lv_goto (tgt := 77) hx hb dX0_diverges_73 (by decide) ?_
            exact W.zret (v := 1) hx hb hr rfl (fun t ht hW => ⟨1, rfl, by simp [zi, p_div, c_2, c_8, c_11, c_14], ht⟩) (fun _ h => nomatch h) dX0_diverges_77
  refine lv_aload_n hx hb dX0_diverges_0 rfl (lv_at hl 0 rfl) ?_
  refine vp_callSi (W.runV (As := []) (rest := []) ⟨hx, hb, hml, hown, hg⟩ (c_X0_hasPole l D cI cL cQ h n f) (cwV 0 hg (gw_V ml_X0_30 im_X0_hasPole se_X0_hasPole ini_X0 co_X0_hasPole) rfl rfl rfl (by decide +kernel) ⟨Nat.le_of_ble_eq_true rfl, Nat.le_of_ble_eq_true rfl⟩) ⟨pu_B.blind, va_recv hK hP (ci := 0) (q0 := 0) rfl rfl, (fun U hU hW => ⟨rfl, pu_B.at hK hP hU hW⟩)⟩ rfl rfl hl.1 rfl (lv_room (Nat.le_of_ble_eq_true rfl)) dX0_diverges_1 ⟨Nat.le_of_ble_eq_true rfl, Nat.le_of_ble_eq_true rfl⟩) (fun r_15 hr_15 => ?_)
  subst hr_15
  refine lv_if_eq (tgt := 33) hx hb dX0_diverges_4 (by decide) (fun c_16 => ?_) (fun c_16 => ?_)
  · replace c_16 := zi_0 c_16
    refine lv_iconst (v := 0) hx hb dX0_diverges_33 (by decide) ?_
    have e9 : zi (p_pole f && !decide (f 7 < a) && !decide (b < f 7)) = 0 := by simp [zi, c_16]
    rw [e9] at K34
    exact K34
  · replace c_16 := zi_n0 c_16
    refine lv_aload_n hx hb dX0_diverges_7 rfl (lv_at hl 0 rfl) ?_
    refine va_get (D := D) (ci := 0) (v := .ref n) (C := RX0) (T := TX0) (N := 1) hx hb hg inX0 hown hK hP 0 rfl rfl 0 (by decide) (hg _ fl_X0_9) (fun _ h9 => h9) rfl dX0_diverges_8 ?_
    refine lv_bipush (v := 7) hx hb dX0_diverges_11 (by decide) ?_
    refine va_iald (D := D) (n := 8) (f := f) hx hb hK hP 1 0 rfl rfl (vp_in_nI (show 7 < 8 by decide) (by decide)) dX0_diverges_13 ?_
    rw [show (7 : Int32).toNatClampNeg = 7 from by decide]
    refine lv_iload_n hx hb dX0_diverges_14 rfl (lv_at hl 1 rfl) ?_
    refine lv_icmp_lt (tgt := 33) hx hb dX0_diverges_15 (by decide) (fun c_17 => ?_) (fun c_17 => ?_)
    · refine lv_iconst (v := 0) hx hb dX0_diverges_33 (by decide) ?_
      have e9 : zi (p_pole f && !decide (f 7 < a) && !decide (b < f 7)) = 0 := by simp [zi, c_16, c_17]
      rw [e9] at K34
      exact K34
    · refine lv_aload_n hx hb dX0_diverges_18 rfl (lv_at hl 0 rfl) ?_
      refine va_get (D := D) (ci := 0) (v := .ref n) (C := RX0) (T := TX0) (N := 1) hx hb hg inX0 hown hK hP 0 rfl rfl 0 (by decide) (hg _ fl_X0_9) (fun _ h9 => h9) rfl dX0_diverges_19 ?_
      refine lv_bipush (v := 7) hx hb dX0_diverges_22 (by decide) ?_
      refine va_iald (D := D) (n := 8) (f := f) hx hb hK hP 1 0 rfl rfl (vp_in_nI (show 7 < 8 by decide) (by decide)) dX0_diverges_24 ?_
      rw [show (7 : Int32).toNatClampNeg = 7 from by decide]
      refine lv_iload_n hx hb dX0_diverges_25 rfl (lv_at hl 2 rfl) ?_
      refine lv_icmp_gt (tgt := 33) hx hb dX0_diverges_26 (by decide) (fun c_18 => ?_) (fun c_18 => ?_)
      · refine lv_iconst (v := 0) hx hb dX0_diverges_33 (by decide) ?_
        have e9 : zi (p_pole f && !decide (f 7 < a) && !decide (b < f 7)) = 0 := by simp [zi, c_16, c_17, c_18]
        rw [e9] at K34
        exact K34
      · refine lv_iconst (v := 1) hx hb dX0_diverges_29 (by decide) ?_
        refine lv_goto (tgt := 34) hx hb dX0_diverges_30 (by decide) ?_
        have e9 : zi (p_pole f && !decide (f 7 < a) && !decide (b < f 7)) = 1 := by simp [zi, c_16, c_17, c_18]
        rw [e9] at K34
        exact K34
