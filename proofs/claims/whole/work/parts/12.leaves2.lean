theorem lc_eq {x y : Int64} : lg_cmp x y = 0 ↔ x = y := by
  unfold lg_cmp
  by_cases h : x > y
  · have : x ≠ y := fun e => by rw [e] at h; exact absurd h (by simp [Int64.lt_iff_toInt_lt])
    simp [h, this]
  · by_cases e : x = y <;> simp [h, e]
theorem lc_ge {x y : Int64} : 0 ≤ lg_cmp x y ↔ y ≤ x := lg_cmp_ge x y
theorem lc_lt {x y : Int64} : lg_cmp x y < 0 ↔ x < y := by
  have h := @lc_ge x y
  rw [Int32.le_iff_toInt_le, Int64.le_iff_toInt_le] at h
  rw [Int32.lt_iff_toInt_lt, Int64.lt_iff_toInt_lt]
  omega
def x_cnt (pl : Nat → Int32) (x : Int32) : Nat → Nat
  | 0 => 0
  | n + 1 => if x < pl n then x_cnt pl x n else x_cnt pl x n + 1
theorem x_cnt_le (pl : Nat → Int32) (x : Int32) : ∀ n, x_cnt pl x n ≤ n
  | 0 => Nat.le_refl 0
  | n + 1 => by
    have := x_cnt_le pl x n
    unfold x_cnt
    split <;> omega
def x_cut (pl : Nat → Int32) (x : Int32) : Nat → Bool
  | 0 => false
  | n + 1 => x_cut pl x n || decide (pl n = x)
theorem x_cut_iff {pl : Nat → Int32} {x : Int32} : ∀ {n : Nat}, x_cut pl x n = true ↔ ∃ j, j < n ∧ pl j = x
  | 0 => by simp [x_cut]
  | n + 1 => by
    rw [x_cut, Bool.or_eq_true, decide_eq_true_eq, x_cut_iff]
    constructor
    · rintro (⟨j, h1, h2⟩ | h)
      · exact ⟨j, by omega, h2⟩
      · exact ⟨n, by omega, h⟩
    · rintro ⟨j, h1, h2⟩
      rcases Nat.lt_or_ge j n with h | h
      · exact Or.inl ⟨j, h, h2⟩
      · exact Or.inr (by rw [← h2, show j = n by omega])
def x_left (pl : Nat → Int32) (k : Nat) : Int32 := if k = 0 then -9 else pl (k - 1)
def x_right (pl : Nat → Int32) (cnt k : Nat) : Int32 := if k < cnt then pl k else 9
set_option maxHeartbeats 4000000 in
set_option maxRecDepth 100000 in
theorem c_X2_pieceAt (l : Launch) (D : va_G) (cI cL cQ : ClassId) (h q1 : Nat) (fs : List Value) (hf0 : fs[0]? = some (.ref q1)) (cnt : Nat) (hf3 : fs[3]? = some (.int (nI cnt))) (hc : cnt ≤ 3) (pl : Nat → Int32) (x : Int32) : Met l yX2_pieceAt wsX2_pieceAt { frames := 0, cells := 0, slots := 0, locals := 0 } (va_Pc [.ref h, .int x] (pu_B D (ty3 cI cL cQ) [(h, .inr (2, fs)), (q1, .inl (cI, 3, .inl pl))])) (vp_Si (fun r => r = nI (x_cnt pl x cnt))) 0 0 (fun _ => False) := by
  refine Met.ofW (cc := cX2_pieceAt) (maxL := 4) (ret := (some .int)) (by decide) rfl ?_
  intro p e s m args below meth c s₁ B hml hv
  obtain ⟨rfl, hK, hP⟩ := hv
  have hx := B.exec
  have hb := B.bytes
  have hr := B.returns
  have hts := atoms_spec (ws := wsX2_pieceAt) B.pre
  have hg : ∀ w ∈ gw, w.before ([.ref h, .int x] : List Value).toArray s = true := fun w h => hts w (List.mem_cons_of_mem _ h)
  have hown : s.vm.findClass RX2 = some m.cls := findClass_of_methodNamed B.named
  have hlocks := B.notSynchronized
  have hl := lv_entry ([.ref h, .int x]) (n := 4) (Nat.le_of_ble_eq_true rfl)
  rw [lg_entry_eq]
  generalize (lg_sl ([.ref h, .int x]) ++ List.replicate (4 - (lg_sl ([.ref h, .int x])).length) Slot.unset).toArray = ls at hl ⊢
  have hl : lv_has ls 4 [(0, .ref h), (1, .int x)] := hl
  refine lv_iconst (v := 0) hx hb dX2_pieceAt_0 (by decide) ?_
  refine lv_istore_n (lv' := [(2, .int 0), (0, .ref h), (1, .int x)]) hx hb dX2_pieceAt_1 rfl hl (by decide) rfl (fun ls hl => ?_)
  refine lv_iconst (v := 0) hx hb dX2_pieceAt_2 (by decide) ?_
  refine lv_istore_n (lv' := [(3, .int 0), (2, .int 0), (0, .ref h), (1, .int x)]) hx hb dX2_pieceAt_3 rfl hl (by decide) rfl (fun ls hl => ?_)
  have L4 : ∀ (n9 : Nat) (i : Nat) (k : Nat), (i ≤ cnt) → (k = x_cnt pl x i) → (cnt - i < n9) → ∀ (ls : Array Slot), lv_has ls 4 [(3, .int (nI i)), (2, .int (nI k)), (0, .ref h), (1, .int x)] → W p l e (headSpec wsX2_pieceAt { frames := 0, cells := 0, slots := 0, locals := 0 }).room s m ([.ref h, .int x] : List Value).toArray below meth c s.heap [] 0 0 (MQ below (vp_Si (fun r => r = nI (x_cnt pl x cnt))) ([.ref h, .int x] : List Value).toArray s 0 0 (fun _ => False)) (F0 m 4 ls []) := by
    intro n4
    induction n4 with
    | zero => intro i k hi hk h9; exact absurd h9 (by omega)
    | succ n4 ih4 =>
      intro i k hi hk h9 ls hl
      refine lv_iload_n hx hb dX2_pieceAt_4 rfl (lv_at hl 0 rfl) ?_
      refine lv_aload_n hx hb dX2_pieceAt_5 rfl (lv_at hl 2 rfl) ?_
      refine va_get (D := D) (ci := 2) (v := .int (nI cnt)) (C := RX2) (T := TX2) (N := 5) hx hb hg inX2 hown hK hP 0 rfl rfl 3 (by decide) (hg _ fl_X2_26) (fun _ h9 => h9) hf3 dX2_pieceAt_6 ?_
      refine lv_icmp_ge (tgt := 31) hx hb dX2_pieceAt_9 (by decide) (fun c_1 => ?_) (fun c_1 => ?_)
      · replace c_1 : cnt ≤ i := (nI_leI (a := cnt) (b := i) (by omega) (by omega)).mp c_1
        refine lv_iload_n hx hb dX2_pieceAt_31 rfl (lv_at hl 1 rfl) ?_
        exact W.iret (v := nI k) hx hb hr (fun t ht hW => ⟨(nI k), rfl, by rw [hk, show i = cnt by omega], ht⟩) (fun _ h => nomatch h) dX2_pieceAt_32
      · replace c_1 : ¬ cnt ≤ i := fun h => c_1 ((nI_leI (a := cnt) (b := i) (by omega) (by omega)).mpr h)
        refine lv_aload_n hx hb dX2_pieceAt_12 rfl (lv_at hl 2 rfl) ?_
        refine va_get (D := D) (ci := 2) (v := .ref q1) (C := RX2) (T := TX2) (N := 5) hx hb hg inX2 hown hK hP 0 rfl rfl 0 (by decide) (hg _ fl_X2_9) (fun _ h9 => h9) hf0 dX2_pieceAt_13 ?_
        refine lv_iload_n hx hb dX2_pieceAt_16 rfl (lv_at hl 0 rfl) ?_
        refine va_iald (D := D) (n := 3) (f := pl) hx hb hK hP 1 0 rfl rfl (vp_in_nI (show i < 3 by omega) (by decide)) dX2_pieceAt_17 ?_
        rw [nI_clamp (show i < 2 ^ 31 by omega)]
        refine lv_iload_n hx hb dX2_pieceAt_18 rfl (lv_at hl 3 rfl) ?_
        refine lv_icmp_gt (tgt := 25) hx hb dX2_pieceAt_19 (by decide) (fun c_2 => ?_) (fun c_2 => ?_)
        · refine lv_iinc (v := nI (i + 1)) (lv' := [(3, .int (nI (i + 1))), (2, .int (nI k)), (0, .ref h), (1, .int x)]) hx hb dX2_pieceAt_25 hl (k := 0) rfl (nI_1 i) (by decide) rfl (fun ls hl => ?_)
          refine lv_goto (tgt := 4) hx hb dX2_pieceAt_28 (by decide) ?_
          exact ih4 (i + 1) k (by omega) (by simp [x_cnt, hk, c_2])  (by omega) ls (lv_sub hl [0, 1, 2, 3] rfl)
        · refine lv_iinc (v := nI (k + 1)) (lv' := [(2, .int (nI (k + 1))), (3, .int (nI i)), (0, .ref h), (1, .int x)]) hx hb dX2_pieceAt_22 hl (k := 1) rfl (nI_1 k) (by decide) rfl (fun ls hl => ?_)
          refine lv_iinc (v := nI (i + 1)) (lv' := [(3, .int (nI (i + 1))), (2, .int (nI (k + 1))), (0, .ref h), (1, .int x)]) hx hb dX2_pieceAt_25 hl (k := 1) rfl (nI_1 i) (by decide) rfl (fun ls hl => ?_)
          refine lv_goto (tgt := 4) hx hb dX2_pieceAt_28 (by decide) ?_
          exact ih4 (i + 1) (k + 1) (by omega) (by simp [x_cnt, hk, c_2])  (by omega) ls (lv_sub hl [0, 1, 2, 3] rfl)
  exact L4 ((cnt - 0) + 1) 0 0 (Nat.zero_le _) (rfl)  (Nat.lt_succ_self _) ls (lv_sub hl [0, 1, 2, 3] rfl)
set_option maxHeartbeats 4000000 in
set_option maxRecDepth 100000 in
theorem c_X2_isCut (l : Launch) (D : va_G) (cI cL cQ : ClassId) (h q1 : Nat) (fs : List Value) (hf0 : fs[0]? = some (.ref q1)) (cnt : Nat) (hf3 : fs[3]? = some (.int (nI cnt))) (hc : cnt ≤ 3) (pl : Nat → Int32) (x : Int32) : Met l yX2_isCut wsX2_isCut { frames := 0, cells := 0, slots := 0, locals := 0 } (va_Pc [.ref h, .int x] (pu_B D (ty3 cI cL cQ) [(h, .inr (2, fs)), (q1, .inl (cI, 3, .inl pl))])) (vp_Si (fun r => r = zi (x_cut pl x cnt))) 0 0 (fun _ => False) := by
  refine Met.ofW (cc := cX2_isCut) (maxL := 3) (ret := (some .boolean)) (by decide) rfl ?_
  intro p e s m args below meth c s₁ B hml hv
  obtain ⟨rfl, hK, hP⟩ := hv
  have hx := B.exec
  have hb := B.bytes
  have hr := B.returns
  have hts := atoms_spec (ws := wsX2_isCut) B.pre
  have hg : ∀ w ∈ gw, w.before ([.ref h, .int x] : List Value).toArray s = true := fun w h => hts w (List.mem_cons_of_mem _ h)
  have hown : s.vm.findClass RX2 = some m.cls := findClass_of_methodNamed B.named
  have hlocks := B.notSynchronized
  have hl := lv_entry ([.ref h, .int x]) (n := 3) (Nat.le_of_ble_eq_true rfl)
  rw [lg_entry_eq]
  generalize (lg_sl ([.ref h, .int x]) ++ List.replicate (3 - (lg_sl ([.ref h, .int x])).length) Slot.unset).toArray = ls at hl ⊢
  have hl : lv_has ls 3 [(0, .ref h), (1, .int x)] := hl
  refine lv_iconst (v := 0) hx hb dX2_isCut_0 (by decide) ?_
  refine lv_istore_n (lv' := [(2, .int 0), (0, .ref h), (1, .int x)]) hx hb dX2_isCut_1 rfl hl (by decide) rfl (fun ls hl => ?_)
  have L2 : ∀ (n9 : Nat) (i : Nat), (i ≤ cnt) → (x_cut pl x i = false) → (cnt - i < n9) → ∀ (ls : Array Slot), lv_has ls 3 [(2, .int (nI i)), (0, .ref h), (1, .int x)] → W p l e (headSpec wsX2_isCut { frames := 0, cells := 0, slots := 0, locals := 0 }).room s m ([.ref h, .int x] : List Value).toArray below meth c s.heap [] 0 0 (MQ below (vp_Si (fun r => r = zi (x_cut pl x cnt))) ([.ref h, .int x] : List Value).toArray s 0 0 (fun _ => False)) (F0 m 2 ls []) := by
    intro n2
    induction n2 with
    | zero => intro i hi hn h9; exact absurd h9 (by omega)
    | succ n2 ih2 =>
      intro i hi hn h9 ls hl
      refine lv_iload_n hx hb dX2_isCut_2 rfl (lv_at hl 0 rfl) ?_
      refine lv_aload_n hx hb dX2_isCut_3 rfl (lv_at hl 1 rfl) ?_
      refine va_get (D := D) (ci := 2) (v := .int (nI cnt)) (C := RX2) (T := TX2) (N := 5) hx hb hg inX2 hown hK hP 0 rfl rfl 3 (by decide) (hg _ fl_X2_26) (fun _ h9 => h9) hf3 dX2_isCut_4 ?_
      refine lv_icmp_ge (tgt := 28) hx hb dX2_isCut_7 (by decide) (fun c_1 => ?_) (fun c_1 => ?_)
      · replace c_1 : cnt ≤ i := (nI_leI (a := cnt) (b := i) (by omega) (by omega)).mp c_1
        refine lv_iconst (v := 0) hx hb dX2_isCut_28 (by decide) ?_
        exact W.zret (v := 0) hx hb hr rfl (fun t ht hW => ⟨0, rfl, by rw [show cnt = i by omega, hn]; rfl, ht⟩) (fun _ h => nomatch h) dX2_isCut_29
      · replace c_1 : ¬ cnt ≤ i := fun h => c_1 ((nI_leI (a := cnt) (b := i) (by omega) (by omega)).mpr h)
        refine lv_aload_n hx hb dX2_isCut_10 rfl (lv_at hl 1 rfl) ?_
        refine va_get (D := D) (ci := 2) (v := .ref q1) (C := RX2) (T := TX2) (N := 5) hx hb hg inX2 hown hK hP 0 rfl rfl 0 (by decide) (hg _ fl_X2_9) (fun _ h9 => h9) hf0 dX2_isCut_11 ?_
        refine lv_iload_n hx hb dX2_isCut_14 rfl (lv_at hl 0 rfl) ?_
        refine va_iald (D := D) (n := 3) (f := pl) hx hb hK hP 1 0 rfl rfl (vp_in_nI (show i < 3 by omega) (by decide)) dX2_isCut_15 ?_
        rw [nI_clamp (show i < 2 ^ 31 by omega)]
        refine lv_iload_n hx hb dX2_isCut_16 rfl (lv_at hl 2 rfl) ?_
        refine lv_icmp_ne (tgt := 22) hx hb dX2_isCut_17 (by decide) (fun c_2 => ?_) (fun c_2 => ?_)
        · refine lv_iinc (v := nI (i + 1)) (lv' := [(2, .int (nI (i + 1))), (0, .ref h), (1, .int x)]) hx hb dX2_isCut_22 hl (k := 0) rfl (nI_1 i) (by decide) rfl (fun ls hl => ?_)
          refine lv_goto (tgt := 2) hx hb dX2_isCut_25 (by decide) ?_
          exact ih2 (i + 1) (by omega) (by simp [x_cut, hn, c_2])  (by omega) ls (lv_sub hl [0, 1, 2] rfl)
        · refine lv_iconst (v := 1) hx hb dX2_isCut_20 (by decide) ?_
          exact W.zret (v := 1) hx hb hr rfl (fun t ht hW => ⟨1, rfl, by rw [x_cut_iff.mpr ⟨i, by omega, c_2⟩]; rfl, ht⟩) (fun _ h => nomatch h) dX2_isCut_21
  exact L2 ((cnt - 0) + 1) 0 (Nat.zero_le _) (rfl)  (Nat.lt_succ_self _) ls (lv_sub hl [0, 1, 2] rfl)
set_option maxHeartbeats 4000000 in
set_option maxRecDepth 100000 in
theorem c_X2_leftBorder (l : Launch) (D : va_G) (cI cL cQ : ClassId) (h q1 : Nat) (fs : List Value) (hf0 : fs[0]? = some (.ref q1)) (cnt : Nat) (hf3 : fs[3]? = some (.int (nI cnt))) (hc : cnt ≤ 3) (pl : Nat → Int32) (k : Nat) (hk : k ≤ cnt) : Met l yX2_leftBorder wsX2_leftBorder { frames := 0, cells := 0, slots := 0, locals := 0 } (va_Pc [.ref h, .int (nI k)] (pu_B D (ty3 cI cL cQ) [(h, .inr (2, fs)), (q1, .inl (cI, 3, .inl pl))])) (vp_Si (fun r => r = x_left pl k)) 0 0 (fun _ => False) := by
  refine Met.ofW (cc := cX2_leftBorder) (maxL := 2) (ret := (some .int)) (by decide) rfl ?_
  intro p e s m args below meth c s₁ B hml hv
  obtain ⟨rfl, hK, hP⟩ := hv
  have hx := B.exec
  have hb := B.bytes
  have hr := B.returns
  have hts := atoms_spec (ws := wsX2_leftBorder) B.pre
  have hg : ∀ w ∈ gw, w.before ([.ref h, .int (nI k)] : List Value).toArray s = true := fun w h => hts w (List.mem_cons_of_mem _ h)
  have hown : s.vm.findClass RX2 = some m.cls := findClass_of_methodNamed B.named
  have hlocks := B.notSynchronized
  have hl := lv_entry ([.ref h, .int (nI k)]) (n := 2) (Nat.le_of_ble_eq_true rfl)
  rw [lg_entry_eq]
  generalize (lg_sl ([.ref h, .int (nI k)]) ++ List.replicate (2 - (lg_sl ([.ref h, .int (nI k)])).length) Slot.unset).toArray = ls at hl ⊢
  have hl : lv_has ls 2 [(0, .ref h), (1, .int (nI k))] := hl
  refine lv_iload_n hx hb dX2_leftBorder_0 rfl (lv_at hl 1 rfl) ?_
  refine lv_if_le (tgt := 23) hx hb dX2_leftBorder_1 (by decide) (fun c_1 => ?_) (fun c_1 => ?_)
  · replace c_1 : k ≤ 0 := (nI_leI (a := k) (b := 0) (by omega) (by omega)).mp c_1
    refine lv_bipush (v := (-9)) hx hb dX2_leftBorder_23 (by decide) ?_
    exact W.iret (v := (-9)) hx hb hr (fun t ht hW => ⟨(-9), rfl, by simp [x_left]; omega, ht⟩) (fun _ h => nomatch h) dX2_leftBorder_25
  · replace c_1 : ¬ k ≤ 0 := fun h => c_1 ((nI_leI (a := k) (b := 0) (by omega) (by omega)).mpr h)
    refine lv_iload_n hx hb dX2_leftBorder_4 rfl (lv_at hl 1 rfl) ?_
    refine lv_aload_n hx hb dX2_leftBorder_5 rfl (lv_at hl 0 rfl) ?_
    refine va_get (D := D) (ci := 2) (v := .int (nI cnt)) (C := RX2) (T := TX2) (N := 5) hx hb hg inX2 hown hK hP 0 rfl rfl 3 (by decide) (hg _ fl_X2_26) (fun _ h9 => h9) hf3 dX2_leftBorder_6 ?_
    refine lv_icmp_gt (tgt := 23) hx hb dX2_leftBorder_9 (by decide) (fun c_2 => ?_) (fun c_2 => ?_)
    · replace c_2 : cnt < k := (nI_ltI (a := cnt) (b := k) (by omega) (by omega)).mp c_2
      refine lv_bipush (v := (-9)) hx hb dX2_leftBorder_23 (by decide) ?_
      exact W.iret (v := (-9)) hx hb hr (fun t ht hW => ⟨(-9), rfl, by simp [x_left]; omega, ht⟩) (fun _ h => nomatch h) dX2_leftBorder_25
    · replace c_2 : ¬ cnt < k := fun h => c_2 ((nI_ltI (a := cnt) (b := k) (by omega) (by omega)).mpr h)
      refine lv_aload_n hx hb dX2_leftBorder_12 rfl (lv_at hl 0 rfl) ?_
      refine va_get (D := D) (ci := 2) (v := .ref q1) (C := RX2) (T := TX2) (N := 5) hx hb hg inX2 hown hK hP 0 rfl rfl 0 (by decide) (hg _ fl_X2_9) (fun _ h9 => h9) hf0 dX2_leftBorder_13 ?_
      refine lv_iload_n hx hb dX2_leftBorder_16 rfl (lv_at hl 1 rfl) ?_
      refine lv_iconst (v := 1) hx hb dX2_leftBorder_17 (by decide) ?_
      refine lv_isub hx hb dX2_leftBorder_18 ?_
      rw [show (nI k) - (1 : Int32) = nI (k - 1) from pk_sub (a := k) (b := 1) (by omega)]
      refine va_iald (D := D) (n := 3) (f := pl) hx hb hK hP 1 0 rfl rfl (vp_in_nI (show (k - 1) < 3 by omega) (by decide)) dX2_leftBorder_19 ?_
      rw [nI_clamp (show (k - 1) < 2 ^ 31 by omega)]
      refine lv_goto (tgt := 25) hx hb dX2_leftBorder_20 (by decide) ?_
      exact W.iret (v := (pl (k - 1))) hx hb hr (fun t ht hW => ⟨(pl (k - 1)), rfl, by rw [x_left, if_neg (by omega)], ht⟩) (fun _ h => nomatch h) dX2_leftBorder_25
set_option maxHeartbeats 4000000 in
set_option maxRecDepth 100000 in
theorem c_X2_rightBorder (l : Launch) (D : va_G) (cI cL cQ : ClassId) (h q1 : Nat) (fs : List Value) (hf0 : fs[0]? = some (.ref q1)) (cnt : Nat) (hf3 : fs[3]? = some (.int (nI cnt))) (hc : cnt ≤ 3) (pl : Nat → Int32) (k : Nat) (hk : k ≤ cnt) : Met l yX2_rightBorder wsX2_rightBorder { frames := 0, cells := 0, slots := 0, locals := 0 } (va_Pc [.ref h, .int (nI k)] (pu_B D (ty3 cI cL cQ) [(h, .inr (2, fs)), (q1, .inl (cI, 3, .inl pl))])) (vp_Si (fun r => r = x_right pl cnt k)) 0 0 (fun _ => False) := by
  refine Met.ofW (cc := cX2_rightBorder) (maxL := 2) (ret := (some .int)) (by decide) rfl ?_
  intro p e s m args below meth c s₁ B hml hv
  obtain ⟨rfl, hK, hP⟩ := hv
  have hx := B.exec
  have hb := B.bytes
  have hr := B.returns
  have hts := atoms_spec (ws := wsX2_rightBorder) B.pre
  have hg : ∀ w ∈ gw, w.before ([.ref h, .int (nI k)] : List Value).toArray s = true := fun w h => hts w (List.mem_cons_of_mem _ h)
  have hown : s.vm.findClass RX2 = some m.cls := findClass_of_methodNamed B.named
  have hlocks := B.notSynchronized
  have hl := lv_entry ([.ref h, .int (nI k)]) (n := 2) (Nat.le_of_ble_eq_true rfl)
  rw [lg_entry_eq]
  generalize (lg_sl ([.ref h, .int (nI k)]) ++ List.replicate (2 - (lg_sl ([.ref h, .int (nI k)])).length) Slot.unset).toArray = ls at hl ⊢
  have hl : lv_has ls 2 [(0, .ref h), (1, .int (nI k))] := hl
  refine lv_iload_n hx hb dX2_rightBorder_0 rfl (lv_at hl 1 rfl) ?_
  refine lv_if_lt (tgt := 21) hx hb dX2_rightBorder_1 (by decide) (fun c_1 => ?_) (fun c_1 => ?_)
  · replace c_1 : k < 0 := (nI_ltI (a := k) (b := 0) (by omega) (by omega)).mp c_1
    refine lv_bipush (v := 9) hx hb dX2_rightBorder_21 (by decide) ?_
    exact W.iret (v := 9) hx hb hr (fun t ht hW => ⟨9, rfl, by simp [x_right]; omega, ht⟩) (fun _ h => nomatch h) dX2_rightBorder_23
  · replace c_1 : ¬ k < 0 := fun h => c_1 ((nI_ltI (a := k) (b := 0) (by omega) (by omega)).mpr h)
    refine lv_iload_n hx hb dX2_rightBorder_4 rfl (lv_at hl 1 rfl) ?_
    refine lv_aload_n hx hb dX2_rightBorder_5 rfl (lv_at hl 0 rfl) ?_
    refine va_get (D := D) (ci := 2) (v := .int (nI cnt)) (C := RX2) (T := TX2) (N := 5) hx hb hg inX2 hown hK hP 0 rfl rfl 3 (by decide) (hg _ fl_X2_26) (fun _ h9 => h9) hf3 dX2_rightBorder_6 ?_
    refine lv_icmp_ge (tgt := 21) hx hb dX2_rightBorder_9 (by decide) (fun c_2 => ?_) (fun c_2 => ?_)
    · replace c_2 : cnt ≤ k := (nI_leI (a := cnt) (b := k) (by omega) (by omega)).mp c_2
      refine lv_bipush (v := 9) hx hb dX2_rightBorder_21 (by decide) ?_
      exact W.iret (v := 9) hx hb hr (fun t ht hW => ⟨9, rfl, by simp [x_right]; omega, ht⟩) (fun _ h => nomatch h) dX2_rightBorder_23
    · replace c_2 : ¬ cnt ≤ k := fun h => c_2 ((nI_leI (a := cnt) (b := k) (by omega) (by omega)).mpr h)
      refine lv_aload_n hx hb dX2_rightBorder_12 rfl (lv_at hl 0 rfl) ?_
      refine va_get (D := D) (ci := 2) (v := .ref q1) (C := RX2) (T := TX2) (N := 5) hx hb hg inX2 hown hK hP 0 rfl rfl 0 (by decide) (hg _ fl_X2_9) (fun _ h9 => h9) hf0 dX2_rightBorder_13 ?_
      refine lv_iload_n hx hb dX2_rightBorder_16 rfl (lv_at hl 1 rfl) ?_
      refine va_iald (D := D) (n := 3) (f := pl) hx hb hK hP 1 0 rfl rfl (vp_in_nI (show k < 3 by omega) (by decide)) dX2_rightBorder_17 ?_
      rw [nI_clamp (show k < 2 ^ 31 by omega)]
      refine lv_goto (tgt := 23) hx hb dX2_rightBorder_18 (by decide) ?_
      exact W.iret (v := (pl k)) hx hb hr (fun t ht hW => ⟨(pl k), rfl, by rw [x_right, if_pos (by omega)], ht⟩) (fun _ h => nomatch h) dX2_rightBorder_23
def x_gcd (a b : Int64) : Int64 := if 0 < gd_it 100 a b then gd_it 100 a b else -gd_it 100 a b
def x_low (a b : Int64) (part : Int32) : Int64 := if x_gcd a b = 0 then 0 else (if part = 0 then a else b) / (if b < 0 then -x_gcd a b else x_gcd a b)
set_option maxHeartbeats 4000000 in
set_option maxRecDepth 100000 in
theorem c_X2_greatestDivisor (l : Launch) (a b : Int64) : Met l yX2_greatestDivisor wsX2_greatestDivisor { frames := 1, cells := 0, slots := 0, locals := 21 } (va_Pc [.long a, .long b] (fun _ => True)) (vp_Sl (fun r => r = x_gcd a b)) 0 0 (fun _ => False) := by
  refine Met.ofW (cc := cX2_greatestDivisor) (maxL := 11) (ret := (some .long)) (by decide) rfl ?_
  intro p e s m args below meth c s₁ B hml hv
  obtain ⟨rfl, -⟩ := hv
  have hx := B.exec
  have hb := B.bytes
  have hr := B.returns
  have hts := atoms_spec (ws := wsX2_greatestDivisor) B.pre
  have hg : ∀ w ∈ gw, w.before ([.long a, .long b] : List Value).toArray s = true := fun w h => hts w (List.mem_cons_of_mem _ h)
  have hown : s.vm.findClass RX2 = some m.cls := findClass_of_methodNamed B.named
  have hlocks := B.notSynchronized
  have hl := lv_entry ([.long a, .long b]) (n := 11) (Nat.le_of_ble_eq_true rfl)
  rw [lg_entry_eq]
  generalize (lg_sl ([.long a, .long b]) ++ List.replicate (11 - (lg_sl ([.long a, .long b])).length) Slot.unset).toArray = ls at hl ⊢
  have hl : lv_has ls 11 [(0, .long a), (2, .long b)] := hl
  refine lv_lload_n hx hb dX2_greatestDivisor_0 rfl (lv_at hl 0 rfl) ?_
  refine lv_lstore (lv' := [(4, .long a), (0, .long a), (2, .long b)]) hx hb dX2_greatestDivisor_1 hl (by decide) rfl (fun ls hl => ?_)
  refine lv_lload_n hx hb dX2_greatestDivisor_3 rfl (lv_at hl 2 rfl) ?_
  refine lv_lstore (lv' := [(6, .long b), (4, .long a), (0, .long a), (2, .long b)]) hx hb dX2_greatestDivisor_4 hl (by decide) rfl (fun ls hl => ?_)
  refine lv_iconst (v := 0) hx hb dX2_greatestDivisor_6 (by decide) ?_
  refine lv_istore (lv' := [(8, .int 0), (6, .long b), (4, .long a), (0, .long a), (2, .long b)]) hx hb dX2_greatestDivisor_7 hl (by decide) rfl (fun ls hl => ?_)
  have L9 : ∀ (n9 : Nat) (i : Nat) (x : Int64) (y : Int64), (i ≤ 100) → (gd_it (100 - i) x y = gd_it 100 a b) → (100 - i < n9) → ∀ (ls : Array Slot), lv_has ls 11 [(8, .int (nI i)), (6, .long y), (4, .long x), (0, .long a), (2, .long b)] → W p l e (headSpec wsX2_greatestDivisor { frames := 1, cells := 0, slots := 0, locals := 21 }).room s m ([.long a, .long b] : List Value).toArray below meth c s.heap [] 0 0 (MQ below (vp_Sl (fun r => r = x_gcd a b)) ([.long a, .long b] : List Value).toArray s 0 0 (fun _ => False)) (F0 m 9 ls []) := by
    intro n9
    induction n9 with
    | zero => intro i x y hi hk h9; exact absurd h9 (by omega)
    | succ n9 ih9 =>
      intro i x y hi hk h9 ls hl
      refine lv_iload hx hb dX2_greatestDivisor_9 (lv_at hl 0 rfl) ?_
      refine lv_bipush (v := 100) hx hb dX2_greatestDivisor_11 (by decide) ?_
      refine lv_icmp_ge (tgt := 44) hx hb dX2_greatestDivisor_13 (by decide) (fun c_1 => ?_) (fun c_1 => ?_)
      · replace c_1 : 100 ≤ i := (nI_leI (a := 100) (b := i) (by omega) (by omega)).mp c_1
        refine lv_lload hx hb dX2_greatestDivisor_44 (lv_at hl 2 rfl) ?_
        refine va_mabs_long hx hb (by rw [hml]; exact hl.1.symm) hown (hg _ ml_X2_169) (hg _ sm_Mabs_long) (hg _ ini_J9) (hg _ co_Mabs_long) (Nat.le_of_ble_eq_true rfl) (Nat.le_of_ble_eq_true rfl) (Nat.le_of_ble_eq_true rfl) (Nat.le_of_ble_eq_true rfl) dX2_greatestDivisor_46 ?_
        exact W.lret (v := (if 0 < x then x else -x)) hx hb hr (fun t ht hW => ⟨(if 0 < x then x else -x), rfl, by rw [x_gcd, ← hk]; rw [show 100 - i = 0 by omega]; rfl, ht⟩) (fun _ h => nomatch h) dX2_greatestDivisor_49
      · replace c_1 : ¬ 100 ≤ i := fun h => c_1 ((nI_leI (a := 100) (b := i) (by omega) (by omega)).mpr h)
        refine lv_lload hx hb dX2_greatestDivisor_16 (lv_at hl 1 rfl) ?_
        refine lv_lconst (v := 0) hx hb dX2_greatestDivisor_18 (by decide) ?_
        refine W.lcmp hx hb dX2_greatestDivisor_19 ?_
        refine lv_if_eq (tgt := 44) hx hb dX2_greatestDivisor_20 (by decide) (fun c_2 => ?_) (fun c_2 => ?_)
        · replace c_2 := lc_eq.mp c_2
          refine lv_lload hx hb dX2_greatestDivisor_44 (lv_at hl 2 rfl) ?_
          refine va_mabs_long hx hb (by rw [hml]; exact hl.1.symm) hown (hg _ ml_X2_169) (hg _ sm_Mabs_long) (hg _ ini_J9) (hg _ co_Mabs_long) (Nat.le_of_ble_eq_true rfl) (Nat.le_of_ble_eq_true rfl) (Nat.le_of_ble_eq_true rfl) (Nat.le_of_ble_eq_true rfl) dX2_greatestDivisor_46 ?_
          exact W.lret (v := (if 0 < x then x else -x)) hx hb hr (fun t ht hW => ⟨(if 0 < x then x else -x), rfl, by rw [x_gcd, ← hk]; obtain ⟨j, hj⟩ : ∃ j, 100 - i = j + 1 := ⟨99 - i, by omega⟩; rw [hj, gd_it, if_pos c_2], ht⟩) (fun _ h => nomatch h) dX2_greatestDivisor_49
        · replace c_2 := fun h => c_2 (lc_eq.mpr h)
          refine lv_lload hx hb dX2_greatestDivisor_23 (lv_at hl 2 rfl) ?_
          refine lv_lload hx hb dX2_greatestDivisor_25 (lv_at hl 1 rfl) ?_
          refine lv_lrem hx hb dX2_greatestDivisor_27 (by assumption) ?_
          refine lv_topl (fun v_3 ev_3 => ?_)
          refine lv_lstore (lv' := [(9, .long v_3), (8, .int (nI i)), (6, .long y), (4, .long x), (0, .long a), (2, .long b)]) hx hb dX2_greatestDivisor_28 hl (by decide) rfl (fun ls hl => ?_)
          refine lv_lload hx hb dX2_greatestDivisor_30 (lv_at hl 2 rfl) ?_
          refine lv_lstore (lv' := [(4, .long y), (9, .long v_3), (8, .int (nI i)), (6, .long y), (0, .long a), (2, .long b)]) hx hb dX2_greatestDivisor_32 hl (by decide) rfl (fun ls hl => ?_)
          refine lv_lload hx hb dX2_greatestDivisor_34 (lv_at hl 1 rfl) ?_
          refine lv_lstore (lv' := [(6, .long v_3), (4, .long y), (9, .long v_3), (8, .int (nI i)), (0, .long a), (2, .long b)]) hx hb dX2_greatestDivisor_36 hl (by decide) rfl (fun ls hl => ?_)
          refine lv_iinc (v := nI (i + 1)) (lv' := [(8, .int (nI (i + 1))), (6, .long v_3), (4, .long y), (9, .long v_3), (0, .long a), (2, .long b)]) hx hb dX2_greatestDivisor_38 hl (k := 3) rfl (nI_1 i) (by decide) rfl (fun ls hl => ?_)
          refine lv_goto (tgt := 9) hx hb dX2_greatestDivisor_41 (by decide) ?_
          exact ih9 (i + 1) y v_3 (by omega) (by rw [← hk]; obtain ⟨j, hj⟩ : ∃ j, 100 - i = j + 1 := ⟨99 - i, by omega⟩; rw [hj, show 100 - (i + 1) = j by omega, gd_it, if_neg c_2, ev_3])  (by omega) ls (lv_sub hl [0, 1, 2, 4, 5] rfl)
  exact L9 (100 + 1) 0 a b (Nat.zero_le _) (rfl)  (Nat.lt_succ_self _) ls (lv_sub hl [0, 1, 2, 3, 4] rfl)
theorem ma_neg0 {x : Int64} (h : ¬ x = 0) : ¬ -x = 0 := by
  intro e
  apply h
  have : x = -(-x) := by simp
  rw [this, e]; rfl
set_option maxHeartbeats 4000000 in
set_option maxRecDepth 100000 in
theorem c_X2_lowestTerms (l : Launch) (a b : Int64) (k : Int32) : Met l yX2_lowestTerms wsX2_lowestTerms { frames := 2, cells := 0, slots := 0, locals := 52 } (va_Pc [.long a, .long b, .int k] (fun _ => True)) (vp_Sl (fun r => r = x_low a b k)) 0 0 (fun _ => False) := by
  refine Met.ofW (cc := cX2_lowestTerms) (maxL := 7) (ret := (some .long)) (by decide) rfl ?_
  intro p e s m args below meth c s₁ B hml hv
  obtain ⟨rfl, -⟩ := hv
  have hx := B.exec
  have hb := B.bytes
  have hr := B.returns
  have hts := atoms_spec (ws := wsX2_lowestTerms) B.pre
  have hg : ∀ w ∈ gw, w.before ([.long a, .long b, .int k] : List Value).toArray s = true := fun w h => hts w (List.mem_cons_of_mem _ h)
  have hown : s.vm.findClass RX2 = some m.cls := findClass_of_methodNamed B.named
  have hlocks := B.notSynchronized
  have hl := lv_entry ([.long a, .long b, .int k]) (n := 7) (Nat.le_of_ble_eq_true rfl)
  rw [lg_entry_eq]
  generalize (lg_sl ([.long a, .long b, .int k]) ++ List.replicate (7 - (lg_sl ([.long a, .long b, .int k])).length) Slot.unset).toArray = ls at hl ⊢
  have hl : lv_has ls 7 [(0, .long a), (2, .long b), (4, .int k)] := hl
  refine lv_lload_n hx hb dX2_lowestTerms_0 rfl (lv_at hl 0 rfl) ?_
  refine lv_lload_n hx hb dX2_lowestTerms_1 rfl (lv_at hl 1 rfl) ?_
  refine vp_callSl (W.runS (As := [.long a, .long b]) (rest := []) ⟨hx, hb, hml, hown, hg⟩ (c_X2_greatestDivisor l a b) (va_cwS 2 hg (gw_S ml_X2_165 sm_X2_greatestDivisor ini_X2 co_X2_greatestDivisor) rfl rfl rfl (by decide +kernel) ⟨Nat.le_of_ble_eq_true rfl, Nat.le_of_ble_eq_true rfl⟩) ⟨tt_blind, (fun U hU hW => ⟨rfl, trivial⟩)⟩ rfl rfl hl.1 rfl (lv_room (Nat.le_of_ble_eq_true rfl)) dX2_lowestTerms_2 ⟨Nat.le_of_ble_eq_true rfl, Nat.le_of_ble_eq_true rfl⟩) (fun r_1 hr_1 => ?_)
  subst hr_1
  refine lv_topl (fun v_2 ev_2 => ?_)
  refine lv_lstore (lv' := [(5, .long v_2), (0, .long a), (2, .long b), (4, .int k)]) hx hb dX2_lowestTerms_5 hl (by decide) rfl (fun ls hl => ?_)
  refine lv_lload hx hb dX2_lowestTerms_7 (lv_at hl 0 rfl) ?_
  refine lv_lconst (v := 0) hx hb dX2_lowestTerms_9 (by decide) ?_
  refine W.lcmp hx hb dX2_lowestTerms_10 ?_
  refine lv_if_ne (tgt := 16) hx hb dX2_lowestTerms_11 (by decide) (fun c_3 => ?_) (fun c_3 => ?_)
  · replace c_3 := fun h => c_3 (lc_eq.mpr h)
    refine lv_iload hx hb dX2_lowestTerms_16 (lv_at hl 3 rfl) ?_
    refine lv_if_ne (tgt := 25) hx hb dX2_lowestTerms_18 (by decide) (fun c_4 => ?_) (fun c_4 => ?_)
    · refine lv_lload_n hx hb dX2_lowestTerms_25 rfl (lv_at hl 2 rfl) ?_
      refine lv_lload_n hx hb dX2_lowestTerms_26 rfl (lv_at hl 2 rfl) ?_
      refine lv_lconst (v := 0) hx hb dX2_lowestTerms_27 (by decide) ?_
      refine W.lcmp hx hb dX2_lowestTerms_28 ?_
      refine lv_if_ge (tgt := 38) hx hb dX2_lowestTerms_29 (by decide) (fun c_5 => ?_) (fun c_5 => ?_)
      · replace c_5 := lc_ge.mp c_5
        refine lv_lload hx hb dX2_lowestTerms_38 (lv_at hl 0 rfl) ?_
        refine lv_ldiv hx hb dX2_lowestTerms_40 (by first | assumption | exact ma_neg0 (by assumption)) ?_
        exact W.lret (v := (b / v_2)) hx hb hr (fun t ht hW => ⟨(b / v_2), rfl, by rw [x_low, ← ev_2, if_neg c_3, if_neg c_4, if_neg (Int64.not_lt.mpr c_5)], ht⟩) (fun _ h => nomatch h) dX2_lowestTerms_41
      · replace c_5 := fun h => c_5 (lc_ge.mpr h)
        refine lv_lload hx hb dX2_lowestTerms_32 (lv_at hl 0 rfl) ?_
        refine lv_lneg hx hb dX2_lowestTerms_34 ?_
        refine lv_goto (tgt := 40) hx hb dX2_lowestTerms_35 (by decide) ?_
        refine lv_ldiv hx hb dX2_lowestTerms_40 (by first | assumption | exact ma_neg0 (by assumption)) ?_
        exact W.lret (v := (b / (-v_2))) hx hb hr (fun t ht hW => ⟨(b / (-v_2)), rfl, by rw [x_low, ← ev_2, if_neg c_3, if_neg c_4, if_pos (Int64.not_le.mp c_5)], ht⟩) (fun _ h => nomatch h) dX2_lowestTerms_41
    · refine lv_lload_n hx hb dX2_lowestTerms_21 rfl (lv_at hl 1 rfl) ?_
      refine lv_goto (tgt := 26) hx hb dX2_lowestTerms_22 (by decide) ?_
      refine lv_lload_n hx hb dX2_lowestTerms_26 rfl (lv_at hl 2 rfl) ?_
      refine lv_lconst (v := 0) hx hb dX2_lowestTerms_27 (by decide) ?_
      refine W.lcmp hx hb dX2_lowestTerms_28 ?_
      refine lv_if_ge (tgt := 38) hx hb dX2_lowestTerms_29 (by decide) (fun c_6 => ?_) (fun c_6 => ?_)
      · replace c_6 := lc_ge.mp c_6
        refine lv_lload hx hb dX2_lowestTerms_38 (lv_at hl 0 rfl) ?_
        refine lv_ldiv hx hb dX2_lowestTerms_40 (by first | assumption | exact ma_neg0 (by assumption)) ?_
        exact W.lret (v := (a / v_2)) hx hb hr (fun t ht hW => ⟨(a / v_2), rfl, by rw [x_low, ← ev_2, if_neg c_3, if_pos c_4, if_neg (Int64.not_lt.mpr c_6)], ht⟩) (fun _ h => nomatch h) dX2_lowestTerms_41
      · replace c_6 := fun h => c_6 (lc_ge.mpr h)
        refine lv_lload hx hb dX2_lowestTerms_32 (lv_at hl 0 rfl) ?_
        refine lv_lneg hx hb dX2_lowestTerms_34 ?_
        refine lv_goto (tgt := 40) hx hb dX2_lowestTerms_35 (by decide) ?_
        refine lv_ldiv hx hb dX2_lowestTerms_40 (by first | assumption | exact ma_neg0 (by assumption)) ?_
        exact W.lret (v := (a / (-v_2))) hx hb hr (fun t ht hW => ⟨(a / (-v_2)), rfl, by rw [x_low, ← ev_2, if_neg c_3, if_pos c_4, if_pos (Int64.not_le.mp c_6)], ht⟩) (fun _ h => nomatch h) dX2_lowestTerms_41
  · replace c_3 := lc_eq.mp c_3
    refine lv_lconst (v := 0) hx hb dX2_lowestTerms_14 (by decide) ?_
    exact W.lret (v := 0) hx hb hr (fun t ht hW => ⟨0, rfl, by rw [x_low, ← ev_2, if_pos c_3], ht⟩) (fun _ h => nomatch h) dX2_lowestTerms_15
