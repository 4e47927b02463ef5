theorem va_P4 {D : va_G} {cl : List vw_C} {ws : va_W} {H : Heap} {i j k n : Nat} {x y z w : Nat × va_E} (hP : va_P D cl ws H) (hi : ws[i]? = some x) (hj : ws[j]? = some y) (hk : ws[k]? = some z) (hn : ws[n]? = some w) : va_P D cl [x, y, z, w] H := by
  intro o q ho
  match o, ho with
  | 0, ho => cases ho; exact hP i _ hi
  | 1, ho => cases ho; exact hP j _ hj
  | 2, ho => cases ho; exact hP k _ hk
  | 3, ho => cases ho; exact hP n _ hn
  | o + 4, ho => simp at ho
def x_mir (pl : Nat → Int32) (nm : Nat → Nat → Int32) (cnt : Nat) (z : Int32) : Nat → Bool
  | 0 => true
  | n + 1 => x_mir pl nm cnt z n && p_mir (nm (x_cnt pl (nI n) cnt)) (nm (x_cnt pl (-nI n - 1) cnt)) z
theorem x_mir_f {pl : Nat → Int32} {nm : Nat → Nat → Int32} {cnt : Nat} {z : Int32} {i : Nat} (h : p_mir (nm (x_cnt pl (nI i) cnt)) (nm (x_cnt pl (-nI i - 1) cnt)) z = false) : ∀ n, i < n → x_mir pl nm cnt z n = false
  | 0, hn => absurd hn (Nat.not_lt_zero i)
  | n + 1, hn => by
    rw [x_mir]
    rcases Nat.lt_or_ge i n with h1 | h1
    · rw [x_mir_f h n h1]; rfl
    · rw [show n = i by omega, h, Bool.and_false]
def x_sym (pl : Nat → Int32) (nm : Nat → Nat → Int32) (cnt : Nat) : Int32 := if x_mir pl nm cnt 1 7 && x_mir pl nm cnt (-1) 7 then 2 else if x_mir pl nm cnt 1 7 then 1 else if x_mir pl nm cnt (-1) 7 then -1 else 0
set_option maxHeartbeats 4000000 in
set_option maxRecDepth 100000 in
theorem c_X2_cuts (l : Launch) (A : Nat → Prop) (D : va_G) (cI cL cQ : ClassId) (fr : va_W) (a : Nat → Nat) (pl : Nat → Int32) (pq nq : Nat → Nat) (nm : Nat → Nat → Int32) (ab : Int64) (lg : Nat → Int32) (cnt : Nat) (hc : cnt ≤ 3) (kn : Int32) : Met l yX2_cuts wsX2_cuts { frames := 0, cells := 0, slots := 0, locals := 0 } (va_Pc [.ref (a 0)] (fun U => gl_G A U U.heap ∧ pu_B D (ty3 cI cL cQ) (xw cI cQ a pl pq nq nm ab lg (nI cnt) kn ++ fr) U)) (vp_Si (fun r => r = nI cnt)) 0 0 (fun _ => False) := by
  refine Met.ofW (cc := cX2_cuts) (maxL := 1) (ret := (some .int)) (by decide) rfl ?_
  intro p e s m args below meth c s₁ B hml hv
  obtain ⟨rfl, hG, hK, hP⟩ := hv
  have hx := B.exec
  have hb := B.bytes
  have hr := B.returns
  have hts := atoms_spec (ws := wsX2_cuts) B.pre
  have hg : ∀ w ∈ gw, w.before ([.ref (a 0)] : List Value).toArray s = true := fun w h => hts w (List.mem_cons_of_mem _ h)
  have hown : s.vm.findClass RX2 = some m.cls := findClass_of_methodNamed B.named
  have hlocks := B.notSynchronized
  have hl := lv_entry ([.ref (a 0)]) (n := 1) (Nat.le_of_ble_eq_true rfl)
  rw [lg_entry_eq]
  generalize (lg_sl ([.ref (a 0)]) ++ List.replicate (1 - (lg_sl ([.ref (a 0)])).length) Slot.unset).toArray = ls at hl ⊢
  have hl : lv_has ls 1 [(0, .ref (a 0))] := hl
  refine lv_aload_n hx hb dX2_cuts_0 rfl (lv_at hl 0 rfl) ?_
  refine va_get (D := D) (ci := 2) (v := .int (nI cnt)) (C := RX2) (T := TX2) (N := 5) hx hb hg inX2 hown hK hP 0 rfl rfl 3 (by decide) (hg _ fl_X2_26) (fun _ h9 => h9) rfl dX2_cuts_1 ?_
  exact W.iret (v := nI cnt) hx hb hr (fun t ht hW => ⟨(nI cnt), rfl, rfl, ht⟩) (fun _ h => nomatch h) dX2_cuts_4
set_option maxHeartbeats 4000000 in
set_option maxRecDepth 100000 in
theorem c_X2_isMirrored (l : Launch) (A : Nat → Prop) (D : va_G) (cI cL cQ : ClassId) (fr : va_W) (a : Nat → Nat) (pl : Nat → Int32) (pq nq : Nat → Nat) (nm : Nat → Nat → Int32) (ab : Int64) (lg : Nat → Int32) (cnt : Nat) (hc : cnt ≤ 3) (kn : Int32) (z : Int32) : Met l yX2_isMirrored wsX2_isMirrored { frames := 2, cells := 0, slots := 0, locals := 43 } (va_Pc [.ref (a 0), .int z] (fun U => gl_G A U U.heap ∧ pu_B D (ty3 cI cL cQ) (xw cI cQ a pl pq nq nm ab lg (nI cnt) kn ++ fr) U)) (vp_Si (fun r => r = zi (x_mir pl nm cnt z 7))) 0 0 (fun _ => False) := by
  refine Met.ofW (cc := cX2_isMirrored) (maxL := 3) (ret := (some .boolean)) (by decide) rfl ?_
  intro p e s m args below meth c s₁ B hml hv
  obtain ⟨rfl, hG, hK, hP⟩ := hv
  have hx := B.exec
  have hb := B.bytes
  have hr := B.returns
  have hts := atoms_spec (ws := wsX2_isMirrored) B.pre
  have hg : ∀ w ∈ gw, w.before ([.ref (a 0), .int z] : List Value).toArray s = true := fun w h => hts w (List.mem_cons_of_mem _ h)
  have hown : s.vm.findClass RX2 = some m.cls := findClass_of_methodNamed B.named
  have hlocks := B.notSynchronized
  have hl := lv_entry ([.ref (a 0), .int z]) (n := 3) (Nat.le_of_ble_eq_true rfl)
  rw [lg_entry_eq]
  generalize (lg_sl ([.ref (a 0), .int z]) ++ List.replicate (3 - (lg_sl ([.ref (a 0), .int z])).length) Slot.unset).toArray = ls at hl ⊢
  have hl : lv_has ls 3 [(0, .ref (a 0)), (1, .int z)] := hl
  have hS : va_S A s.heap s.heap [] := va_S.rf
  refine lv_iconst (v := 0) hx hb dX2_isMirrored_0 (by decide) ?_
  refine lv_istore_n (lv' := [(2, .int 0), (0, .ref (a 0)), (1, .int z)]) hx hb dX2_isMirrored_1 rfl hl (by decide) rfl (fun ls hl => ?_)
  have L2 : ∀ (n9 : Nat) (i : Nat), (i ≤ 7) → (x_mir pl nm cnt z i = true) → (7 - i < n9) → ∀ (ls : Array Slot), lv_has ls 3 [(2, .int (nI i)), (0, .ref (a 0)), (1, .int z)] → W p l e (headSpec wsX2_isMirrored { frames := 2, cells := 0, slots := 0, locals := 43 }).room s m ([.ref (a 0), .int z] : List Value).toArray below meth c s.heap [] 0 0 (MQ below (vp_Si (fun r => r = zi (x_mir pl nm cnt z 7))) ([.ref (a 0), .int z] : List Value).toArray s 0 0 (fun _ => False)) (F0 m 2 ls []) := by
    intro n2
    induction n2 with
    | zero => intro i hi hk h9; exact absurd h9 (by omega)
    | succ n2 ih2 =>
      intro i hi hk h9 ls hl
      refine lv_iload_n hx hb dX2_isMirrored_2 rfl (lv_at hl 0 rfl) ?_
      refine lv_bipush (v := 6) hx hb dX2_isMirrored_3 (by decide) ?_
      refine lv_icmp_gt (tgt := 46) hx hb dX2_isMirrored_5 (by decide) (fun c_1 => ?_) (fun c_1 => ?_)
      · replace c_1 : 6 < i := (nI_ltI (a := 6) (b := i) (by omega) (by omega)).mp c_1
        refine lv_iconst (v := 1) hx hb dX2_isMirrored_46 (by decide) ?_
        exact W.zret (v := 1) hx hb hr rfl (fun t ht hW => ⟨1, rfl, by rw [show (7 : Nat) = i by omega, hk]; rfl, ht⟩) (fun _ h => nomatch h) dX2_isMirrored_47
      · replace c_1 : ¬ 6 < i := fun h => c_1 ((nI_ltI (a := 6) (b := i) (by omega) (by omega)).mpr h)
        refine lv_aload_n hx hb dX2_isMirrored_8 rfl (lv_at hl 1 rfl) ?_
        refine va_get (D := D) (ci := 2) (v := .ref (a 2)) (C := RX2) (T := TX2) (N := 5) hx hb hg inX2 hown hK hP 0 rfl rfl 1 (by decide) (hg _ fl_X2_15) (fun _ h9 => h9) rfl dX2_isMirrored_9 ?_
        refine lv_aload_n hx hb dX2_isMirrored_12 rfl (lv_at hl 1 rfl) ?_
        refine lv_iload_n hx hb dX2_isMirrored_13 rfl (lv_at hl 0 rfl) ?_
        have hq_2 := x_cnt_le pl (nI i) cnt
        refine vp_callSi (W.runV (As := [.int (nI i)]) (rest := [.ref (a 2)]) ⟨hx, hb, hml, hown, hg⟩ (c_X2_pieceAt l D cI cL cQ (a 0) (a 1) [.ref (a 1), .ref (a 2), .ref (a 3), .int (nI cnt), .int kn] rfl cnt rfl hc pl (nI i)) (cwV 1 hg (gw_V ml_X2_55 im_X2_pieceAt se_X2_pieceAt ini_X2 co_X2_pieceAt) rfl rfl rfl (by decide +kernel) ⟨Nat.le_of_ble_eq_true rfl, Nat.le_of_ble_eq_true rfl⟩) ⟨pu_B.blind, va_recv hK hP (ci := 2) (q0 := 0) rfl rfl, (fun U hU hW => ⟨rfl, pu_B.at hK (va_P2 hP (i := 0) (j := 1) rfl rfl) hU hW⟩)⟩ rfl rfl hl.1 rfl (lv_room (Nat.le_of_ble_eq_true rfl)) dX2_isMirrored_14 ⟨Nat.le_of_ble_eq_true rfl, Nat.le_of_ble_eq_true rfl⟩) (fun r_3 hr_3 => ?_)
        subst hr_3
        refine va_aldq (D := D) (n := 4) (f := (fun j => some (pq j))) hx hb hK hP 2 2 rfl rfl (vp_in_nI (show (x_cnt pl (nI i) cnt) < 4 by omega) (by decide)) dX2_isMirrored_17 ?_
        rw [nI_clamp (show (x_cnt pl (nI i) cnt) < 2 ^ 31 by omega)]
        refine W.eq (g2 := F0 m 18 ls [.ref (pq (x_cnt pl (nI i) cnt))]) rfl ?_
        refine lv_aload_n hx hb dX2_isMirrored_18 rfl (lv_at hl 1 rfl) ?_
        refine va_get (D := D) (ci := 2) (v := .ref (a 2)) (C := RX2) (T := TX2) (N := 5) hx hb hg inX2 hown hK hP 0 rfl rfl 1 (by decide) (hg _ fl_X2_15) (fun _ h9 => h9) rfl dX2_isMirrored_19 ?_
        refine lv_aload_n hx hb dX2_isMirrored_22 rfl (lv_at hl 1 rfl) ?_
        refine lv_iload_n hx hb dX2_isMirrored_23 rfl (lv_at hl 0 rfl) ?_
        refine lv_ineg hx hb dX2_isMirrored_24 ?_
        refine lv_iconst (v := 1) hx hb dX2_isMirrored_25 (by decide) ?_
        refine lv_isub hx hb dX2_isMirrored_26 ?_
        have hq_4 := x_cnt_le pl ((-nI i) - 1) cnt
        refine vp_callSi (W.runV (As := [.int ((-nI i) - 1)]) (rest := [.ref (a 2), .ref (pq (x_cnt pl (nI i) cnt))]) ⟨hx, hb, hml, hown, hg⟩ (c_X2_pieceAt l D cI cL cQ (a 0) (a 1) [.ref (a 1), .ref (a 2), .ref (a 3), .int (nI cnt), .int kn] rfl cnt rfl hc pl ((-nI i) - 1)) (cwV 1 hg (gw_V ml_X2_55 im_X2_pieceAt se_X2_pieceAt ini_X2 co_X2_pieceAt) rfl rfl rfl (by decide +kernel) ⟨Nat.le_of_ble_eq_true rfl, Nat.le_of_ble_eq_true rfl⟩) ⟨pu_B.blind, va_recv hK hP (ci := 2) (q0 := 0) rfl rfl, (fun U hU hW => ⟨rfl, pu_B.at hK (va_P2 hP (i := 0) (j := 1) rfl rfl) hU hW⟩)⟩ rfl rfl hl.1 rfl (lv_room (Nat.le_of_ble_eq_true rfl)) dX2_isMirrored_27 ⟨Nat.le_of_ble_eq_true rfl, Nat.le_of_ble_eq_true rfl⟩) (fun r_5 hr_5 => ?_)
        subst hr_5
        refine va_aldq (D := D) (n := 4) (f := (fun j => some (pq j))) hx hb hK hP 2 2 rfl rfl (vp_in_nI (show (x_cnt pl ((-nI i) - 1) cnt) < 4 by omega) (by decide)) dX2_isMirrored_30 ?_
        rw [nI_clamp (show (x_cnt pl ((-nI i) - 1) cnt) < 2 ^ 31 by omega)]
        refine W.eq (g2 := F0 m 31 ls [.ref (pq (x_cnt pl ((-nI i) - 1) cnt)), .ref (pq (x_cnt pl (nI i) cnt))]) rfl ?_
        refine lv_iload_n hx hb dX2_isMirrored_31 rfl (lv_at hl 2 rfl) ?_
        refine vp_callSi (va_Run.run (va_runVN (As := [.ref (pq (x_cnt pl ((-nI i) - 1) cnt)), .int z]) (rest := []) ⟨hx, hb, hml, hown, hg⟩ (c_X0_mirrors l A D cI cL cQ (pq (x_cnt pl (nI i) cnt)) (nq (x_cnt pl (nI i) cnt)) (pq (x_cnt pl ((-nI i) - 1) cnt)) (nq (x_cnt pl ((-nI i) - 1) cnt)) (nm (x_cnt pl (nI i) cnt)) (nm (x_cnt pl ((-nI i) - 1) cnt)) z) ⟨va_cnB 2 hg (gw_C co_X0_mirrors) rfl rfl rfl (hG.1 _ mn_X2_161) (hg _ ini_X0) (by decide +kernel) ⟨Nat.le_of_ble_eq_true rfl, Nat.le_of_ble_eq_true rfl⟩, hg _ im_X0_mirrors, hg _ se_X0_mirrors⟩ ⟨gp_blind, va_recv hK hP (ci := 0) (q0 := 5 + 2 * (x_cnt pl (nI i) cnt)) rfl (xw_p (by omega)), (fun U hU hW => ⟨rfl, hG.warm hS hU hW, pu_B.at hK (va_P4 hP (xw_p (k := (x_cnt pl (nI i) cnt)) (by omega)) (xw_n (k := (x_cnt pl (nI i) cnt)) (by omega)) (xw_p (k := (x_cnt pl ((-nI i) - 1) cnt)) (by omega)) (xw_n (k := (x_cnt pl ((-nI i) - 1) cnt)) (by omega))) hU hW⟩)⟩ rfl rfl hl.1 rfl (lv_room (Nat.le_of_ble_eq_true rfl)) dX2_isMirrored_32 ⟨Nat.le_of_ble_eq_true rfl, Nat.le_of_ble_eq_true rfl⟩)) (fun r_6 hr_6 => ?_)
        subst hr_6
        refine lv_if_ne (tgt := 40) hx hb dX2_isMirrored_35 (by decide) (fun c_7 => ?_) (fun c_7 => ?_)
        · replace c_7 := zi_n0 c_7
          refine lv_iinc (v := nI (i + 1)) (lv' := [(2, .int (nI (i + 1))), (0, .ref (a 0)), (1, .int z)]) hx hb dX2_isMirrored_40 hl (k := 0) rfl (nI_1 i) (by decide) rfl (fun ls hl => ?_)
          refine lv_goto (tgt := 2) hx hb dX2_isMirrored_43 (by decide) ?_
          exact ih2 (i + 1) (by omega) (by rw [x_mir, hk, c_7]; rfl)  (by omega) ls (lv_sub hl [0, 1, 2] rfl)
        · replace c_7 := zi_0 c_7
          refine lv_iconst (v := 0) hx hb dX2_isMirrored_38 (by decide) ?_
          exact W.zret (v := 0) hx hb hr rfl (fun t ht hW => ⟨0, rfl, by rw [x_mir_f c_7 7 (by omega)]; rfl, ht⟩) (fun _ h => nomatch h) dX2_isMirrored_39
  exact L2 (7 + 1) 0 (Nat.zero_le _) (rfl)  (Nat.lt_succ_self _) ls (lv_sub hl [0, 1, 2] rfl)
set_option maxHeartbeats 4000000 in
set_option maxRecDepth 100000 in
theorem c_X2_symmetry (l : Launch) (A : Nat → Prop) (D : va_G) (cI cL cQ : ClassId) (fr : va_W) (a : Nat → Nat) (pl : Nat → Int32) (pq nq : Nat → Nat) (nm : Nat → Nat → Int32) (ab : Int64) (lg : Nat → Int32) (cnt : Nat) (hc : cnt ≤ 3) (kn : Int32) : Met l yX2_symmetry wsX2_symmetry { frames := 3, cells := 0, slots := 0, locals := 65 } (va_Pc [.ref (a 0)] (fun U => gl_G A U U.heap ∧ pu_B D (ty3 cI cL cQ) (xw cI cQ a pl pq nq nm ab lg (nI cnt) kn ++ fr) U)) (vp_Si (fun r => r = x_sym pl nm cnt)) 0 0 (fun _ => False) := by
  refine Met.ofW (cc := cX2_symmetry) (maxL := 3) (ret := (some .int)) (by decide) rfl ?_
  intro p e s m args below meth c s₁ B hml hv
  obtain ⟨rfl, hG, hK, hP⟩ := hv
  have hx := B.exec
  have hb := B.bytes
  have hr := B.returns
  have hts := atoms_spec (ws := wsX2_symmetry) B.pre
  have hg : ∀ w ∈ gw, w.before ([.ref (a 0)] : List Value).toArray s = true := fun w h => hts w (List.mem_cons_of_mem _ h)
  have hown : s.vm.findClass RX2 = some m.cls := findClass_of_methodNamed B.named
  have hlocks := B.notSynchronized
  have hl := lv_entry ([.ref (a 0)]) (n := 3) (Nat.le_of_ble_eq_true rfl)
  rw [lg_entry_eq]
  generalize (lg_sl ([.ref (a 0)]) ++ List.replicate (3 - (lg_sl ([.ref (a 0)])).length) Slot.unset).toArray = ls at hl ⊢
  have hl : lv_has ls 3 [(0, .ref (a 0))] := hl
  have hS : va_S A s.heap s.heap [] := va_S.rf
  refine lv_aload_n hx hb dX2_symmetry_0 rfl (lv_at hl 0 rfl) ?_
  refine lv_iconst (v := 1) hx hb dX2_symmetry_1 (by decide) ?_
  refine vp_callSi (W.runV (As := [.int 1]) (rest := []) ⟨hx, hb, hml, hown, hg⟩ (c_X2_isMirrored l A D cI cL cQ fr a pl pq nq nm ab lg cnt hc kn 1) (cwV 1 hg (gw_V ml_X2_138 im_X2_isMirrored se_X2_isMirrored ini_X2 co_X2_isMirrored) rfl rfl rfl (by decide +kernel) ⟨Nat.le_of_ble_eq_true rfl, Nat.le_of_ble_eq_true rfl⟩) ⟨gp_blind, va_recv hK hP (ci := 2) (q0 := 0) rfl rfl, (fun U hU hW => ⟨rfl, hG.warm hS hU hW, pu_B.at hK hP hU hW⟩)⟩ rfl rfl hl.1 rfl (lv_room (Nat.le_of_ble_eq_true rfl)) dX2_symmetry_2 ⟨Nat.le_of_ble_eq_true rfl, Nat.le_of_ble_eq_true rfl⟩) (fun r_1 hr_1 => ?_)
  subst hr_1
  refine lv_istore_n (lv' := [(1, .int (zi (x_mir pl nm cnt 1 7))), (0, .ref (a 0))]) hx hb dX2_symmetry_5 rfl hl (by decide) rfl (fun ls hl => ?_)
  refine lv_aload_n hx hb dX2_symmetry_6 rfl (lv_at hl 1 rfl) ?_
  refine lv_iconst (v := (-1)) hx hb dX2_symmetry_7 (by decide) ?_
  refine vp_callSi (W.runV (As := [.int (-1)]) (rest := []) ⟨hx, hb, hml, hown, hg⟩ (c_X2_isMirrored l A D cI cL cQ fr a pl pq nq nm ab lg cnt hc kn (-1)) (cwV 1 hg (gw_V ml_X2_138 im_X2_isMirrored se_X2_isMirrored ini_X2 co_X2_isMirrored) rfl rfl rfl (by decide +kernel) ⟨Nat.le_of_ble_eq_true rfl, Nat.le_of_ble_eq_true rfl⟩) ⟨gp_blind, va_recv hK hP (ci := 2) (q0 := 0) rfl rfl, (fun U hU hW => ⟨rfl, hG.warm hS hU hW, pu_B.at hK hP hU hW⟩)⟩ rfl rfl hl.1 rfl (lv_room (Nat.le_of_ble_eq_true rfl)) dX2_symmetry_8 ⟨Nat.le_of_ble_eq_true rfl, Nat.le_of_ble_eq_true rfl⟩) (fun r_2 hr_2 => ?_)
  subst hr_2
  refine lv_istore_n (lv' := [(2, .int (zi (x_mir pl nm cnt (-1) 7))), (1, .int (zi (x_mir pl nm cnt 1 7))), (0, .ref (a 0))]) hx hb dX2_symmetry_11 rfl hl (by decide) rfl (fun ls hl => ?_)
  refine lv_iload_n hx hb dX2_symmetry_12 rfl (lv_at hl 1 rfl) ?_
  refine lv_if_eq (tgt := 22) hx hb dX2_symmetry_13 (by decide) (fun c_3 => ?_) (fun c_3 => ?_)
  · replace c_3 := zi_0 c_3
    refine lv_iload_n hx hb dX2_symmetry_22 rfl (lv_at hl 1 rfl) ?_
    refine lv_if_eq (tgt := 30) hx hb dX2_symmetry_23 (by decide) (fun c_4 => ?_) (fun c_4 => ?_)
    · replace c_4 := zi_0 c_4
      refine lv_iload_n hx hb dX2_symmetry_30 rfl (lv_at hl 0 rfl) ?_
      refine lv_if_eq (tgt := 38) hx hb dX2_symmetry_31 (by decide) (fun c_5 => ?_) (fun c_5 => ?_)
      · replace c_5 := zi_0 c_5
        refine lv_iconst (v := 0) hx hb dX2_symmetry_38 (by decide) ?_
        exact W.iret (v := 0) hx hb hr (fun t ht hW => ⟨0, rfl, by first | (simp [x_sym, c_3, c_4, c_5]; done) | exact absurd (c_3.symm.trans c_4) (by decide) | exact absurd (c_3.symm.trans c_5) (by decide) | exact absurd (c_4.symm.trans c_5) (by decide), ht⟩) (fun _ h => nomatch h) dX2_symmetry_39
      · replace c_5 := zi_n0 c_5
        refine lv_iconst (v := (-1)) hx hb dX2_symmetry_34 (by decide) ?_
        refine lv_goto (tgt := 39) hx hb dX2_symmetry_35 (by decide) ?_
        exact W.iret (v := (-1)) hx hb hr (fun t ht hW => ⟨(-1), rfl, by first | (simp [x_sym, c_3, c_4, c_5]; done) | exact absurd (c_3.symm.trans c_4) (by decide) | exact absurd (c_3.symm.trans c_5) (by decide) | exact absurd (c_4.symm.trans c_5) (by decide), ht⟩) (fun _ h => nomatch h) dX2_symmetry_39
    · replace c_4 := zi_n0 c_4
      refine lv_iconst (v := 1) hx hb dX2_symmetry_26 (by decide) ?_
      refine lv_goto (tgt := 39) hx hb dX2_symmetry_27 (by decide) ?_
      exact W.iret (v := 1) hx hb hr (fun t ht hW => ⟨1, rfl, by first | (simp [x_sym, c_3, c_4]; done) | exact absurd (c_3.symm.trans c_4) (by decide), ht⟩) (fun _ h => nomatch h) dX2_symmetry_39
  · replace c_3 := zi_n0 c_3
    refine lv_iload_n hx hb dX2_symmetry_16 rfl (lv_at hl 0 rfl) ?_
    refine lv_if_eq (tgt := 22) hx hb dX2_symmetry_17 (by decide) (fun c_6 => ?_) (fun c_6 => ?_)
    · replace c_6 := zi_0 c_6
      refine lv_iload_n hx hb dX2_symmetry_22 rfl (lv_at hl 1 rfl) ?_
      refine lv_if_eq (tgt := 30) hx hb dX2_symmetry_23 (by decide) (fun c_7 => ?_) (fun c_7 => ?_)
      · replace c_7 := zi_0 c_7
        refine lv_iload_n hx hb dX2_symmetry_30 rfl (lv_at hl 0 rfl) ?_
        refine lv_if_eq (tgt := 38) hx hb dX2_symmetry_31 (by decide) (fun c_8 => ?_) (fun c_8 => ?_)
        · replace c_8 := zi_0 c_8
          refine lv_iconst (v := 0) hx hb dX2_symmetry_38 (by decide) ?_
          exact W.iret (v := 0) hx hb hr (fun t ht hW => ⟨0, rfl, by first | (simp [x_sym, c_3, c_6, c_7, c_8]; done) | exact absurd (c_3.symm.trans c_6) (by decide) | exact absurd (c_3.symm.trans c_7) (by decide) | exact absurd (c_3.symm.trans c_8) (by decide) | exact absurd (c_6.symm.trans c_7) (by decide) | exact absurd (c_6.symm.trans c_8) (by decide) | exact absurd (c_7.symm.trans c_8) (by decide), ht⟩) (fun _ h => nomatch h) dX2_symmetry_39
        · replace c_8 := zi_n0 c_8
          refine lv_iconst (v := (-1)) hx hb dX2_symmetry_34 (by decide) ?_
          refine lv_goto (tgt := 39) hx hb dX2_symmetry_35 (by decide) ?_
          exact W.iret (v := (-1)) hx hb hr (fun t ht hW => ⟨(-1), rfl, by first | (simp [x_sym, c_3, c_6, c_7, c_8]; done) | exact absurd (c_3.symm.trans c_6) (by decide) | exact absurd (c_3.symm.trans c_7) (by decide) | exact absurd (c_3.symm.trans c_8) (by decide) | exact absurd (c_6.symm.trans c_7) (by decide) | exact absurd (c_6.symm.trans c_8) (by decide) | exact absurd (c_7.symm.trans c_8) (by decide), ht⟩) (fun _ h => nomatch h) dX2_symmetry_39
      · replace c_7 := zi_n0 c_7
        refine lv_iconst (v := 1) hx hb dX2_symmetry_26 (by decide) ?_
        refine lv_goto (tgt := 39) hx hb dX2_symmetry_27 (by decide) ?_
        exact W.iret (v := 1) hx hb hr (fun t ht hW => ⟨1, rfl, by first | (simp [x_sym, c_3, c_6, c_7]; done) | exact absurd (c_3.symm.trans c_6) (by decide) | exact absurd (c_3.symm.trans c_7) (by decide) | exact absurd (c_6.symm.trans c_7) (by decide), ht⟩) (fun _ h => nomatch h) dX2_symmetry_39
    · replace c_6 := zi_n0 c_6
      refine lv_iconst (v := 2) hx hb dX2_symmetry_20 (by decide) ?_
      exact W.iret (v := 2) hx hb hr (fun t ht hW => ⟨2, rfl, by first | (simp [x_sym, c_3, c_6]; done) | exact absurd (c_3.symm.trans c_6) (by decide), ht⟩) (fun _ h => nomatch h) dX2_symmetry_21
set_option maxHeartbeats 4000000 in
set_option maxRecDepth 100000 in
theorem c_X2_clear (l : Launch) (A : Nat → Prop) (D : va_G) (cI cL cQ : ClassId) (fr : va_W) (a : Nat → Nat) (pl : Nat → Int32) (pq nq : Nat → Nat) (nm : Nat → Nat → Int32) (ab : Int64) (lg : Nat → Int32) (cnt : Nat) (hc : cnt ≤ 3) (kn : Int32) : Met l yX2_clear wsX2_clear { frames := 2, cells := 0, slots := 0, locals := 43 } (va_Pc [.ref (a 0)] (wd_B D (ty3 cI cL cQ) A (xw cI cQ a pl pq nq nm ab lg (nI cnt) kn ++ fr))) (va_Qv (fun _ : Unit => True) (fun _ t => wd_E D (ty3 cI cL cQ) A (xw cI cQ a pl pq nq (va_up nm 0 (fun _ => 0)) ab lg 0 0 ++ fr) t) A) 0 0 A := by
  refine Met.ofW (cc := cX2_clear) (maxL := 1) (ret := none) (by decide) rfl ?_
  intro p e s m args below meth c s₁ B hml hv
  obtain ⟨rfl, hG, hK, hP, hD, hA⟩ := hv
  have hx := B.exec
  have hb := B.bytes
  have hr := B.returns
  have hts := atoms_spec (ws := wsX2_clear) B.pre
  have hg : ∀ w ∈ gw, w.before ([.ref (a 0)] : List Value).toArray s = true := fun w h => hts w (List.mem_cons_of_mem _ h)
  have hown : s.vm.findClass RX2 = some m.cls := findClass_of_methodNamed B.named
  have hlocks := B.notSynchronized
  have hS : va_S A s.heap s.heap [] := va_S.rf
  have hl := lv_entry ([.ref (a 0)]) (n := 1) (Nat.le_of_ble_eq_true rfl)
  rw [lg_entry_eq]
  generalize (lg_sl ([.ref (a 0)]) ++ List.replicate (1 - (lg_sl ([.ref (a 0)])).length) Slot.unset).toArray = ls at hl ⊢
  have hl : lv_has ls 1 [(0, .ref (a 0))] := hl
  refine lv_aload_n hx hb dX2_clear_0 rfl (lv_at hl 0 rfl) ?_
  refine lv_iconst (v := 0) hx hb dX2_clear_1 (by decide) ?_
  refine va_put (D := D) (ci := 2) (v := .int 0) (ty := .int) (C := RX2) (T := TX2) (N := 5) hx hb hg inX2 tyX2 tyX2_ok nmX2 hown hK hP hD hS 0 rfl rfl 3 (by decide) (hg _ fl_X2_26) (fun _ h9 => h9) rfl (by decide +kernel) rfl rfl (Nat.le_of_ble_eq_true rfl) dX2_clear_2 (fun H locs hP hD hS => ?_)
  have hP : va_P D vwCl (xw cI cQ a pl pq nq nm ab lg 0 kn ++ fr) H := hP
  have hD : va_D A (xw cI cQ a pl pq nq nm ab lg 0 kn ++ fr) := hD
  refine lv_aload_n hx hb dX2_clear_5 rfl (lv_at hl 0 rfl) ?_
  refine lv_iconst (v := 0) hx hb dX2_clear_6 (by decide) ?_
  refine va_put (D := D) (ci := 2) (v := .int 0) (ty := .boolean) (C := RX2) (T := TX2) (N := 5) hx hb hg inX2 tyX2 tyX2_ok nmX2 hown hK hP hD hS 0 rfl rfl 4 (by decide) (hg _ fl_X2_30) (fun _ h9 => h9) rfl (by decide +kernel) rfl rfl (Nat.le_of_ble_eq_true rfl) dX2_clear_7 (fun H locs hP hD hS => ?_)
  have hP : va_P D vwCl (xw cI cQ a pl pq nq nm ab lg 0 0 ++ fr) H := hP
  have hD : va_D A (xw cI cQ a pl pq nq nm ab lg 0 0 ++ fr) := hD
  refine lv_aload_n hx hb dX2_clear_10 rfl (lv_at hl 0 rfl) ?_
  refine va_get (D := D) (ci := 2) (v := .ref (a 2)) (C := RX2) (T := TX2) (N := 5) hx hb hg inX2 hown hK hP 0 rfl rfl 1 (by decide) (hg _ fl_X2_15) (fun _ h9 => h9) rfl dX2_clear_11 ?_
  refine lv_iconst (v := 0) hx hb dX2_clear_14 (by decide) ?_
  refine va_aldq (D := D) (n := 4) (f := (fun j => some (pq j))) hx hb hK hP 2 2 rfl rfl (vp_in_nI (show 0 < 4 by decide) (by decide)) dX2_clear_15 ?_
  refine W.eq (g2 := F0 m 16 ls [.ref (pq 0)]) rfl ?_
  refine va_callv (va_runVN (As := []) (rest := []) ⟨hx, hb, hml, hown, hg⟩ (c_X0_wipe l A D cI cL cQ (xw cI cQ a pl pq nq nm ab lg 0 0 ++ fr) 5 6 (pq 0) (nq 0) (nm 0) rfl rfl) ⟨va_cnB 0 hg (gw_C co_X0_wipe) rfl rfl rfl (hG.1 _ mn_X2_141) (hg _ ini_X0) (by decide +kernel) ⟨Nat.le_of_ble_eq_true rfl, Nat.le_of_ble_eq_true rfl⟩, hg _ im_X0_wipe, hg _ se_X0_wipe⟩ ⟨wd_B.blind, va_recv hK hP (ci := 0) (q0 := 5) rfl rfl, (fun U hU hW => ⟨rfl, wd_B.at hG hK hP hD hS hA hU hW⟩)⟩ rfl rfl hl.1 rfl (lv_room (Nat.le_of_ble_eq_true rfl)) dX2_clear_16 ⟨Nat.le_of_ble_eq_true rfl, Nat.le_of_ble_eq_true rfl⟩) hS (fun q _ h => h) (fun q h => h) (fun u t H1 locs ht hvm hr_1 hB hz1 hk1 hS => ?_)
  obtain ⟨hK, hP, hD⟩ := hB.back ht hvm
  generalize H1 = H at hP hS ⊢
  have hP : va_P D vwCl (xw cI cQ a pl pq nq (va_up nm 0 (fun _ => 0)) ab lg 0 0 ++ fr) H := hP
  have hD : va_D A (xw cI cQ a pl pq nq (va_up nm 0 (fun _ => 0)) ab lg 0 0 ++ fr) := hD
  exact W.vret hx hb hr (fun t ht hW => ⟨⟨(), rfl, trivial, wd_E.at hK hP hD ht hW⟩, hS.F ht⟩) hS.2.2 dX2_clear_19
def in9 (v : Int32) : Prop := -9 ≤ v.toInt ∧ v.toInt ≤ 9
def in6 (v : Int32) : Prop := -6 ≤ v.toInt ∧ v.toInt ≤ 6
theorem d_ok {x y : Int32} (hx : in9 x) (hy : in6 y) : ¬ x - y = 0 → ¬ 2 * (x - y) * (x - y) = 0 := by
  intro h0 h
  have e : (x - y).toInt = x.toInt - y.toInt := by
    rw [Int32.toInt_sub, ma_I] <;> (unfold in9 in6 at *; omega)
  have hd : (x - y).toInt ≠ 0 := fun h2 => h0 (Int32.toInt_inj.mp (by rw [h2]; rfl))
  generalize x - y = d at *
  have h1 : -15 ≤ d.toInt := by unfold in9 in6 at *; omega
  have h2 : d.toInt ≤ 15 := by unfold in9 in6 at *; omega
  have h3 := congrArg Int32.toInt h
  have hz : (0 : Int32).toInt = 0 := rfl
  have h2' : (2 : Int32).toInt = 2 := rfl
  rw [Int32.toInt_mul, Int32.toInt_mul, h2', hz, ma_I (a := 2 * d.toInt) (by omega) (by omega)] at h3
  have hb : 0 < d.toInt * d.toInt ∧ d.toInt * d.toInt ≤ 225 := by
    have : (d.toInt = -15 ∨ d.toInt = -14 ∨ d.toInt = -13 ∨ d.toInt = -12 ∨ d.toInt = -11 ∨ d.toInt = -10 ∨ d.toInt = -9 ∨ d.toInt = -8 ∨ d.toInt = -7 ∨ d.toInt = -6 ∨ d.toInt = -5 ∨ d.toInt = -4 ∨ d.toInt = -3 ∨ d.toInt = -2 ∨ d.toInt = -1 ∨ d.toInt = 1 ∨ d.toInt = 2 ∨ d.toInt = 3 ∨ d.toInt = 4 ∨ d.toInt = 5 ∨ d.toInt = 6 ∨ d.toInt = 7 ∨ d.toInt = 8 ∨ d.toInt = 9 ∨ d.toInt = 10 ∨ d.toInt = 11 ∨ d.toInt = 12 ∨ d.toInt = 13 ∨ d.toInt = 14 ∨ d.toInt = 15) := by omega
    rcases this with h | h | h | h | h | h | h | h | h | h | h | h | h | h | h | h | h | h | h | h | h | h | h | h | h | h | h | h | h | h <;> rw [h] <;> decide
  rw [Int.mul_assoc, ma_I (by omega) (by omega)] at h3
  omega
def a_st (l : Int32) (pl : Nat → Int32) (i : Nat) : Int32 := if l < x_left pl i then x_left pl i else l
def a_en (r : Int32) (pl : Nat → Int32) (cnt i : Nat) : Int32 := if x_right pl cnt i < r then x_right pl cnt i else r
def a_fold (l r z : Int32) (pl : Nat → Int32) (nm : Nat → Nat → Int32) (cnt : Nat) : Nat → Option (Int64 × (Nat → Int32))
  | 0 => some (0, fun _ => 0)
  | i + 1 => match a_fold l r z pl nm cnt i with
    | none => none
    | some u => if a_st l pl i < a_en r pl cnt i then (if p_div (nm i) (a_st l pl i) (a_en r pl cnt i) then none else some (s_ab (nm i) (a_st l pl i) (-z) (s_ab (nm i) (a_en r pl cnt i) z u.1), s_lg (nm i) (a_st l pl i) (-z) (s_lg (nm i) (a_en r pl cnt i) z u.2))) else some u
theorem a_none {l r z : Int32} {pl : Nat → Int32} {nm : Nat → Nat → Int32} {cnt i : Nat} (h : a_fold l r z pl nm cnt i = none) : ∀ n, i ≤ n → a_fold l r z pl nm cnt n = none
  | 0, hn => by rw [← show i = 0 by omega, h]
  | n + 1, hn => by
    rcases Nat.lt_or_ge i (n + 1) with h1 | h1
    · rw [a_fold, a_none h n (by omega)]
    · rw [← show i = n + 1 by omega, h]
theorem a_st9 {l : Int32} {pl : Nat → Int32} {cnt i : Nat} (hl : in9 l) (hp : ∀ j, j < cnt → in9 (pl j)) (hi : i ≤ cnt) : in9 (a_st l pl i) := by
  unfold a_st x_left
  split <;> split <;> first | exact hl | exact hp _ (by omega) | (constructor <;> decide)
theorem a_en9 {r : Int32} {pl : Nat → Int32} {cnt i : Nat} (hr : in9 r) (hp : ∀ j, j < cnt → in9 (pl j)) : in9 (a_en r pl cnt i) := by
  unfold a_en x_right
  split <;> split <;> first | exact hr | exact hp _ (by omega) | (constructor <;> decide)
set_option maxHeartbeats 4000000 in
set_option maxRecDepth 100000 in
theorem c_X2_addParts (l : Launch) (A : Nat → Prop) (D : va_G) (cI cL cQ : ClassId) (fr : va_W) (a : Nat → Nat) (pl : Nat → Int32) (pq nq : Nat → Nat) (nm : Nat → Nat → Int32) (ab : Int64) (lg : Nat → Int32) (cnt : Nat) (hc : cnt ≤ 3) (kn : Int32) (l9 r9 z : Int32) (hl9 : in9 l9) (hr9 : in9 r9) (hp9 : ∀ j, j < cnt → in9 (pl j)) (hn6 : ∀ j, j ≤ cnt → in6 (nm j 7)) : Met l yX2_addParts wsX2_addParts { frames := 3, cells := 0, slots := 0, locals := 70 } (va_Pc [.ref (a 0), .int l9, .int r9, .int z] (wd_B D (ty3 cI cL cQ) A (xw cI cQ a pl pq nq nm ab lg (nI cnt) kn ++ fr))) (va_Qi (fun r (u : Int64 × (Nat → Int32)) => (a_fold l9 r9 z pl nm cnt (cnt + 1) = some u ∧ r = 1) ∨ (a_fold l9 r9 z pl nm cnt (cnt + 1) = none ∧ r = 0)) (fun u t => wd_E D (ty3 cI cL cQ) A (xw cI cQ a pl pq nq nm u.1 u.2 (nI cnt) kn ++ fr) t) A) 0 0 A := by
  refine Met.ofW (cc := cX2_addParts) (maxL := 7) (ret := (some .boolean)) (by decide) rfl ?_
  intro p e s m args below meth c s₁ B hml hv
  obtain ⟨rfl, hG, hK, hP, hD, hA⟩ := hv
  have hx := B.exec
  have hb := B.bytes
  have hr := B.returns
  have hts := atoms_spec (ws := wsX2_addParts) B.pre
  have hg : ∀ w ∈ gw, w.before ([.ref (a 0), .int l9, .int r9, .int z] : List Value).toArray s = true := fun w h => hts w (List.mem_cons_of_mem _ h)
  have hown : s.vm.findClass RX2 = some m.cls := findClass_of_methodNamed B.named
  have hlocks := B.notSynchronized
  have hS : va_S A s.heap s.heap [] := va_S.rf
  have hl := lv_entry ([.ref (a 0), .int l9, .int r9, .int z]) (n := 7) (Nat.le_of_ble_eq_true rfl)
  rw [lg_entry_eq]
  generalize (lg_sl ([.ref (a 0), .int l9, .int r9, .int z]) ++ List.replicate (7 - (lg_sl ([.ref (a 0), .int l9, .int r9, .int z])).length) Slot.unset).toArray = ls at hl ⊢
  have hl : lv_has ls 7 [(0, .ref (a 0)), (1, .int l9), (2, .int r9), (3, .int z)] := hl
  refine lv_aload_n hx hb dX2_addParts_0 rfl (lv_at hl 0 rfl) ?_
  refine va_get (D := D) (ci := 2) (v := .ref (a 3)) (C := RX2) (T := TX2) (N := 5) hx hb hg inX2 hown hK hP 0 rfl rfl 2 (by decide) (hg _ fl_X2_22) (fun _ h9 => h9) rfl dX2_addParts_1 ?_
  refine va_callv (va_runVN (As := []) (rest := []) ⟨hx, hb, hml, hown, hg⟩ (c_X1_wipe l A D cI cL cQ (xw cI cQ a pl pq nq nm ab lg (nI cnt) kn ++ fr) 3 4 (a 3) (a 4) ab lg rfl rfl) ⟨va_cnB 0 hg (gw_C co_X1_wipe) rfl rfl rfl (hG.1 _ mn_X2_147) (hg _ ini_X1) (by decide +kernel) ⟨Nat.le_of_ble_eq_true rfl, Nat.le_of_ble_eq_true rfl⟩, hg _ im_X1_wipe, hg _ se_X1_wipe⟩ ⟨wd_B.blind, va_recv hK hP (ci := 1) (q0 := 3) rfl rfl, (fun U hU hW => ⟨rfl, wd_B.at hG hK hP hD hS hA hU hW⟩)⟩ rfl rfl hl.1 rfl (lv_room (Nat.le_of_ble_eq_true rfl)) dX2_addParts_4 ⟨Nat.le_of_ble_eq_true rfl, Nat.le_of_ble_eq_true rfl⟩) hS (fun q _ h => h) (fun q h => h) (fun u t H1 locs ht hvm hr_1 hB hz1 hk1 hS => ?_)
  obtain ⟨hK, hP, hD⟩ := hB.back ht hvm
  generalize H1 = H at hP hS ⊢
  have hP : va_P D vwCl (xw cI cQ a pl pq nq nm 0 (fun _ => 0) (nI cnt) kn ++ fr) H := hP
  have hD : va_D A (xw cI cQ a pl pq nq nm 0 (fun _ => 0) (nI cnt) kn ++ fr) := hD
  refine lv_iconst (v := 0) hx hb dX2_addParts_7 (by decide) ?_
  refine lv_istore (lv' := [(4, .int 0), (0, .ref (a 0)), (1, .int l9), (2, .int r9), (3, .int z)]) hx hb dX2_addParts_8 hl (by decide) rfl (fun ls hl => ?_)
  have L10 : ∀ (n9 : Nat) (i : Nat) (ab2 : Int64) (lg2 : Nat → Int32) (H : Heap) (locs : List Loc), (i ≤ cnt + 1) → (a_fold l9 r9 z pl nm cnt i = some (ab2, lg2)) → va_P D vwCl (xw cI cQ a pl pq nq nm ab2 lg2 (nI cnt) kn ++ fr) H → va_D A (xw cI cQ a pl pq nq nm ab2 lg2 (nI cnt) kn ++ fr) → va_S A s.heap H locs → (cnt + 1 - i < n9) → ∀ (ls : Array Slot), lv_has ls 7 [(4, .int (nI i)), (0, .ref (a 0)), (1, .int l9), (2, .int r9), (3, .int z)] → W p l e (headSpec wsX2_addParts { frames := 3, cells := 0, slots := 0, locals := 70 }).room s m ([.ref (a 0), .int l9, .int r9, .int z] : List Value).toArray below meth c H locs 0 0 (MQ below (va_Qi (fun r (u : Int64 × (Nat → Int32)) => (a_fold l9 r9 z pl nm cnt (cnt + 1) = some u ∧ r = 1) ∨ (a_fold l9 r9 z pl nm cnt (cnt + 1) = none ∧ r = 0)) (fun u t => wd_E D (ty3 cI cL cQ) A (xw cI cQ a pl pq nq nm u.1 u.2 (nI cnt) kn ++ fr) t) A) ([.ref (a 0), .int l9, .int r9, .int z] : List Value).toArray s 0 0 A) (F0 m 10 ls []) := by
    clear hP hD hS
    intro n10
    induction n10 with
    | zero => intro i ab2 lg2 H locs hi hk hP hD hS h9; exact absurd h9 (by omega)
    | succ n10 ih10 =>
      intro i ab2 lg2 H locs hi hk hP hD hS h9 ls hl
      refine lv_iload hx hb dX2_addParts_10 (lv_at hl 0 rfl) ?_
      refine lv_aload_n hx hb dX2_addParts_12 rfl (lv_at hl 1 rfl) ?_
      refine va_get (D := D) (ci := 2) (v := .int (nI cnt)) (C := RX2) (T := TX2) (N := 5) hx hb hg inX2 hown hK hP 0 rfl rfl 3 (by decide) (hg _ fl_X2_26) (fun _ h9 => h9) rfl dX2_addParts_13 ?_
      refine lv_icmp_gt (tgt := 110) hx hb dX2_addParts_16 (by decide) (fun c_2 => ?_) (fun c_2 => ?_)
      · replace c_2 : cnt < i := (nI_ltI (a := cnt) (b := i) (by omega) (by omega)).mp c_2
        refine lv_iconst (v := 1) hx hb dX2_addParts_110 (by decide) ?_
        exact W.zret (v := 1) hx hb hr rfl (fun t ht hW => ⟨⟨1, (ab2, lg2), rfl, Or.inl ⟨by rw [show cnt + 1 = i by omega, hk], rfl⟩, wd_E.at hK hP hD ht hW⟩, hS.F ht⟩) hS.2.2 dX2_addParts_111
      · replace c_2 : ¬ cnt < i := fun h => c_2 ((nI_ltI (a := cnt) (b := i) (by omega) (by omega)).mpr h)
        refine lv_iload_n hx hb dX2_addParts_19 rfl (lv_at hl 2 rfl) ?_
        refine lv_aload_n hx hb dX2_addParts_20 rfl (lv_at hl 1 rfl) ?_
        refine lv_iload hx hb dX2_addParts_21 (lv_at hl 0 rfl) ?_
        refine vp_callSi (W.runV (As := [.int (nI i)]) (rest := [.int l9]) ⟨hx, hb, hml, hown, hg⟩ (c_X2_leftBorder l D cI cL cQ (a 0) (a 1) [.ref (a 1), .ref (a 2), .ref (a 3), .int (nI cnt), .int kn] rfl cnt rfl hc pl i (by omega)) (cwV 1 hg (gw_V ml_X2_148 im_X2_leftBorder se_X2_leftBorder ini_X2 co_X2_leftBorder) rfl rfl rfl (by decide +kernel) ⟨Nat.le_of_ble_eq_true rfl, Nat.le_of_ble_eq_true rfl⟩) ⟨pu_B.blind, va_recv hK hP (ci := 2) (q0 := 0) rfl rfl, (fun U hU hW => ⟨rfl, pu_B.at hK (va_P2 hP (i := 0) (j := 1) rfl rfl) hU hW⟩)⟩ rfl rfl hl.1 rfl (lv_room (Nat.le_of_ble_eq_true rfl)) dX2_addParts_23 ⟨Nat.le_of_ble_eq_true rfl, Nat.le_of_ble_eq_true rfl⟩) (fun r_3 hr_3 => ?_)
        subst hr_3
        refine va_mmax hx hb (by rw [hml]; exact hl.1.symm) hown (hg _ ml_X2_113) (hg _ sm_Mmax) (hg _ ini_J9) (hg _ co_Mmax) (Nat.le_of_ble_eq_true rfl) (Nat.le_of_ble_eq_true rfl) (Nat.le_of_ble_eq_true rfl) (Nat.le_of_ble_eq_true rfl) dX2_addParts_26 ?_
        refine lv_topi (fun v_4 ev_4 => ?_)
        refine lv_istore (lv' := [(5, .int v_4), (4, .int (nI i)), (0, .ref (a 0)), (1, .int l9), (2, .int r9), (3, .int z)]) hx hb dX2_addParts_29 hl (by decide) rfl (fun ls hl => ?_)
        refine lv_iload_n hx hb dX2_addParts_31 rfl (lv_at hl 4 rfl) ?_
        refine lv_aload_n hx hb dX2_addParts_32 rfl (lv_at hl 2 rfl) ?_
        refine lv_iload hx hb dX2_addParts_33 (lv_at hl 1 rfl) ?_
        refine vp_callSi (W.runV (As := [.int (nI i)]) (rest := [.int r9]) ⟨hx, hb, hml, hown, hg⟩ (c_X2_rightBorder l D cI cL cQ (a 0) (a 1) [.ref (a 1), .ref (a 2), .ref (a 3), .int (nI cnt), .int kn] rfl cnt rfl hc pl i (by omega)) (cwV 1 hg (gw_V ml_X2_151 im_X2_rightBorder se_X2_rightBorder ini_X2 co_X2_rightBorder) rfl rfl rfl (by decide +kernel) ⟨Nat.le_of_ble_eq_true rfl, Nat.le_of_ble_eq_true rfl⟩) ⟨pu_B.blind, va_recv hK hP (ci := 2) (q0 := 0) rfl rfl, (fun U hU hW => ⟨rfl, pu_B.at hK (va_P2 hP (i := 0) (j := 1) rfl rfl) hU hW⟩)⟩ rfl rfl hl.1 rfl (lv_room (Nat.le_of_ble_eq_true rfl)) dX2_addParts_35 ⟨Nat.le_of_ble_eq_true rfl, Nat.le_of_ble_eq_true rfl⟩) (fun r_5 hr_5 => ?_)
        subst hr_5
        refine va_mmin hx hb (by rw [hml]; exact hl.1.symm) hown (hg _ ml_X2_107) (hg _ sm_Mmin) (hg _ ini_J9) (hg _ co_Mmin) (Nat.le_of_ble_eq_true rfl) (Nat.le_of_ble_eq_true rfl) (Nat.le_of_ble_eq_true rfl) (Nat.le_of_ble_eq_true rfl) dX2_addParts_38 ?_
        refine lv_topi (fun v_6 ev_6 => ?_)
        refine lv_istore (lv' := [(6, .int v_6), (5, .int v_4), (4, .int (nI i)), (0, .ref (a 0)), (1, .int l9), (2, .int r9), (3, .int z)]) hx hb dX2_addParts_41 hl (by decide) rfl (fun ls hl => ?_)
        refine lv_iload hx hb dX2_addParts_43 (lv_at hl 1 rfl) ?_
        refine lv_iload hx hb dX2_addParts_45 (lv_at hl 0 rfl) ?_
        refine lv_icmp_ge (tgt := 104) hx hb dX2_addParts_47 (by decide) (fun c_7 => ?_) (fun c_7 => ?_)
        · refine lv_iinc (v := nI (i + 1)) (lv' := [(4, .int (nI (i + 1))), (6, .int v_6), (5, .int v_4), (0, .ref (a 0)), (1, .int l9), (2, .int r9), (3, .int z)]) hx hb dX2_addParts_104 hl (k := 2) rfl (nI_1 i) (by decide) rfl (fun ls hl => ?_)
          refine lv_goto (tgt := 10) hx hb dX2_addParts_107 (by decide) ?_
          exact ih10 (i + 1) ab2 lg2 _ _ (by omega) (by have ea : v_4 = a_st l9 pl i := ev_4; have eb : v_6 = a_en r9 pl cnt i := ev_6; rw [a_fold, hk]; simp only [← ea, ← eb]; rw [if_neg (Int32.not_lt.mpr c_7)]) hP hD hS (by omega) ls (lv_sub hl [0, 3, 4, 5, 6] rfl)
        · refine lv_aload_n hx hb dX2_addParts_50 rfl (lv_at hl 3 rfl) ?_
          refine va_get (D := D) (ci := 2) (v := .ref (a 2)) (C := RX2) (T := TX2) (N := 5) hx hb hg inX2 hown hK hP 0 rfl rfl 1 (by decide) (hg _ fl_X2_15) (fun _ h9 => h9) rfl dX2_addParts_51 ?_
          refine lv_iload hx hb dX2_addParts_54 (lv_at hl 2 rfl) ?_
          refine va_aldq (D := D) (n := 4) (f := (fun j => some (pq j))) hx hb hK hP 2 2 rfl rfl (vp_in_nI (show i < 4 by omega) (by decide)) dX2_addParts_56 ?_
          rw [nI_clamp (show i < 2 ^ 31 by omega)]
          refine W.eq (g2 := F0 m 57 ls [.ref (pq i)]) rfl ?_
          refine lv_iload hx hb dX2_addParts_57 (lv_at hl 1 rfl) ?_
          refine lv_iload hx hb dX2_addParts_59 (lv_at hl 0 rfl) ?_
          refine vp_callSi (va_Run.run (va_runVN (As := [.int v_4, .int v_6]) (rest := []) ⟨hx, hb, hml, hown, hg⟩ (c_X0_diverges l A D cI cL cQ (pq i) (nq i) (nm i) v_4 v_6) ⟨va_cnB 2 hg (gw_C co_X0_diverges) rfl rfl rfl (hG.1 _ mn_X2_154) (hg _ ini_X0) (by decide +kernel) ⟨Nat.le_of_ble_eq_true rfl, Nat.le_of_ble_eq_true rfl⟩, hg _ im_X0_diverges, hg _ se_X0_diverges⟩ ⟨gp_blind, va_recv hK hP (ci := 0) (q0 := 5 + 2 * i) rfl (xw_p (by omega)), (fun U hU hW => ⟨rfl, hG.warm hS hU hW, pu_B.at hK (va_P2 hP (xw_p (k := i) (by omega)) (xw_n (k := i) (by omega))) hU hW⟩)⟩ rfl rfl hl.1 rfl (lv_room (Nat.le_of_ble_eq_true rfl)) dX2_addParts_61 ⟨Nat.le_of_ble_eq_true rfl, Nat.le_of_ble_eq_true rfl⟩)) (fun r_8 hr_8 => ?_)
          subst hr_8
          refine lv_if_eq (tgt := 69) hx hb dX2_addParts_64 (by decide) (fun c_9 => ?_) (fun c_9 => ?_)
          · replace c_9 := zi_0 c_9
            refine lv_aload_n hx hb dX2_addParts_69 rfl (lv_at hl 3 rfl) ?_
            refine va_get (D := D) (ci := 2) (v := .ref (a 3)) (C := RX2) (T := TX2) (N := 5) hx hb hg inX2 hown hK hP 0 rfl rfl 2 (by decide) (hg _ fl_X2_22) (fun _ h9 => h9) rfl dX2_addParts_70 ?_
            refine lv_aload_n hx hb dX2_addParts_73 rfl (lv_at hl 3 rfl) ?_
            refine va_get (D := D) (ci := 2) (v := .ref (a 2)) (C := RX2) (T := TX2) (N := 5) hx hb hg inX2 hown hK hP 0 rfl rfl 1 (by decide) (hg _ fl_X2_15) (fun _ h9 => h9) rfl dX2_addParts_74 ?_
            refine lv_iload hx hb dX2_addParts_77 (lv_at hl 2 rfl) ?_
            refine va_aldq (D := D) (n := 4) (f := (fun j => some (pq j))) hx hb hK hP 2 2 rfl rfl (vp_in_nI (show i < 4 by omega) (by decide)) dX2_addParts_79 ?_
            rw [nI_clamp (show i < 2 ^ 31 by omega)]
            refine W.eq (g2 := F0 m 80 ls [.ref (pq i), .ref (a 3)]) rfl ?_
            refine lv_iload hx hb dX2_addParts_80 (lv_at hl 0 rfl) ?_
            refine lv_iload_n hx hb dX2_addParts_82 rfl (lv_at hl 6 rfl) ?_
            refine va_callv (va_runVN (As := [.ref (pq i), .int v_6, .int z]) (rest := []) ⟨hx, hb, hml, hown, hg⟩ (c_X1_addPrimitive l A D cI cL cQ (xw cI cQ a pl pq nq nm ab2 lg2 (nI cnt) kn ++ fr) 3 4 (a 3) (a 4) ab2 lg2 rfl rfl (5 + 2 * i) (6 + 2 * i) (pq i) (nq i) (nm i) (xw_p (by omega)) (xw_n (by omega)) v_6 z (d_ok (by rw [ev_6]; exact a_en9 hr9 hp9) (hn6 i (by omega)))) ⟨va_cnB 3 hg (gw_C co_X1_addPrimitive) rfl rfl rfl (hG.1 _ mn_X2_157) (hg _ ini_X1) (by decide +kernel) ⟨Nat.le_of_ble_eq_true rfl, Nat.le_of_ble_eq_true rfl⟩, hg _ im_X1_addPrimitive, hg _ se_X1_addPrimitive⟩ ⟨wd_B.blind, va_recv hK hP (ci := 1) (q0 := 3) rfl rfl, (fun U hU hW => ⟨rfl, wd_B.at hG hK hP hD hS hA hU hW⟩)⟩ rfl rfl hl.1 rfl (lv_room (Nat.le_of_ble_eq_true rfl)) dX2_addParts_83 ⟨Nat.le_of_ble_eq_true rfl, Nat.le_of_ble_eq_true rfl⟩) hS (fun q _ h => h) (fun q h => h) (fun u t H1 locs ht hvm hr_10 hB hz1 hk1 hS => ?_)
            obtain ⟨hK, hP, hD⟩ := hB.back ht hvm
            generalize H1 = H at hP hS ⊢
            have hP : va_P D vwCl (xw cI cQ a pl pq nq nm (s_ab (nm i) v_6 z ab2) (s_lg (nm i) v_6 z lg2) (nI cnt) kn ++ fr) H := hP
            have hD : va_D A (xw cI cQ a pl pq nq nm (s_ab (nm i) v_6 z ab2) (s_lg (nm i) v_6 z lg2) (nI cnt) kn ++ fr) := hD
            refine lv_aload_n hx hb dX2_addParts_86 rfl (lv_at hl 3 rfl) ?_
            refine va_get (D := D) (ci := 2) (v := .ref (a 3)) (C := RX2) (T := TX2) (N := 5) hx hb hg inX2 hown hK hP 0 rfl rfl 2 (by decide) (hg _ fl_X2_22) (fun _ h9 => h9) rfl dX2_addParts_87 ?_
            refine lv_aload_n hx hb dX2_addParts_90 rfl (lv_at hl 3 rfl) ?_
            refine va_get (D := D) (ci := 2) (v := .ref (a 2)) (C := RX2) (T := TX2) (N := 5) hx hb hg inX2 hown hK hP 0 rfl rfl 1 (by decide) (hg _ fl_X2_15) (fun _ h9 => h9) rfl dX2_addParts_91 ?_
            refine lv_iload hx hb dX2_addParts_94 (lv_at hl 2 rfl) ?_
            refine va_aldq (D := D) (n := 4) (f := (fun j => some (pq j))) hx hb hK hP 2 2 rfl rfl (vp_in_nI (show i < 4 by omega) (by decide)) dX2_addParts_96 ?_
            rw [nI_clamp (show i < 2 ^ 31 by omega)]
            refine W.eq (g2 := F0 m 97 ls [.ref (pq i), .ref (a 3)]) rfl ?_
            refine lv_iload hx hb dX2_addParts_97 (lv_at hl 1 rfl) ?_
            refine lv_iload_n hx hb dX2_addParts_99 rfl (lv_at hl 6 rfl) ?_
            refine lv_ineg hx hb dX2_addParts_100 ?_
            refine va_callv (va_runVN (As := [.ref (pq i), .int v_4, .int (-z)]) (rest := []) ⟨hx, hb, hml, hown, hg⟩ (c_X1_addPrimitive l A D cI cL cQ (xw cI cQ a pl pq nq nm (s_ab (nm i) v_6 z ab2) (s_lg (nm i) v_6 z lg2) (nI cnt) kn ++ fr) 3 4 (a 3) (a 4) (s_ab (nm i) v_6 z ab2) (s_lg (nm i) v_6 z lg2) rfl rfl (5 + 2 * i) (6 + 2 * i) (pq i) (nq i) (nm i) (xw_p (by omega)) (xw_n (by omega)) v_4 (-z) (d_ok (by rw [ev_4]; exact a_st9 hl9 hp9 (by omega)) (hn6 i (by omega)))) ⟨va_cnB 3 hg (gw_C co_X1_addPrimitive) rfl rfl rfl (hG.1 _ mn_X2_157) (hg _ ini_X1) (by decide +kernel) ⟨Nat.le_of_ble_eq_true rfl, Nat.le_of_ble_eq_true rfl⟩, hg _ im_X1_addPrimitive, hg _ se_X1_addPrimitive⟩ ⟨wd_B.blind, va_recv hK hP (ci := 1) (q0 := 3) rfl rfl, (fun U hU hW => ⟨rfl, wd_B.at hG hK hP hD hS hA hU hW⟩)⟩ rfl rfl hl.1 rfl (lv_room (Nat.le_of_ble_eq_true rfl)) dX2_addParts_101 ⟨Nat.le_of_ble_eq_true rfl, Nat.le_of_ble_eq_true rfl⟩) hS (fun q _ h => h) (fun q h => h) (fun u t H1 locs ht hvm hr_11 hB hz1 hk1 hS => ?_)
            obtain ⟨hK, hP, hD⟩ := hB.back ht hvm
            generalize H1 = H at hP hS ⊢
            have hP : va_P D vwCl (xw cI cQ a pl pq nq nm (s_ab (nm i) v_4 (-z) (s_ab (nm i) v_6 z ab2)) (s_lg (nm i) v_4 (-z) (s_lg (nm i) v_6 z lg2)) (nI cnt) kn ++ fr) H := hP
            have hD : va_D A (xw cI cQ a pl pq nq nm (s_ab (nm i) v_4 (-z) (s_ab (nm i) v_6 z ab2)) (s_lg (nm i) v_4 (-z) (s_lg (nm i) v_6 z lg2)) (nI cnt) kn ++ fr) := hD
            refine lv_iinc (v := nI (i + 1)) (lv' := [(4, .int (nI (i + 1))), (6, .int v_6), (5, .int v_4), (0, .ref (a 0)), (1, .int l9), (2, .int r9), (3, .int z)]) hx hb dX2_addParts_104 hl (k := 2) rfl (nI_1 i) (by decide) rfl (fun ls hl => ?_)
            refine lv_goto (tgt := 10) hx hb dX2_addParts_107 (by decide) ?_
            exact ih10 (i + 1) (s_ab (nm i) v_4 (-z) (s_ab (nm i) v_6 z ab2)) (s_lg (nm i) v_4 (-z) (s_lg (nm i) v_6 z lg2)) _ _ (by omega) (by have ea : v_4 = a_st l9 pl i := ev_4; have eb : v_6 = a_en r9 pl cnt i := ev_6; rw [a_fold, hk]; simp only [← ea, ← eb]; rw [if_pos (Int32.not_le.mp c_7), if_neg (by rw [c_9]; decide)]) hP hD hS (by omega) ls (lv_sub hl [0, 3, 4, 5, 6] rfl)
          · replace c_9 := zi_n0 c_9
            refine lv_iconst (v := 0) hx hb dX2_addParts_67 (by decide) ?_
            exact W.zret (v := 0) hx hb hr rfl (fun t ht hW => ⟨⟨0, (ab2, lg2), rfl, Or.inr ⟨a_none (i := i + 1) (by have ea : v_4 = a_st l9 pl i := ev_4; have eb : v_6 = a_en r9 pl cnt i := ev_6; rw [a_fold, hk]; simp only [← ea, ← eb]; rw [if_pos (Int32.not_le.mp c_7), if_pos c_9]) _ (by omega), rfl⟩, wd_E.at hK hP hD ht hW⟩, hS.F ht⟩) hS.2.2 dX2_addParts_68
  exact L10 ((cnt + 1) + 1) 0 0 (fun _ => 0) _ _ (Nat.zero_le _) (rfl) hP hD hS (Nat.lt_succ_self _) ls (lv_sub hl [0, 1, 2, 3, 4] rfl)
