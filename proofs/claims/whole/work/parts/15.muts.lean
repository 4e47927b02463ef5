set_option maxHeartbeats 4000000 in
set_option maxRecDepth 100000 in
theorem c_J7_fill (l : Launch) (A : Nat → Prop) (D : va_G) (cI cL cQ : ClassId) (ws : va_W) (p0 a n : Nat) (hn : n < 1000) (f : Nat → Int32) (v : Int32) (h1 : ws[p0]? = some (a, .inl (cI, n, .inl f))) : Met l yJ7_fill wsJ7_fill { frames := 0, cells := 0, slots := 0, locals := 0 } (va_Pc [.ref a, .int v] (wd_B D (ty3 cI cL cQ) A (ws))) (va_Qv (fun _ : Unit => True) (fun _ t => wd_E D (ty3 cI cL cQ) A (ws.set p0 (a, .inl (cI, n, .inl (fun _ => v)))) t) A) 0 0 A := by
  refine Met.ofW (cc := cJ7_fill) (maxL := 4) (ret := none) (by decide) rfl ?_
  intro p e s m args below meth c s₁ B hml hv
  obtain ⟨rfl, hG, hK, hP, hD, hA⟩ := hv
  have hx := B.exec
  have hb := B.bytes
  have hr := B.returns
  have hts := atoms_spec (ws := wsJ7_fill) B.pre
  have hg : ∀ w ∈ gw, w.before ([.ref a, .int v] : List Value).toArray s = true := fun w h => hts w (List.mem_cons_of_mem _ h)
  have hown : s.vm.findClass RJ7 = some m.cls := findClass_of_methodNamed B.named
  have hlocks := B.notSynchronized
  have hS : va_S A s.heap s.heap [] := va_S.rf
  have hl := lv_entry ([.ref a, .int v]) (n := 4) (Nat.le_of_ble_eq_true rfl)
  rw [lg_entry_eq]
  generalize (lg_sl ([.ref a, .int v]) ++ List.replicate (4 - (lg_sl ([.ref a, .int v])).length) Slot.unset).toArray = ls at hl ⊢
  have hl : lv_has ls 4 [(0, .ref a), (1, .int v)] := hl
  refine lv_iconst (v := 0) hx hb dJ7_fill_0 (by decide) ?_
  refine lv_istore_n (lv' := [(2, .int 0), (0, .ref a), (1, .int v)]) hx hb dJ7_fill_1 rfl hl (by decide) rfl (fun ls hl => ?_)
  refine lv_aload_n hx hb dJ7_fill_2 rfl (lv_at hl 1 rfl) ?_
  refine va_alen (D := D) (v := nI n) hx hb hK hP p0 0 h1 rfl rfl dJ7_fill_3 ?_
  refine lv_istore_n (lv' := [(3, .int (nI n)), (2, .int 0), (0, .ref a), (1, .int v)]) hx hb dJ7_fill_4 rfl hl (by decide) rfl (fun ls hl => ?_)
  rw [← st_id h1] at hP hD
  have L5 : ∀ (n9 : Nat) (i : Nat) (g : Nat → Int32) (H : Heap) (locs : List Loc), (i ≤ n) → (∀ j, j < i → g j = v) → va_P D vwCl (ws.set p0 (a, .inl (cI, n, .inl g))) H → va_D A (ws.set p0 (a, .inl (cI, n, .inl g))) → va_S A s.heap H locs → (n - i < n9) → ∀ (ls : Array Slot), lv_has ls 4 [(2, .int (nI i)), (3, .int (nI n)), (0, .ref a), (1, .int v)] → W p l e (headSpec wsJ7_fill { frames := 0, cells := 0, slots := 0, locals := 0 }).room s m ([.ref a, .int v] : List Value).toArray below meth c H locs 0 0 (MQ below (va_Qv (fun _ : Unit => True) (fun _ t => wd_E D (ty3 cI cL cQ) A (ws.set p0 (a, .inl (cI, n, .inl (fun _ => v)))) t) A) ([.ref a, .int v] : List Value).toArray s 0 0 A) (F0 m 5 ls []) := by
    clear hP hD hS
    intro n5
    induction n5 with
    | zero => intro i g H locs hi hgv hP hD hS h9; exact absurd h9 (by omega)
    | succ n5 ih5 =>
      intro i g H locs hi hgv hP hD hS h9 ls hl
      refine lv_iload_n hx hb dJ7_fill_5 rfl (lv_at hl 0 rfl) ?_
      refine lv_iload_n hx hb dJ7_fill_6 rfl (lv_at hl 1 rfl) ?_
      refine lv_icmp_ge (tgt := 20) hx hb dJ7_fill_7 (by decide) (fun c_1 => ?_) (fun c_1 => ?_)
      · replace c_1 : n ≤ i := (nI_leI (a := n) (b := i) (by omega) (by omega)).mp c_1
        have hP := hP.cg (g := fun _ => v) (st_at h1 _) (fun j hj => hgv j (by omega))
        rw [List.set_set] at hP
        have hD : va_D A (ws.set p0 (a, .inl (cI, n, .inl (fun _ => v)))) := by
          have hD2 := hD.set (e := .inl (cI, n, .inl (fun _ => v))) (st_at h1 _)
          rw [List.set_set] at hD2; exact hD2
        exact W.vret hx hb hr (fun t ht hW => ⟨⟨(), rfl, trivial, wd_E.at hK hP hD ht hW⟩, hS.F ht⟩) hS.2.2 dJ7_fill_20
      · replace c_1 : ¬ n ≤ i := fun h => c_1 ((nI_leI (a := n) (b := i) (by omega) (by omega)).mpr h)
        refine lv_aload_n hx hb dJ7_fill_10 rfl (lv_at hl 2 rfl) ?_
        refine lv_iload_n hx hb dJ7_fill_11 rfl (lv_at hl 0 rfl) ?_
        refine lv_iload_n hx hb dJ7_fill_12 rfl (lv_at hl 3 rfl) ?_
        refine va_iast (D := D) (n := n) (f := g) (x := v) hx hb hK hP hD hS p0 0 (st_at h1 _) rfl (vp_in_nI (show i < n by omega) (by omega)) dJ7_fill_13 (fun H locs hP hD hS => ?_)
        rw [nI_clamp (show i < 2 ^ 31 by omega)] at hP hD
        rw [List.set_set] at hP hD
        have hP : va_P D vwCl (ws.set p0 (a, .inl (cI, n, .inl (upd g i v)))) H := hP
        have hD : va_D A (ws.set p0 (a, .inl (cI, n, .inl (upd g i v)))) := hD
        refine lv_iinc (v := nI (i + 1)) (lv' := [(2, .int (nI (i + 1))), (3, .int (nI n)), (0, .ref a), (1, .int v)]) hx hb dJ7_fill_14 hl (k := 0) rfl (nI_1 i) (by decide) rfl (fun ls hl => ?_)
        refine lv_goto (tgt := 5) hx hb dJ7_fill_17 (by decide) ?_
        exact ih5 (i + 1) (upd g i v) _ _ (by omega) (fun j hj => by unfold upd; split; rfl; exact hgv j (by omega)) hP hD hS (by omega) ls (lv_sub hl [0, 1, 2, 3] rfl)
  exact L5 ((n - 0) + 1) 0 f _ _ (Nat.zero_le _) (fun j hj => absurd hj (Nat.not_lt_zero j)) hP hD hS (Nat.lt_succ_self _) ls (lv_sub hl [1, 0, 2, 3] rfl)
set_option maxHeartbeats 4000000 in
set_option maxRecDepth 100000 in
theorem c_X0_wipe (l : Launch) (A : Nat → Prop) (D : va_G) (cI cL cQ : ClassId) (ws : va_W) (p1 p2 h n : Nat) (f : Nat → Int32) (h1 : ws[p1]? = some (h, .inr (0, [.ref n]))) (h2 : ws[p2]? = some (n, .inl (cI, 8, .inl f))) : Met l yX0_wipe wsX0_wipe { frames := 1, cells := 0, slots := 0, locals := 23 } (va_Pc [.ref h] (wd_B D (ty3 cI cL cQ) A (ws))) (va_Qv (fun _ : Unit => True) (fun _ t => wd_E D (ty3 cI cL cQ) A (ws.set p2 (n, .inl (cI, 8, .inl (fun _ => 0)))) t) A) 0 0 A := by
  refine Met.ofW (cc := cX0_wipe) (maxL := 1) (ret := none) (by decide) rfl ?_
  intro p e s m args below meth c s₁ B hml hv
  obtain ⟨rfl, hG, hK, hP, hD, hA⟩ := hv
  have hx := B.exec
  have hb := B.bytes
  have hr := B.returns
  have hts := atoms_spec (ws := wsX0_wipe) B.pre
  have hg : ∀ w ∈ gw, w.before ([.ref h] : List Value).toArray s = true := fun w h => hts w (List.mem_cons_of_mem _ h)
  have hown : s.vm.findClass RX0 = some m.cls := findClass_of_methodNamed B.named
  have hlocks := B.notSynchronized
  have hS : va_S A s.heap s.heap [] := va_S.rf
  have hl := lv_entry ([.ref h]) (n := 1) (Nat.le_of_ble_eq_true rfl)
  rw [lg_entry_eq]
  generalize (lg_sl ([.ref h]) ++ List.replicate (1 - (lg_sl ([.ref h])).length) Slot.unset).toArray = ls at hl ⊢
  have hl : lv_has ls 1 [(0, .ref h)] := hl
  refine lv_aload_n hx hb dX0_wipe_0 rfl (lv_at hl 0 rfl) ?_
  refine va_get (D := D) (ci := 0) (v := .ref n) (C := RX0) (T := TX0) (N := 1) hx hb hg inX0 hown hK hP p1 h1 rfl 0 (by decide) (hg _ fl_X0_9) (fun _ h9 => h9) rfl dX0_wipe_1 ?_
  refine lv_iconst (v := 0) hx hb dX0_wipe_4 (by decide) ?_
  refine va_callv (va_runS (As := [.ref n, .int 0]) (rest := []) ⟨hx, hb, hml, hown, hg⟩ (c_J7_fill l A D cI cL cQ ws p2 n 8 (by decide) f 0 h2) (va_cwS 2 hg (gw_S ml_X0_15 sm_J7_fill ini_J7 co_J7_fill) rfl rfl rfl (by decide +kernel) ⟨Nat.le_of_ble_eq_true rfl, Nat.le_of_ble_eq_true rfl⟩) ⟨wd_B.blind, (fun U hU hW => ⟨rfl, wd_B.at hG hK hP hD hS hA hU hW⟩)⟩ rfl rfl hl.1 rfl (lv_room (Nat.le_of_ble_eq_true rfl)) dX0_wipe_5 ⟨Nat.le_of_ble_eq_true rfl, Nat.le_of_ble_eq_true rfl⟩) hS (fun q _ h => h) (fun q h => h) (fun u t H1 locs ht hvm hr_1 hB hz1 hk1 hS => ?_)
  obtain ⟨hK, hP, hD⟩ := hB.back ht hvm
  generalize H1 = H at hP hS ⊢
  have hP : va_P D vwCl (ws.set p2 (n, .inl (cI, 8, .inl (fun _ => 0)))) H := hP
  have hD : va_D A (ws.set p2 (n, .inl (cI, 8, .inl (fun _ => 0)))) := hD
  exact W.vret hx hb hr (fun t ht hW => ⟨⟨(), rfl, trivial, wd_E.at hK hP hD ht hW⟩, hS.F ht⟩) hS.2.2 dX0_wipe_8
set_option maxHeartbeats 4000000 in
set_option maxRecDepth 100000 in
theorem c_X0_become (l : Launch) (A : Nat → Prop) (D : va_G) (cI cL cQ : ClassId) (ws : va_W) (p1 p2 h n : Nat) (f : Nat → Int32) (h1 : ws[p1]? = some (h, .inr (0, [.ref n]))) (h2 : ws[p2]? = some (n, .inl (cI, 8, .inl f))) (p3 p4 hb2 n2 : Nat) (g : Nat → Int32) (h3 : ws[p3]? = some (hb2, .inr (0, [.ref n2]))) (h4 : ws[p4]? = some (n2, .inl (cI, 8, .inl g))) : Met l yX0_become wsX0_become { frames := 1, cells := 0, slots := 0, locals := 18 } (va_Pc [.ref h, .ref hb2] (wd_B D (ty3 cI cL cQ) A (ws))) (va_Qv (fun _ : Unit => True) (fun _ t => wd_E D (ty3 cI cL cQ) A (ws.set p2 (n, .inl (cI, 8, .inl g))) t) A) 0 0 A := by
  refine Met.ofW (cc := cX0_become) (maxL := 2) (ret := none) (by decide) rfl ?_
  intro p e s m args below meth c s₁ B hml hv
  obtain ⟨rfl, hG, hK, hP, hD, hA⟩ := hv
  have hx := B.exec
  have hb := B.bytes
  have hr := B.returns
  have hts := atoms_spec (ws := wsX0_become) B.pre
  have hg : ∀ w ∈ gw, w.before ([.ref h, .ref hb2] : List Value).toArray s = true := fun w h => hts w (List.mem_cons_of_mem _ h)
  have hown : s.vm.findClass RX0 = some m.cls := findClass_of_methodNamed B.named
  have hlocks := B.notSynchronized
  have hS : va_S A s.heap s.heap [] := va_S.rf
  have hl := lv_entry ([.ref h, .ref hb2]) (n := 2) (Nat.le_of_ble_eq_true rfl)
  rw [lg_entry_eq]
  generalize (lg_sl ([.ref h, .ref hb2]) ++ List.replicate (2 - (lg_sl ([.ref h, .ref hb2])).length) Slot.unset).toArray = ls at hl ⊢
  have hl : lv_has ls 2 [(0, .ref h), (1, .ref hb2)] := hl
  refine lv_aload_n hx hb dX0_become_0 rfl (lv_at hl 1 rfl) ?_
  refine va_get (D := D) (ci := 0) (v := .ref n2) (C := RX0) (T := TX0) (N := 1) hx hb hg inX0 hown hK hP p3 h3 rfl 0 (by decide) (hg _ fl_X0_9) (fun _ h9 => h9) rfl dX0_become_1 ?_
  refine lv_iconst (v := 0) hx hb dX0_become_4 (by decide) ?_
  refine lv_aload_n hx hb dX0_become_5 rfl (lv_at hl 0 rfl) ?_
  refine va_get (D := D) (ci := 0) (v := .ref n) (C := RX0) (T := TX0) (N := 1) hx hb hg inX0 hown hK hP p1 h1 rfl 0 (by decide) (hg _ fl_X0_9) (fun _ h9 => h9) rfl dX0_become_6 ?_
  refine lv_iconst (v := 0) hx hb dX0_become_9 (by decide) ?_
  refine lv_bipush (v := 8) hx hb dX0_become_10 (by decide) ?_
  refine va_copyi (D := D) (n0 := 8) (n1 := 8) (f := g) (g := f) (ty := .int) hx hb (by rw [hml]; exact hl.1.symm) hown (hg _ ml_X0_21) (hg _ na_arraycopy) (hg _ sm_arraycopy) (hg _ ini_J10) hK hP hD hS p4 p2 0 0 h4 h2 rfl rfl rfl (by decide) (by decide) (by decide) (by decide) (by decide) (fun i _ => rfl) (Nat.le_of_ble_eq_true rfl) (Nat.le_of_ble_eq_true rfl) dX0_become_12 (fun H locs hP hD hS => ?_)
  rw [show (0 : Int32).toNatClampNeg = 0 from by decide, show (8 : Int32).toNatClampNeg = 8 from by decide] at hP hD
  have hP := hP.cg (g := g) (st_at h2 _) (fun j hj => by rw [pk_cpy_in (Nat.zero_le j) (by omega)]; congr 1; omega)
  have hD := hD.set (e := .inl (cI, 8, .inl g)) (st_at h2 _)
  rw [List.set_set] at hP hD
  exact W.vret hx hb hr (fun t ht hW => ⟨⟨(), rfl, trivial, wd_E.at hK hP hD ht hW⟩, hS.F ht⟩) hS.2.2 dX0_become_15
set_option maxHeartbeats 4000000 in
set_option maxRecDepth 100000 in
theorem c_X0_turnRound (l : Launch) (A : Nat → Prop) (D : va_G) (cI cL cQ : ClassId) (ws : va_W) (p1 p2 h n : Nat) (f : Nat → Int32) (h1 : ws[p1]? = some (h, .inr (0, [.ref n]))) (h2 : ws[p2]? = some (n, .inl (cI, 8, .inl f))) : Met l yX0_turnRound wsX0_turnRound { frames := 0, cells := 0, slots := 0, locals := 0 } (va_Pc [.ref h] (wd_B D (ty3 cI cL cQ) A (ws))) (va_Qv (fun _ : Unit => True) (fun _ t => wd_E D (ty3 cI cL cQ) A (ws.set p2 (n, .inl (cI, 8, .inl (fun j => f j * gl_sign j)))) t) A) 0 0 A := by
  refine Met.ofW (cc := cX0_turnRound) (maxL := 2) (ret := none) (by decide) rfl ?_
  intro p e s m args below meth c s₁ B hml hv
  obtain ⟨rfl, hG, hK, hP, hD, hA⟩ := hv
  have hx := B.exec
  have hb := B.bytes
  have hr := B.returns
  have hts := atoms_spec (ws := wsX0_turnRound) B.pre
  have hg : ∀ w ∈ gw, w.before ([.ref h] : List Value).toArray s = true := fun w h => hts w (List.mem_cons_of_mem _ h)
  have hown : s.vm.findClass RX0 = some m.cls := findClass_of_methodNamed B.named
  have hlocks := B.notSynchronized
  have hS : va_S A s.heap s.heap [] := va_S.rf
  have hl := lv_entry ([.ref h]) (n := 2) (Nat.le_of_ble_eq_true rfl)
  rw [lg_entry_eq]
  generalize (lg_sl ([.ref h]) ++ List.replicate (2 - (lg_sl ([.ref h])).length) Slot.unset).toArray = ls at hl ⊢
  have hl : lv_has ls 2 [(0, .ref h)] := hl
  obtain ⟨tM, hzM, htM⟩ := hG.2.2.1
  have hne : p2 ≠ p1 := fun e => by rw [e, h1] at h2; cases h2
  refine lv_iconst (v := 0) hx hb dX0_turnRound_0 (by decide) ?_
  refine lv_istore_n (lv' := [(1, .int 0), (0, .ref h)]) hx hb dX0_turnRound_1 rfl hl (by decide) rfl (fun ls hl => ?_)
  rw [← st_id h2] at hP hD
  have L2 : ∀ (n9 : Nat) (i : Nat) (g : Nat → Int32) (H : Heap) (locs : List Loc), (i ≤ 8) → (∀ j, j < 8 → g j = if j < i then f j * gl_sign j else f j) → va_P D vwCl (ws.set p2 (n, .inl (cI, 8, .inl g))) H → va_D A (ws.set p2 (n, .inl (cI, 8, .inl g))) → va_S A s.heap H locs → (8 - i < n9) → ∀ (ls : Array Slot), lv_has ls 2 [(1, .int (nI i)), (0, .ref h)] → W p l e (headSpec wsX0_turnRound { frames := 0, cells := 0, slots := 0, locals := 0 }).room s m ([.ref h] : List Value).toArray below meth c H locs 0 0 (MQ below (va_Qv (fun _ : Unit => True) (fun _ t => wd_E D (ty3 cI cL cQ) A (ws.set p2 (n, .inl (cI, 8, .inl (fun j => f j * gl_sign j)))) t) A) ([.ref h] : List Value).toArray s 0 0 A) (F0 m 2 ls []) := by
    clear hP hD hS
    intro n2
    induction n2 with
    | zero => intro i g H locs hi hgv hP hD hS h9; exact absurd h9 (by omega)
    | succ n2 ih2 =>
      intro i g H locs hi hgv hP hD hS h9 ls hl
      refine lv_iload_n hx hb dX0_turnRound_2 rfl (lv_at hl 0 rfl) ?_
      refine lv_bipush (v := 8) hx hb dX0_turnRound_3 (by decide) ?_
      refine lv_icmp_ge (tgt := 28) hx hb dX0_turnRound_5 (by decide) (fun c_1 => ?_) (fun c_1 => ?_)
      · replace c_1 : 8 ≤ i := (nI_leI (a := 8) (b := i) (by omega) (by omega)).mp c_1
        have hP := hP.cg (g := fun j => f j * gl_sign j) (st_at h2 _) (fun j hj => by rw [hgv j hj, if_pos (by omega)])
        have hD := hD.set (e := .inl (cI, 8, .inl (fun j => f j * gl_sign j))) (st_at h2 _)
        rw [List.set_set] at hP hD
        exact W.vret hx hb hr (fun t ht hW => ⟨⟨(), rfl, trivial, wd_E.at hK hP hD ht hW⟩, hS.F ht⟩) hS.2.2 dX0_turnRound_28
      · replace c_1 : ¬ 8 ≤ i := fun h => c_1 ((nI_leI (a := 8) (b := i) (by omega) (by omega)).mpr h)
        refine lv_aload_n hx hb dX0_turnRound_8 rfl (lv_at hl 1 rfl) ?_
        refine va_get (D := D) (ci := 0) (v := .ref n) (C := RX0) (T := TX0) (N := 1) hx hb hg inX0 hown hK hP p1 (st_ne h1 (by assumption)) rfl 0 (by decide) (hg _ fl_X0_9) (fun _ h9 => h9) rfl dX0_turnRound_9 ?_
        refine lv_iload_n hx hb dX0_turnRound_12 rfl (lv_at hl 0 rfl) ?_
        refine lv_dup2_11 hx hb dX0_turnRound_13 rfl rfl ?_
        refine va_iald (D := D) (n := 8) (f := g) hx hb hK hP p2 0 (st_at h2 _) rfl (vp_in_nI (show i < 8 by omega) (by decide)) dX0_turnRound_14 ?_
        rw [nI_clamp (show i < 2 ^ 31 by omega)]
        refine va_getsN (C := RX2) (n := "MIRROR_SIGNS") (d := "[I") (v := .ref tM) hx hb hzM hS hown (hG.nest fn_X0_27) (fun _ h9 => h9) dX0_turnRound_15 ?_
        refine lv_iload_n hx hb dX0_turnRound_18 rfl (lv_at hl 0 rfl) ?_
        refine va_ti (N := 8) (v := .int (gl_sign i)) hx hb htM hS (vp_in_nI (show i < 8 by omega) (by decide)) (by rw [nI_clamp (show i < 2 ^ 31 by omega)]) dX0_turnRound_19 ?_
        refine lv_imul hx hb dX0_turnRound_20 ?_
        refine lv_topi (fun v_2 ev_2 => ?_)
        refine va_iast (D := D) (n := 8) (f := g) (x := v_2) hx hb hK hP hD hS p2 0 (st_at h2 _) rfl (vp_in_nI (show i < 8 by omega) (by decide)) dX0_turnRound_21 (fun H locs hP hD hS => ?_)
        rw [nI_clamp (show i < 2 ^ 31 by omega)] at hP hD
        rw [List.set_set] at hP hD
        have hP : va_P D vwCl (ws.set p2 (n, .inl (cI, 8, .inl (upd g i v_2)))) H := hP
        have hD : va_D A (ws.set p2 (n, .inl (cI, 8, .inl (upd g i v_2)))) := hD
        refine lv_iinc (v := nI (i + 1)) (lv' := [(1, .int (nI (i + 1))), (0, .ref h)]) hx hb dX0_turnRound_22 hl (k := 0) rfl (nI_1 i) (by decide) rfl (fun ls hl => ?_)
        refine lv_goto (tgt := 2) hx hb dX0_turnRound_25 (by decide) ?_
        exact ih2 (i + 1) (upd g i v_2) _ _ (by omega) (fun j hj => by unfold upd; by_cases e : j = i; (subst e; rw [if_pos rfl, if_pos (by omega), ev_2, hgv j hj, if_neg (by omega)]); (rw [if_neg e, hgv j hj]; by_cases e2 : j < i; (rw [if_pos e2, if_pos (by omega)]); (rw [if_neg e2, if_neg (by omega)]))) hP hD hS (by omega) ls (lv_sub hl [0, 1] rfl)
  exact L2 ((8 - 0) + 1) 0 f _ _ (Nat.zero_le _) (fun j hj => by rw [if_neg (by omega)]) hP hD hS (Nat.lt_succ_self _) ls (lv_sub hl [0, 1] rfl)
