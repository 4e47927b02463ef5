set_option maxHeartbeats 4000000 in
set_option maxRecDepth 100000 in
theorem c_X1_wipe (l : Launch) (A : Nat → Prop) (D : va_G) (cI cL cQ : ClassId) (ws : va_W) (p1 p2 h g1 : Nat) (ab : Int64) (lg : Nat → Int32) (h1 : ws[p1]? = some (h, .inr (1, [.long ab, .ref g1]))) (h2 : ws[p2]? = some (g1, .inl (cI, 5, .inl lg))) : Met l yX1_wipe wsX1_wipe { frames := 1, cells := 0, slots := 0, locals := 23 } (va_Pc [.ref h] (wd_B D (ty3 cI cL cQ) A (ws))) (va_Qv (fun _ : Unit => True) (fun _ t => wd_E D (ty3 cI cL cQ) A ((ws.set p1 (h, .inr (1, [.long 0, .ref g1]))).set p2 (g1, .inl (cI, 5, .inl (fun _ => 0)))) t) A) 0 0 A := by
  refine Met.ofW (cc := cX1_wipe) (maxL := 1) (ret := none) (by decide) rfl ?_
  intro p e s m args below meth c s₁ B hml hv
  obtain ⟨rfl, hG, hK, hP, hD, hA⟩ := hv
  have hx := B.exec
  have hb := B.bytes
  have hr := B.returns
  have hts := atoms_spec (ws := wsX1_wipe) B.pre
  have hg : ∀ w ∈ gw, w.before ([.ref h] : List Value).toArray s = true := fun w h => hts w (List.mem_cons_of_mem _ h)
  have hown : s.vm.findClass RX1 = some m.cls := findClass_of_methodNamed B.named
  have hlocks := B.notSynchronized
  have hS : va_S A s.heap s.heap [] := va_S.rf
  have hl := lv_entry ([.ref h]) (n := 1) (Nat.le_of_ble_eq_true rfl)
  rw [lg_entry_eq]
  generalize (lg_sl ([.ref h]) ++ List.replicate (1 - (lg_sl ([.ref h])).length) Slot.unset).toArray = ls at hl ⊢
  have hl : lv_has ls 1 [(0, .ref h)] := hl
  have hne12 : p1 ≠ p2 := fun e => by rw [e, h2] at h1; cases h1
  have hne21 : p2 ≠ p1 := fun e => hne12 e.symm
  refine lv_aload_n hx hb dX1_wipe_0 rfl (lv_at hl 0 rfl) ?_
  refine lv_lconst (v := 0) hx hb dX1_wipe_1 (by decide) ?_
  refine va_put (D := D) (ci := 1) (v := .long 0) (ty := .long) (C := RX1) (T := TX1) (N := 2) hx hb hg inX1 tyX1 tyX1_ok nmX1 hown hK hP hD hS p1 h1 rfl 0 (by decide) (hg _ fl_X1_9) (fun _ h9 => h9) rfl (by decide +kernel) rfl rfl (Nat.le_of_ble_eq_true rfl) dX1_wipe_2 (fun H locs hP hD hS => ?_)
  have hP : va_P D vwCl (ws.set p1 (h, .inr (1, [.long 0, .ref g1]))) H := hP
  have hD : va_D A (ws.set p1 (h, .inr (1, [.long 0, .ref g1]))) := hD
  refine lv_aload_n hx hb dX1_wipe_5 rfl (lv_at hl 0 rfl) ?_
  refine va_get (D := D) (ci := 1) (v := .ref g1) (C := RX1) (T := TX1) (N := 2) hx hb hg inX1 hown hK hP p1 (st_at h1 _) rfl 1 (by decide) (hg _ fl_X1_19) (fun _ h9 => h9) rfl dX1_wipe_6 ?_
  refine lv_iconst (v := 0) hx hb dX1_wipe_9 (by decide) ?_
  refine va_callv (va_runS (As := [.ref g1, .int 0]) (rest := []) ⟨hx, hb, hml, hown, hg⟩ (c_J7_fill l A D cI cL cQ (ws.set p1 (h, .inr (1, [.long 0, .ref g1]))) p2 g1 5 (by decide) lg 0 (st_ne h2 hne12)) (va_cwS 2 hg (gw_S ml_X1_22 sm_J7_fill ini_J7 co_J7_fill) rfl rfl rfl (by decide +kernel) ⟨Nat.le_of_ble_eq_true rfl, Nat.le_of_ble_eq_true rfl⟩) ⟨wd_B.blind, (fun U hU hW => ⟨rfl, wd_B.at hG hK hP hD hS hA hU hW⟩)⟩ rfl rfl hl.1 rfl (lv_room (Nat.le_of_ble_eq_true rfl)) dX1_wipe_10 ⟨Nat.le_of_ble_eq_true rfl, Nat.le_of_ble_eq_true rfl⟩) hS (fun q _ h => h) (fun q h => h) (fun u t H1 locs ht hvm hr_1 hB hz1 hk1 hS => ?_)
  obtain ⟨hK, hP, hD⟩ := hB.back ht hvm
  generalize H1 = H at hP hS ⊢
  have hP : va_P D vwCl ((ws.set p1 (h, .inr (1, [.long 0, .ref g1]))).set p2 (g1, .inl (cI, 5, .inl (fun _ => 0)))) H := hP
  have hD : va_D A ((ws.set p1 (h, .inr (1, [.long 0, .ref g1]))).set p2 (g1, .inl (cI, 5, .inl (fun _ => 0)))) := hD
  exact W.vret hx hb hr (fun t ht hW => ⟨⟨(), rfl, trivial, wd_E.at hK hP hD ht hW⟩, hS.F ht⟩) hS.2.2 dX1_wipe_13
set_option maxHeartbeats 4000000 in
set_option maxRecDepth 100000 in
theorem c_X1_addLogarithm (l : Launch) (A : Nat → Prop) (D : va_G) (cI cL cQ : ClassId) (ws : va_W) (p1 p2 h g1 : Nat) (ab : Int64) (lg : Nat → Int32) (h1 : ws[p1]? = some (h, .inr (1, [.long ab, .ref g1]))) (h2 : ws[p2]? = some (g1, .inl (cI, 5, .inl lg))) (n o : Int32) : Met l yX1_addLogarithm wsX1_addLogarithm { frames := 1, cells := 0, slots := 0, locals := 23 } (va_Pc [.ref h, .int n, .int o] (wd_B D (ty3 cI cL cQ) A (ws))) (va_Qv (fun _ : Unit => True) (fun _ t => wd_E D (ty3 cI cL cQ) A (ws.set p2 (g1, .inl (cI, 5, .inl (fun j => lg j + o * nI (x_ti (gl_prime j) 3 n))))) t) A) 0 0 A := by
  refine Met.ofW (cc := cX1_addLogarithm) (maxL := 4) (ret := none) (by decide) rfl ?_
  intro p e s m args below meth c s₁ B hml hv
  obtain ⟨rfl, hG, hK, hP, hD, hA⟩ := hv
  have hx := B.exec
  have hb := B.bytes
  have hr := B.returns
  have hts := atoms_spec (ws := wsX1_addLogarithm) B.pre
  have hg : ∀ w ∈ gw, w.before ([.ref h, .int n, .int o] : List Value).toArray s = true := fun w h => hts w (List.mem_cons_of_mem _ h)
  have hown : s.vm.findClass RX1 = some m.cls := findClass_of_methodNamed B.named
  have hlocks := B.notSynchronized
  have hS : va_S A s.heap s.heap [] := va_S.rf
  have hl := lv_entry ([.ref h, .int n, .int o]) (n := 4) (Nat.le_of_ble_eq_true rfl)
  rw [lg_entry_eq]
  generalize (lg_sl ([.ref h, .int n, .int o]) ++ List.replicate (4 - (lg_sl ([.ref h, .int n, .int o])).length) Slot.unset).toArray = ls at hl ⊢
  have hl : lv_has ls 4 [(0, .ref h), (1, .int n), (2, .int o)] := hl
  obtain ⟨tP, hzP, htP⟩ := hG.2.1
  have hne12 : p1 ≠ p2 := fun e => by rw [e, h2] at h1; cases h1
  have hne21 : p2 ≠ p1 := fun e => hne12 e.symm
  refine lv_iconst (v := 0) hx hb dX1_addLogarithm_0 (by decide) ?_
  refine lv_istore_n (lv' := [(3, .int 0), (0, .ref h), (1, .int n), (2, .int o)]) hx hb dX1_addLogarithm_1 rfl hl (by decide) rfl (fun ls hl => ?_)
  rw [← st_id h2] at hP hD
  have L2 : ∀ (n9 : Nat) (i : Nat) (g : Nat → Int32) (H : Heap) (locs : List Loc), (i ≤ 5) → (∀ j, j < 5 → g j = if j < i then (fun j => lg j + o * nI (x_ti (gl_prime j) 3 n)) j else lg j) → va_P D vwCl (ws.set p2 (g1, .inl (cI, 5, .inl g))) H → va_D A (ws.set p2 (g1, .inl (cI, 5, .inl g))) → va_S A s.heap H locs → (5 - i < n9) → ∀ (ls : Array Slot), lv_has ls 4 [(3, .int (nI i)), (0, .ref h), (1, .int n), (2, .int o)] → W p l e (headSpec wsX1_addLogarithm { frames := 1, cells := 0, slots := 0, locals := 23 }).room s m ([.ref h, .int n, .int o] : List Value).toArray below meth c H locs 0 0 (MQ below (va_Qv (fun _ : Unit => True) (fun _ t => wd_E D (ty3 cI cL cQ) A (ws.set p2 (g1, .inl (cI, 5, .inl (fun j => lg j + o * nI (x_ti (gl_prime j) 3 n))))) t) A) ([.ref h, .int n, .int o] : List Value).toArray s 0 0 A) (F0 m 2 ls []) := by
    clear hP hD hS
    intro n2
    induction n2 with
    | zero => intro i g H locs hi hgv hP hD hS h9; exact absurd h9 (by omega)
    | succ n2 ih2 =>
      intro i g H locs hi hgv hP hD hS h9 ls hl
      refine lv_iload_n hx hb dX1_addLogarithm_2 rfl (lv_at hl 0 rfl) ?_
      refine va_getsN (C := RX2) (n := "PRIMES") (d := "[I") (v := .ref tP) hx hb hzP hS hown (hG.nest fn_X1_15) (fun _ h9 => h9) dX1_addLogarithm_3 ?_
      refine va_tlen (v := 5) hx hb htP hS rfl dX1_addLogarithm_6 ?_
      refine lv_icmp_ge (tgt := 36) hx hb dX1_addLogarithm_7 (by decide) (fun c_1 => ?_) (fun c_1 => ?_)
      · replace c_1 : 5 ≤ i := (nI_leI (a := 5) (b := i) (by omega) (by omega)).mp c_1
        have hP := hP.cg (g := (fun j => lg j + o * nI (x_ti (gl_prime j) 3 n))) (st_at h2 _) (fun j hj => by rw [hgv j hj, if_pos (by omega)])
        have hD := hD.set (e := .inl (cI, 5, .inl (fun j => lg j + o * nI (x_ti (gl_prime j) 3 n)))) (st_at h2 _)
        rw [List.set_set] at hP hD
        exact W.vret hx hb hr (fun t ht hW => ⟨⟨(), rfl, trivial, wd_E.at hK hP hD ht hW⟩, hS.F ht⟩) hS.2.2 dX1_addLogarithm_36
      · replace c_1 : ¬ 5 ≤ i := fun h => c_1 ((nI_leI (a := 5) (b := i) (by omega) (by omega)).mpr h)
        refine lv_aload_n hx hb dX1_addLogarithm_10 rfl (lv_at hl 1 rfl) ?_
        refine va_get (D := D) (ci := 1) (v := .ref g1) (C := RX1) (T := TX1) (N := 2) hx hb hg inX1 hown hK hP p1 (st_ne h1 (by assumption)) rfl 1 (by decide) (hg _ fl_X1_19) (fun _ h9 => h9) rfl dX1_addLogarithm_11 ?_
        refine lv_iload_n hx hb dX1_addLogarithm_14 rfl (lv_at hl 0 rfl) ?_
        refine lv_dup2_11 hx hb dX1_addLogarithm_15 rfl rfl ?_
        refine va_iald (D := D) (n := 5) (f := g) hx hb hK hP p2 0 (st_at h2 _) rfl (vp_in_nI (show i < 5 by omega) (by decide)) dX1_addLogarithm_16 ?_
        rw [nI_clamp (show i < 2 ^ 31 by omega)]
        refine lv_iload_n hx hb dX1_addLogarithm_17 rfl (lv_at hl 3 rfl) ?_
        refine va_getsN (C := RX2) (n := "PRIMES") (d := "[I") (v := .ref tP) hx hb hzP hS hown (hG.nest fn_X1_15) (fun _ h9 => h9) dX1_addLogarithm_18 ?_
        refine lv_iload_n hx hb dX1_addLogarithm_21 rfl (lv_at hl 0 rfl) ?_
        refine va_ti (N := 5) (v := .int (gl_prime i)) hx hb htP hS (vp_in_nI (show i < 5 by omega) (by decide)) (by rw [nI_clamp (show i < 2 ^ 31 by omega)]) dX1_addLogarithm_22 ?_
        refine lv_iload_n hx hb dX1_addLogarithm_23 rfl (lv_at hl 2 rfl) ?_
        refine vp_callSi (va_Run.run (va_runSN (As := [.int (gl_prime i), .int n]) (rest := [.int o, .int (g i), .int (nI i), .ref g1]) ⟨hx, hb, hml, hown, hg⟩ (c_X2_timesIn l (gl_prime i) n) ⟨va_cnB 2 hg (gw_C co_X2_timesIn) rfl rfl rfl (hG.1 _ mn_X1_59) (hg _ ini_X2) (by decide +kernel) ⟨Nat.le_of_ble_eq_true rfl, Nat.le_of_ble_eq_true rfl⟩, hg _ sm_X2_timesIn, trivial⟩ ⟨tt_blind, (fun U hU hW => ⟨rfl, trivial⟩)⟩ rfl rfl hl.1 rfl (lv_room (Nat.le_of_ble_eq_true rfl)) dX1_addLogarithm_24 ⟨Nat.le_of_ble_eq_true rfl, Nat.le_of_ble_eq_true rfl⟩)) (fun r_2 hr_2 => ?_)
        subst hr_2
        refine lv_imul hx hb dX1_addLogarithm_27 ?_
        refine lv_iadd hx hb dX1_addLogarithm_28 ?_
        refine lv_topi (fun v_3 ev_3 => ?_)
        refine va_iast (D := D) (n := 5) (f := g) (x := v_3) hx hb hK hP hD hS p2 0 (st_at h2 _) rfl (vp_in_nI (show i < 5 by omega) (by decide)) dX1_addLogarithm_29 (fun H locs hP hD hS => ?_)
        rw [nI_clamp (show i < 2 ^ 31 by omega)] at hP hD
        rw [List.set_set] at hP hD
        have hP : va_P D vwCl (ws.set p2 (g1, .inl (cI, 5, .inl (upd g i v_3)))) H := hP
        have hD : va_D A (ws.set p2 (g1, .inl (cI, 5, .inl (upd g i v_3)))) := hD
        refine lv_iinc (v := nI (i + 1)) (lv' := [(3, .int (nI (i + 1))), (0, .ref h), (1, .int n), (2, .int o)]) hx hb dX1_addLogarithm_30 hl (k := 0) rfl (nI_1 i) (by decide) rfl (fun ls hl => ?_)
        refine lv_goto (tgt := 2) hx hb dX1_addLogarithm_33 (by decide) ?_
        exact ih2 (i + 1) (upd g i v_3) _ _ (by omega) (fun j hj => by unfold upd; by_cases e : j = i; (subst e; rw [if_pos rfl, if_pos (by omega), ev_3, hgv j hj, if_neg (by omega)]); (rw [if_neg e, hgv j hj]; by_cases e2 : j < i; (rw [if_pos e2, if_pos (by omega)]); (rw [if_neg e2, if_neg (by omega)]))) hP hD hS (by omega) ls (lv_sub hl [0, 1, 2, 3] rfl)
  exact L2 ((5 - 0) + 1) 0 lg _ _ (Nat.zero_le _) (fun j hj => by rw [if_neg (by omega)]) hP hD hS (Nat.lt_succ_self _) ls (lv_sub hl [0, 1, 2, 3] rfl)
def i_abs (v : Int32) : Int32 := if 0 ≤ v then v else 0 - v
def s_ab (f : Nat → Int32) (x z : Int32) (ab : Int64) : Int64 := if x_less x then ab else if p_pole f && !decide (x - f 7 = 0) then ab + z.toInt64 * p_12 f x.toInt64 * 128066400 - (z * f 5).toInt64 * (1536796800 / (x - f 7).toInt64) - (z * f 6).toInt64 * (1536796800 / (2 * (x - f 7) * (x - f 7)).toInt64) else ab + z.toInt64 * p_12 f x.toInt64 * 128066400
def s_lg (f : Nat → Int32) (x z : Int32) (lg : Nat → Int32) (j : Nat) : Int32 := if !x_less x && p_pole f && !decide (x - f 7 = 0) then lg j + z * f 4 * nI (x_ti (gl_prime j) 3 (i_abs (x - f 7))) else lg j
theorem i2l_0 {x : Int32} (h : ¬ x = 0) : ¬ x.toInt64 = 0 := by
  intro e
  apply h
  have h2 := congrArg Int64.toInt e
  rw [Int32.toInt_toInt64] at h2
  exact Int32.toInt_inj.mp (by rw [h2]; rfl)
theorem va_P2 {D : va_G} {cl : List vw_C} {ws : va_W} {H : Heap} {i j : Nat} {x y : Nat × va_E} (hP : va_P D cl ws H) (hi : ws[i]? = some x) (hj : ws[j]? = some y) : va_P D cl [x, y] H := by
  intro k q hk
  match k, hk with
  | 0, hk => cases hk; exact hP i _ hi
  | 1, hk => cases hk; exact hP j _ hj
  | k + 2, hk => simp at hk
set_option maxHeartbeats 4000000 in
set_option maxRecDepth 100000 in
theorem c_X1_addPrimitive (l : Launch) (A : Nat → Prop) (D : va_G) (cI cL cQ : ClassId) (ws : va_W) (p1 p2 h g1 : Nat) (ab : Int64) (lg : Nat → Int32) (h1 : ws[p1]? = some (h, .inr (1, [.long ab, .ref g1]))) (h2 : ws[p2]? = some (g1, .inl (cI, 5, .inl lg))) (p3 p4 hp np : Nat) (f : Nat → Int32) (h3 : ws[p3]? = some (hp, .inr (0, [.ref np]))) (h4 : ws[p4]? = some (np, .inl (cI, 8, .inl f))) (x z : Int32) (hd : ¬ x - f 7 = 0 → ¬ 2 * (x - f 7) * (x - f 7) = 0) : Met l yX1_addPrimitive wsX1_addPrimitive { frames := 2, cells := 0, slots := 0, locals := 46 } (va_Pc [.ref h, .ref hp, .int x, .int z] (wd_B D (ty3 cI cL cQ) A (ws))) (va_Qv (fun _ : Unit => True) (fun _ t => wd_E D (ty3 cI cL cQ) A ((ws.set p1 (h, .inr (1, [.long (s_ab f x z ab), .ref g1]))).set p2 (g1, .inl (cI, 5, .inl (s_lg f x z lg)))) t) A) 0 0 A := by
  refine Met.ofW (cc := cX1_addPrimitive) (maxL := 5) (ret := none) (by decide) rfl ?_
  intro p e s m args below meth c s₁ B hml hv
  obtain ⟨rfl, hG, hK, hP, hD, hA⟩ := hv
  have hx := B.exec
  have hb := B.bytes
  have hr := B.returns
  have hts := atoms_spec (ws := wsX1_addPrimitive) B.pre
  have hg : ∀ w ∈ gw, w.before ([.ref h, .ref hp, .int x, .int z] : List Value).toArray s = true := fun w h => hts w (List.mem_cons_of_mem _ h)
  have hown : s.vm.findClass RX1 = some m.cls := findClass_of_methodNamed B.named
  have hlocks := B.notSynchronized
  have hS : va_S A s.heap s.heap [] := va_S.rf
  have hl := lv_entry ([.ref h, .ref hp, .int x, .int z]) (n := 5) (Nat.le_of_ble_eq_true rfl)
  rw [lg_entry_eq]
  generalize (lg_sl ([.ref h, .ref hp, .int x, .int z]) ++ List.replicate (5 - (lg_sl ([.ref h, .ref hp, .int x, .int z])).length) Slot.unset).toArray = ls at hl ⊢
  have hl : lv_has ls 5 [(0, .ref h), (1, .ref hp), (2, .int x), (3, .int z)] := hl
  have hne12 : p1 ≠ p2 := fun e => by rw [e, h2] at h1; cases h1
  have hne21 : p2 ≠ p1 := fun e => hne12 e.symm
  have hne13 : p1 ≠ p3 := fun e => by rw [e, h3] at h1; cases h1
  have hne14 : p1 ≠ p4 := fun e => by rw [e, h4] at h1; cases h1
  refine lv_iload_n hx hb dX1_addPrimitive_0 rfl (lv_at hl 2 rfl) ?_
  refine vp_callSi (va_Run.run (va_runSN (As := [.int x]) (rest := []) ⟨hx, hb, hml, hown, hg⟩ (c_X2_isEndless l x) ⟨va_cnB 1 hg (gw_C co_X2_isEndless) rfl rfl rfl (hG.1 _ mn_X1_28) (hg _ ini_X2) (by decide +kernel) ⟨Nat.le_of_ble_eq_true rfl, Nat.le_of_ble_eq_true rfl⟩, hg _ sm_X2_isEndless, trivial⟩ ⟨tt_blind, (fun U hU hW => ⟨rfl, trivial⟩)⟩ rfl rfl hl.1 rfl (lv_room (Nat.le_of_ble_eq_true rfl)) dX1_addPrimitive_1 ⟨Nat.le_of_ble_eq_true rfl, Nat.le_of_ble_eq_true rfl⟩)) (fun r_1 hr_1 => ?_)
  subst hr_1
  refine lv_if_eq (tgt := 8) hx hb dX1_addPrimitive_4 (by decide) (fun c_2 => ?_) (fun c_2 => ?_)
  · replace c_2 := zi_0 c_2
    refine lv_aload_n hx hb dX1_addPrimitive_8 rfl (lv_at hl 0 rfl) ?_
    refine lv_dup hx hb dX1_addPrimitive_9 rfl ?_
    refine va_get (D := D) (ci := 1) (v := .long ab) (C := RX1) (T := TX1) (N := 2) hx hb hg inX1 hown hK hP p1 h1 rfl 0 (by decide) (hg _ fl_X1_9) (fun _ h9 => h9) rfl dX1_addPrimitive_10 ?_
    refine lv_iload_n hx hb dX1_addPrimitive_13 rfl (lv_at hl 3 rfl) ?_
    refine lv_i2l hx hb dX1_addPrimitive_14 rfl ?_
    refine lv_aload_n hx hb dX1_addPrimitive_15 rfl (lv_at hl 1 rfl) ?_
    refine lv_iload_n hx hb dX1_addPrimitive_16 rfl (lv_at hl 2 rfl) ?_
    refine lv_i2l hx hb dX1_addPrimitive_17 rfl ?_
    refine vp_callSl (va_Run.run (va_runVN (As := [.long x.toInt64]) (rest := [.long z.toInt64, .long ab, .ref h]) ⟨hx, hb, hml, hown, hg⟩ (c_X0_twelfthsOfPowersPrimitive l D cI cL cQ hp np f x.toInt64) ⟨va_cnB 1 hg (gw_C co_X0_twelfthsOfPowersPrimitive) rfl rfl rfl (hG.1 _ mn_X1_32) (hg _ ini_X0) (by decide +kernel) ⟨Nat.le_of_ble_eq_true rfl, Nat.le_of_ble_eq_true rfl⟩, hg _ im_X0_twelfthsOfPowersPrimitive, hg _ se_X0_twelfthsOfPowersPrimitive⟩ ⟨pu_B.blind, va_recv hK hP (ci := 0) (q0 := p3) rfl h3, (fun U hU hW => ⟨rfl, pu_B.at hK (va_P2 hP h3 h4) hU hW⟩)⟩ rfl rfl hl.1 rfl (lv_room (Nat.le_of_ble_eq_true rfl)) dX1_addPrimitive_18 ⟨Nat.le_of_ble_eq_true rfl, Nat.le_of_ble_eq_true rfl⟩)) (fun r_3 hr_3 => ?_)
    subst hr_3
    refine lv_lmul hx hb dX1_addPrimitive_21 ?_
    refine lv_ldc2 (v := 128066400) hx hb hown (hg _ kl_X1_38) dX1_addPrimitive_22 ?_
    refine lv_lmul hx hb dX1_addPrimitive_25 ?_
    refine lv_ladd hx hb dX1_addPrimitive_26 ?_
    refine lv_topl (fun v_4 ev_4 => ?_)
    refine va_put (D := D) (ci := 1) (v := .long v_4) (ty := .long) (C := RX1) (T := TX1) (N := 2) hx hb hg inX1 tyX1 tyX1_ok nmX1 hown hK hP hD hS p1 h1 rfl 0 (by decide) (hg _ fl_X1_9) (fun _ h9 => h9) rfl (by decide +kernel) rfl rfl (Nat.le_of_ble_eq_true rfl) dX1_addPrimitive_27 (fun H locs hP hD hS => ?_)
    have hP : va_P D vwCl (ws.set p1 (h, .inr (1, [.long v_4, .ref g1]))) H := hP
    have hD : va_D A (ws.set p1 (h, .inr (1, [.long v_4, .ref g1]))) := hD
    refine lv_iload_n hx hb dX1_addPrimitive_30 rfl (lv_at hl 2 rfl) ?_
    refine lv_aload_n hx hb dX1_addPrimitive_31 rfl (lv_at hl 1 rfl) ?_
    refine va_getN (D := D) (ci := 0) (v := .ref np) (C := RX0) (T := TX0) (N := 1) hx hb hg inX0 hown hK hP p3 (st_ne h3 (by assumption)) rfl 0 (by decide) (hG.nest fn_X1_40) (fun _ h9 => h9) rfl dX1_addPrimitive_32 ?_
    refine lv_bipush (v := 7) hx hb dX1_addPrimitive_35 (by decide) ?_
    refine va_iald (D := D) (n := 8) (f := f) hx hb hK hP p4 0 (st_ne h4 (by assumption)) rfl (vp_in_nI (show 7 < 8 by decide) (by decide)) dX1_addPrimitive_37 ?_
    rw [show (7 : Int32).toNatClampNeg = 7 from by decide]
    refine lv_isub hx hb dX1_addPrimitive_38 ?_
    refine lv_topi (fun v_5 ev_5 => ?_)
    refine lv_istore (lv' := [(4, .int v_5), (0, .ref h), (1, .ref hp), (2, .int x), (3, .int z)]) hx hb dX1_addPrimitive_39 hl (by decide) rfl (fun ls hl => ?_)
    refine lv_aload_n hx hb dX1_addPrimitive_41 rfl (lv_at hl 2 rfl) ?_
    refine vp_callSi (va_Run.run (va_runVN (As := []) (rest := []) ⟨hx, hb, hml, hown, hg⟩ (c_X0_hasPole l D cI cL cQ hp np f) ⟨va_cnB 0 hg (gw_C co_X0_hasPole) rfl rfl rfl (hG.1 _ mn_X1_43) (hg _ ini_X0) (by decide +kernel) ⟨Nat.le_of_ble_eq_true rfl, Nat.le_of_ble_eq_true rfl⟩, hg _ im_X0_hasPole, hg _ se_X0_hasPole⟩ ⟨pu_B.blind, va_recv hK hP (ci := 0) (q0 := p3) rfl (st_ne h3 (by assumption)), (fun U hU hW => ⟨rfl, pu_B.at hK (va_P2 hP (st_ne h3 (by assumption)) (st_ne h4 (by assumption))) hU hW⟩)⟩ rfl rfl hl.1 rfl (lv_room (Nat.le_of_ble_eq_true rfl)) dX1_addPrimitive_42 ⟨Nat.le_of_ble_eq_true rfl, Nat.le_of_ble_eq_true rfl⟩)) (fun r_6 hr_6 => ?_)
    subst hr_6
    refine lv_if_eq (tgt := 128) hx hb dX1_addPrimitive_45 (by decide) (fun c_7 => ?_) (fun c_7 => ?_)
    · replace c_7 := zi_0 c_7
      have e0 : (p_pole f && !decide (x - f 7 = 0)) = false := by rw [c_7]; rfl
      have e1 : s_ab f x z ab = v_4 := by rw [s_ab, if_neg (by rw [c_2]; decide), if_neg (by rw [e0]; decide), ev_4]
      have e2 : s_lg f x z lg = lg := by funext j; rw [s_lg, Bool.and_assoc, e0, Bool.and_false]; rfl
      rw [e1, e2, st_id (st_ne h2 hne12)]
      exact W.vret hx hb hr (fun t ht hW => ⟨⟨(), rfl, trivial, wd_E.at hK hP hD ht hW⟩, hS.F ht⟩) hS.2.2 dX1_addPrimitive_128
    · replace c_7 := zi_n0 c_7
      refine lv_iload hx hb dX1_addPrimitive_48 (lv_at hl 0 rfl) ?_
      refine lv_if_eq (tgt := 128) hx hb dX1_addPrimitive_50 (by decide) (fun c_8 => ?_) (fun c_8 => ?_)
      · have e0 : (p_pole f && !decide (x - f 7 = 0)) = false := by rw [← ev_5, decide_eq_true c_8]; simp
        have e1 : s_ab f x z ab = v_4 := by rw [s_ab, if_neg (by rw [c_2]; decide), if_neg (by rw [e0]; decide), ev_4]
        have e2 : s_lg f x z lg = lg := by funext j; rw [s_lg, Bool.and_assoc, e0, Bool.and_false]; rfl
        rw [e1, e2, st_id (st_ne h2 hne12)]
        exact W.vret hx hb hr (fun t ht hW => ⟨⟨(), rfl, trivial, wd_E.at hK hP hD ht hW⟩, hS.F ht⟩) hS.2.2 dX1_addPrimitive_128
      · have hd9 : ¬ 2 * v_5 * v_5 = 0 := by rw [ev_5]; exact hd (by rw [← ev_5]; assumption)
        refine lv_aload_n hx hb dX1_addPrimitive_53 rfl (lv_at hl 1 rfl) ?_
        refine lv_dup hx hb dX1_addPrimitive_54 rfl ?_
        refine va_get (D := D) (ci := 1) (v := .long v_4) (C := RX1) (T := TX1) (N := 2) hx hb hg inX1 hown hK hP p1 (st_at h1 _) rfl 0 (by decide) (hg _ fl_X1_9) (fun _ h9 => h9) rfl dX1_addPrimitive_55 ?_
        refine lv_iload_n hx hb dX1_addPrimitive_58 rfl (lv_at hl 4 rfl) ?_
        refine lv_aload_n hx hb dX1_addPrimitive_59 rfl (lv_at hl 2 rfl) ?_
        refine va_getN (D := D) (ci := 0) (v := .ref np) (C := RX0) (T := TX0) (N := 1) hx hb hg inX0 hown hK hP p3 (st_ne h3 (by assumption)) rfl 0 (by decide) (hG.nest fn_X1_40) (fun _ h9 => h9) rfl dX1_addPrimitive_60 ?_
        refine lv_iconst (v := 5) hx hb dX1_addPrimitive_63 (by decide) ?_
        refine va_iald (D := D) (n := 8) (f := f) hx hb hK hP p4 0 (st_ne h4 (by assumption)) rfl (vp_in_nI (show 5 < 8 by decide) (by decide)) dX1_addPrimitive_64 ?_
        rw [show (5 : Int32).toNatClampNeg = 5 from by decide]
        refine lv_imul hx hb dX1_addPrimitive_65 ?_
        refine lv_i2l hx hb dX1_addPrimitive_66 rfl ?_
        refine lv_ldc2 (v := 1536796800) hx hb hown (hg _ kl_X1_47) dX1_addPrimitive_67 ?_
        refine lv_iload hx hb dX1_addPrimitive_70 (lv_at hl 0 rfl) ?_
        refine lv_i2l hx hb dX1_addPrimitive_72 rfl ?_
        refine lv_ldiv hx hb dX1_addPrimitive_73 (i2l_0 (by assumption)) ?_
        refine lv_lmul hx hb dX1_addPrimitive_74 ?_
        refine lv_lsub hx hb dX1_addPrimitive_75 ?_
        refine lv_topl (fun v_9 ev_9 => ?_)
        refine va_put (D := D) (ci := 1) (v := .long v_9) (ty := .long) (C := RX1) (T := TX1) (N := 2) hx hb hg inX1 tyX1 tyX1_ok nmX1 hown hK hP hD hS p1 (st_at h1 _) rfl 0 (by decide) (hg _ fl_X1_9) (fun _ h9 => h9) rfl (by decide +kernel) rfl rfl (Nat.le_of_ble_eq_true rfl) dX1_addPrimitive_76 (fun H locs hP hD hS => ?_)
        rw [List.set_set] at hP hD
        have hP : va_P D vwCl (ws.set p1 (h, .inr (1, [.long v_9, .ref g1]))) H := hP
        have hD : va_D A (ws.set p1 (h, .inr (1, [.long v_9, .ref g1]))) := hD
        refine lv_aload_n hx hb dX1_addPrimitive_79 rfl (lv_at hl 1 rfl) ?_
        refine lv_dup hx hb dX1_addPrimitive_80 rfl ?_
        refine va_get (D := D) (ci := 1) (v := .long v_9) (C := RX1) (T := TX1) (N := 2) hx hb hg inX1 hown hK hP p1 (st_at h1 _) rfl 0 (by decide) (hg _ fl_X1_9) (fun _ h9 => h9) rfl dX1_addPrimitive_81 ?_
        refine lv_iload_n hx hb dX1_addPrimitive_84 rfl (lv_at hl 4 rfl) ?_
        refine lv_aload_n hx hb dX1_addPrimitive_85 rfl (lv_at hl 2 rfl) ?_
        refine va_getN (D := D) (ci := 0) (v := .ref np) (C := RX0) (T := TX0) (N := 1) hx hb hg inX0 hown hK hP p3 (st_ne h3 (by assumption)) rfl 0 (by decide) (hG.nest fn_X1_40) (fun _ h9 => h9) rfl dX1_addPrimitive_86 ?_
        refine lv_bipush (v := 6) hx hb dX1_addPrimitive_89 (by decide) ?_
        refine va_iald (D := D) (n := 8) (f := f) hx hb hK hP p4 0 (st_ne h4 (by assumption)) rfl (vp_in_nI (show 6 < 8 by decide) (by decide)) dX1_addPrimitive_91 ?_
        rw [show (6 : Int32).toNatClampNeg = 6 from by decide]
        refine lv_imul hx hb dX1_addPrimitive_92 ?_
        refine lv_i2l hx hb dX1_addPrimitive_93 rfl ?_
        refine lv_ldc2 (v := 1536796800) hx hb hown (hg _ kl_X1_47) dX1_addPrimitive_94 ?_
        refine lv_iconst (v := 2) hx hb dX1_addPrimitive_97 (by decide) ?_
        refine lv_iload hx hb dX1_addPrimitive_98 (lv_at hl 0 rfl) ?_
        refine lv_imul hx hb dX1_addPrimitive_100 ?_
        refine lv_iload hx hb dX1_addPrimitive_101 (lv_at hl 0 rfl) ?_
        refine lv_imul hx hb dX1_addPrimitive_103 ?_
        refine lv_i2l hx hb dX1_addPrimitive_104 rfl ?_
        refine lv_ldiv hx hb dX1_addPrimitive_105 (i2l_0 hd9) ?_
        refine lv_lmul hx hb dX1_addPrimitive_106 ?_
        refine lv_lsub hx hb dX1_addPrimitive_107 ?_
        refine lv_topl (fun v_10 ev_10 => ?_)
        refine va_put (D := D) (ci := 1) (v := .long v_10) (ty := .long) (C := RX1) (T := TX1) (N := 2) hx hb hg inX1 tyX1 tyX1_ok nmX1 hown hK hP hD hS p1 (st_at h1 _) rfl 0 (by decide) (hg _ fl_X1_9) (fun _ h9 => h9) rfl (by decide +kernel) rfl rfl (Nat.le_of_ble_eq_true rfl) dX1_addPrimitive_108 (fun H locs hP hD hS => ?_)
        rw [List.set_set] at hP hD
        have hP : va_P D vwCl (ws.set p1 (h, .inr (1, [.long v_10, .ref g1]))) H := hP
        have hD : va_D A (ws.set p1 (h, .inr (1, [.long v_10, .ref g1]))) := hD
        refine lv_aload_n hx hb dX1_addPrimitive_111 rfl (lv_at hl 1 rfl) ?_
        refine lv_iload hx hb dX1_addPrimitive_112 (lv_at hl 0 rfl) ?_
        refine va_mabs hx hb (by rw [hml]; exact hl.1.symm) hown (hg _ ml_X1_49) (hg _ sm_Mabs) (hg _ ini_J9) (hg _ co_Mabs) (Nat.le_of_ble_eq_true rfl) (Nat.le_of_ble_eq_true rfl) (Nat.le_of_ble_eq_true rfl) (Nat.le_of_ble_eq_true rfl) dX1_addPrimitive_114 ?_
        refine lv_iload_n hx hb dX1_addPrimitive_117 rfl (lv_at hl 4 rfl) ?_
        refine lv_aload_n hx hb dX1_addPrimitive_118 rfl (lv_at hl 2 rfl) ?_
        refine va_getN (D := D) (ci := 0) (v := .ref np) (C := RX0) (T := TX0) (N := 1) hx hb hg inX0 hown hK hP p3 (st_ne h3 (by assumption)) rfl 0 (by decide) (hG.nest fn_X1_40) (fun _ h9 => h9) rfl dX1_addPrimitive_119 ?_
        refine lv_iconst (v := 4) hx hb dX1_addPrimitive_122 (by decide) ?_
        refine va_iald (D := D) (n := 8) (f := f) hx hb hK hP p4 0 (st_ne h4 (by assumption)) rfl (vp_in_nI (show 4 < 8 by decide) (by decide)) dX1_addPrimitive_123 ?_
        rw [show (4 : Int32).toNatClampNeg = 4 from by decide]
        refine lv_imul hx hb dX1_addPrimitive_124 ?_
        refine va_callv (va_runV (As := [.int (if 0 ≤ v_5 then v_5 else 0 - v_5), .int (z * (f 4))]) (rest := []) ⟨hx, hb, hml, hown, hg⟩ (c_X1_addLogarithm l A D cI cL cQ (ws.set p1 (h, .inr (1, [.long v_10, .ref g1]))) p1 p2 h g1 v_10 lg (st_at h1 _) (st_ne h2 hne12) (i_abs v_5) (z * f 4)) (cwV 2 hg (gw_V ml_X1_55 im_X1_addLogarithm se_X1_addLogarithm ini_X1 co_X1_addLogarithm) rfl rfl rfl (by decide +kernel) ⟨Nat.le_of_ble_eq_true rfl, Nat.le_of_ble_eq_true rfl⟩) ⟨wd_B.blind, va_recv hK hP (ci := 1) (q0 := p1) rfl (st_at h1 _), (fun U hU hW => ⟨rfl, wd_B.at hG hK hP hD hS hA hU hW⟩)⟩ rfl rfl hl.1 rfl (lv_room (Nat.le_of_ble_eq_true rfl)) dX1_addPrimitive_125 ⟨Nat.le_of_ble_eq_true rfl, Nat.le_of_ble_eq_true rfl⟩) hS (fun q _ h => h) (fun q h => h) (fun u t H1 locs ht hvm hr_11 hB hz1 hk1 hS => ?_)
        obtain ⟨hK, hP, hD⟩ := hB.back ht hvm
        generalize H1 = H at hP hS ⊢
        have hP : va_P D vwCl ((ws.set p1 (h, .inr (1, [.long v_10, .ref g1]))).set p2 (g1, .inl (cI, 5, .inl (fun j => lg j + z * f 4 * nI (x_ti (gl_prime j) 3 (i_abs v_5)))))) H := hP
        have hD : va_D A ((ws.set p1 (h, .inr (1, [.long v_10, .ref g1]))).set p2 (g1, .inl (cI, 5, .inl (fun j => lg j + z * f 4 * nI (x_ti (gl_prime j) 3 (i_abs v_5)))))) := hD
        have e0 : (p_pole f && !decide (x - f 7 = 0)) = true := by rw [← ev_5, c_7, decide_eq_false c_8]; rfl
        have e1 : s_ab f x z ab = v_10 := by rw [s_ab, if_neg (by rw [c_2]; decide), if_pos e0, ev_10, ev_9, ev_5, ev_4]
        have e2 : s_lg f x z lg = fun j => lg j + z * f 4 * nI (x_ti (gl_prime j) 3 (i_abs v_5)) := by funext j; rw [s_lg, Bool.and_assoc, e0, c_2, ev_5]; rfl
        rw [e1, e2]
        exact W.vret hx hb hr (fun t ht hW => ⟨⟨(), rfl, trivial, wd_E.at hK hP hD ht hW⟩, hS.F ht⟩) hS.2.2 dX1_addPrimitive_128
  · replace c_2 := zi_n0 c_2
    have e1 : s_ab f x z ab = ab := by rw [s_ab, if_pos c_2]
    have e2 : s_lg f x z lg = lg := by funext j; simp [s_lg, c_2]
    rw [e1, e2, st_id h1, st_id h2]
    exact W.vret hx hb hr (fun t ht hW => ⟨⟨(), rfl, trivial, wd_E.at hK hP hD ht hW⟩, hS.F ht⟩) hS.2.2 dX1_addPrimitive_7
