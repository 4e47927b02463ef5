/-! the start: what is given, the two objects, the array of one long -/
theorem st_str : ∀ q ∈ gl_strs, Cond.stringRef RX2 q.1 q.2 ∈ lw_tbl := by decide +kernel
theorem st_lp : Cond.laysStatic RX2 "PRIMES" "[I" ∈ lw_tbl := by decide +kernel
theorem st_lm : Cond.laysStatic RX2 "MIRROR_SIGNS" "[I" ∈ lw_tbl := by decide +kernel
theorem st_lu : Cond.laysStatic Bundle.tN "UNASSIGNED_STACK" Bundle.steD ∈ lw_tbl := by decide +kernel
theorem st_l9 : Cond.laysStatic Bundle.tN "SUPPRESSED_SENTINEL" Bundle.listD ∈ lw_tbl := by decide +kernel
theorem st_it : Cond.initialized Bundle.tN ∈ lw_tbl := by decide +kernel
theorem st_ao : Cond.arrayOver (.object RX0) ∈ lw_tbl := by decide +kernel
theorem st_nc : ∀ q ∈ gl_ncs, Cond.not (.castable q.1 q.2) ∈ flatC (Jvm.Cond.and given_1 narrow_1) := by decide +kernel
theorem st_su : Cond.isRef (.static Bundle.tN "UNASSIGNED_STACK" Bundle.steD) ∈ flatC (Jvm.Cond.and given_1 narrow_1) := by decide +kernel
theorem st_ss : Cond.isRef (.static Bundle.tN "SUPPRESSED_SENTINEL" Bundle.listD) ∈ flatC (Jvm.Cond.and given_1 narrow_1) := by decide +kernel
theorem st_pa : Cond.arrayOf (.static RX2 "PRIMES" "[I") .int ∈ flatC (Jvm.Cond.and given_1 narrow_1) := by decide +kernel
theorem st_pn : Cond.eq (.length (.static RX2 "PRIMES" "[I")) (.int 5) ∈ flatC (Jvm.Cond.and given_1 narrow_1) := by decide +kernel
theorem st_pe : ∀ j ∈ List.range 5, Cond.eq (.elem (.static RX2 "PRIMES" "[I") (.int (Int32.ofNat j))) (.int (gl_prime j)) ∈ flatC (Jvm.Cond.and given_1 narrow_1) := by decide +kernel
theorem st_ma : Cond.arrayOf (.static RX2 "MIRROR_SIGNS" "[I") .int ∈ flatC (Jvm.Cond.and given_1 narrow_1) := by decide +kernel
theorem st_mn : Cond.eq (.length (.static RX2 "MIRROR_SIGNS" "[I")) (.int 8) ∈ flatC (Jvm.Cond.and given_1 narrow_1) := by decide +kernel
theorem st_me : ∀ j ∈ List.range 8, Cond.eq (.elem (.static RX2 "MIRROR_SIGNS" "[I") (.int (Int32.ofNat j))) (.int (gl_sign j)) ∈ flatC (Jvm.Cond.and given_1 narrow_1) := by decide +kernel
theorem st_G {s : State} {b : Nat} (hts : ∀ w ∈ lw_tbl, w.before #[Value.ref b] s = true) (hgv : (Jvm.Cond.and given_1 narrow_1).before #[Value.ref b] s = true) (hX2 : ∃ c, s.vm.findClass RX2 = some c) : gl_G (lA s) s s.heap := by
  have hn := flat_of_before _ hgv
  have hA : ∀ a : Nat, a < s.heap.size → ¬ lA s a := fun a h => Nat.not_le.mpr h
  have hini := hts _ (gw_tbl _ ini_X2)
  refine ⟨fun w hw => va_Nw.of (gn_on hw) (hts w (gn_tbl w hw)), ?_, ?_, ?_, vx_Zqof (hts _ st_lu) (hts _ st_it) (hn _ st_su) hA, vx_Zqof (hts _ st_l9) (hts _ st_it) (hn _ st_ss) hA, fun q hq => va_Nc.of (hn _ (st_nc q hq))⟩
  · obtain ⟨t, ht, hT⟩ := va_Tof (tm := .static RX2 "PRIMES" "[I") (ty := .int) (N := 5) (f := fun k => .int (gl_prime k)) (A := lA s) (by decide) (hn _ st_pa) (va_eqt (hn _ st_pn)) (fun j hj => va_eqt (hn _ (st_pe j (List.mem_range.mpr hj)))) hA
    exact ⟨t, va_Zof (hts _ st_lp) hini ht hA, hT⟩
  · obtain ⟨t, ht, hT⟩ := va_Tof (tm := .static RX2 "MIRROR_SIGNS" "[I") (ty := .int) (N := 8) (f := fun k => .int (gl_sign k)) (A := lA s) (by decide) (hn _ st_ma) (va_eqt (hn _ st_mn)) (fun j hj => va_eqt (hn _ (st_me j (List.mem_range.mpr hj)))) hA
    exact ⟨t, va_Zof (hts _ st_lm) hini ht hA, hT⟩
  · intro q hq
    obtain ⟨cur, hcur⟩ := hX2
    have h1 := hts _ (st_str q hq)
    obtain ⟨k, cf, i, a, -, -, -, -, -, he⟩ := Cond.stringRef_spec hcur h1
    exact ⟨a, vk_R.of h1 he⟩
theorem st_ac {s : State} {args : Array Value} {ty : FieldType} (hty : va_RA s = va_RA s) (h : (Cond.arrayClass ty).before args s = true) : ∃ cA, ArrOfT s cA ty ∧ s.vm.findClass ("[" ++ ty.toString) = some cA := by
  obtain ⟨cA, k, comp, h1, h2, h3⟩ := Cond.arrayClass_spec h
  exact ⟨cA, fun N z => ⟨(fun k h => by cases h), k, h2, comp, h3⟩, h1⟩
theorem st_K {s : State} {b : Nat} (hts : ∀ w ∈ lw_tbl, w.before #[Value.ref b] s = true) : ∃ (D : va_G) (cI cL cQ : ClassId), va_K D vwCl (ty3 cI cL cQ) s := by
  have hg : ∀ w ∈ gw, w.before #[Value.ref b] s = true := fun w h => hts w (gw_tbl w h)
  obtain ⟨c0, i0, h0⟩ := u_known (C := RX0) (T := TX0) (N := 1) hg inX0 (hg _ ib_X0)
  obtain ⟨c1, i1, h1⟩ := u_known (C := RX1) (T := TX1) (N := 2) hg inX1 (hg _ ib_X1)
  obtain ⟨c2, i2, h2⟩ := u_known (C := RX2) (T := TX2) (N := 5) hg inX2 (hg _ ib_X2)
  obtain ⟨c3, i3, h3⟩ := u_known (C := RX3) (T := TX3) (N := 13) hg inX3 (hg _ ib_X3)
  obtain ⟨cI, hI1, hI2⟩ := st_ac rfl (hg _ ac_int)
  obtain ⟨cL, hL1, hL2⟩ := st_ac rfl (hg _ ac_long)
  obtain ⟨comp, cQ, k, q1, -, q3, q4, q5⟩ := Cond.arrayOver_spec (hts _ st_ao)
  refine ⟨(fun k => if k = 0 then c0 else if k = 1 then c1 else if k = 2 then c2 else c3, fun k => if k = 0 then i0 else if k = 1 then i1 else if k = 2 then i2 else i3), cI, cL, cQ, ?_, ?_⟩
  · intro k q hq
    match k, hq with
    | 0, hq => cases hq; exact h0
    | 1, hq => cases hq; exact h1
    | 2, hq => cases hq; exact h2
    | 3, hq => cases hq; exact h3
    | k + 4, hq => simp [vwCl] at hq
  · intro k q hq
    match k, hq with
    | 0, hq => cases hq; exact ⟨hI1, hI2⟩
    | 1, hq => cases hq; exact ⟨hL1, hL2⟩
    | 2, hq => cases hq; exact ⟨fun N z => ⟨(fun k h => by cases h), _, q3, comp, q4⟩, _, comp, q3, q4, q1, q5⟩
    | k + 3, hq => simp [ty3] at hq
set_option maxHeartbeats 4000000 in
set_option maxRecDepth 100000 in
/-- from the entry, for every script of at most 2048 ints, the law comes to its end with true -/
theorem whole_start {p : Program} {e : Env} {s : State} {m : MethodId} {below : List Frame} {meth : Method} {c : Code} (l : Launch) (hlt : l.stackTraces = false) {b L : Nat} {xs : Nat → Int32} (hL : L ≤ 2048) (C0 : lw_At p s m meth c b L xs) : W p l e room_1 s m #[Value.ref b] below meth c s.heap [] 0 0 (lw_Z below #[Value.ref b] s) (entryFrame m ([Value.ref b] : List Value).toArray 8) := by
  obtain ⟨hx, hb, hr, hml, hown, hts, hX, hbl, hlocks, hgv⟩ := C0
  have hb : c.code = cL_law := hb
  have hown : s.vm.findClass RL = some m.cls := hown
  have hg : ∀ w ∈ gw, w.before #[Value.ref b] s = true := fun w h => hts w (gw_tbl w h)
  obtain ⟨D, cI, cL, cQ, hK⟩ := st_K hts
  have hG := st_G hts hgv ⟨_, (hK.1 2 _ rfl).2.1⟩
  have hA : ∀ q : Nat, s.heap.size ≤ q → lA s q := fun _ h => h
  have hAO : va_AO RX0 s := va_AO.of (hts _ st_ao)
  have hS : va_S (lA s) s.heap s.heap [] := va_S.rf
  have hP : va_P D vwCl [] s.heap := fun k q h => by simp at h
  have hD : va_D (lA s) [] := ⟨fun i j p q h => by simp at h, fun k q h => by simp at h⟩
  have C : lw_C p l s m meth c D cI cL cQ b L xs := ⟨hx, hb, hr, hml, hown, hg, hG, hK, hX, hbl, hlocks, hlt, hL⟩
  have hl := lv_entry ([.ref b]) (n := 8) (Nat.le_of_ble_eq_true rfl)
  rw [lg_entry_eq]
  generalize (lg_sl ([.ref b]) ++ List.replicate (8 - (lg_sl ([.ref b])).length) Slot.unset).toArray = ls at hl ⊢
  have hl : lv_has ls 8 [(0, .ref b)] := hl
  refine va_new (D := D) (ci := 2) (fs := [.null, .null, .null, .int 0, .int 0]) (C := RX2) (T := TX2) (N := 5) hx hb hg inX2 tyX2 tyX2_ok hown (hg _ cl_L_8) (hg _ ib_X2) (hg _ ini_X2) hK hP hD hS hA rfl (fun j hj => by rcases (show j = 0 ∨ j = 1 ∨ j = 2 ∨ j = 3 ∨ j = 4 by omega) with rfl | rfl | rfl | rfl | rfl <;> rfl) (Nat.le_of_ble_eq_true rfl) (Nat.le_of_ble_eq_true rfl) dL_law_0 (fun h H hP hD hS => ?_)
  have hP : va_P D vwCl ([(h, .inr (2, [.null, .null, .null, .int 0, .int 0]))] ++ []) H := hP
  have hD : va_D (lA s) ([(h, .inr (2, [.null, .null, .null, .int 0, .int 0]))] ++ []) := hD
  refine lv_dup hx hb dL_law_3 rfl ?_
  refine va_callv (va_runI (As := []) (rest := [.ref h]) ⟨hx, hb, hml, hown, hg⟩ (c_X2_init l (lA s) D cI cL cQ [] h) (cwI 0 hg (gw_C co_X2_init) rfl rfl rfl (hg _ ini_X2) (hg _ ml_L_49) (hg _ im_X2_init) rfl (by decide +kernel) ⟨Nat.le_of_ble_eq_true rfl, Nat.le_of_ble_eq_true rfl⟩) ⟨fun _ U _ _ q => ⟨q.1, va_AO.moved (Vm.Alike.refl U.vm) q.2.1, (wd_B.blind _ U _ _ ⟨q.1, q.2.2⟩).2⟩, fun U hU hW => ⟨rfl, va_AO.moved hW.alike hAO, wd_B.at hG hK hP hD hS hA hU hW⟩⟩ rfl rfl hl.1 rfl (lv_room (Nat.le_of_ble_eq_true rfl)) dL_law_4 ⟨Nat.le_of_ble_eq_true rfl, Nat.le_of_ble_eq_true rfl⟩) hS (fun q _ h => h) (fun q h => h) (fun u t H1 locs ht hvm hu hB hz1 hk1 hS => ?_)
  obtain ⟨a, pq, nq⟩ := u
  obtain ⟨hK1, hP1, hD1⟩ := hB.back ht hvm
  generalize H1 = H at hP1 hS ⊢
  clear hP hD hB hk1
  obtain rfl : a 0 = h := hu
  have hP : va_P D vwCl (xw cI cQ a (fun _ => 0) pq nq (fun _ _ => 0) 0 (fun _ => 0) 0 0 ++ []) H := hP1
  have hD : va_D (lA s) (xw cI cQ a (fun _ => 0) pq nq (fun _ _ => 0) 0 (fun _ => 0) 0 0 ++ []) := hD1
  refine W.widen (k := 13) (n := 55) (Nat.le_of_ble_eq_true rfl) (Nat.le_of_ble_eq_true rfl) ?_
  refine lv_astore_n (lv' := [(1, .ref (a 0)), (0, .ref b)]) hx hb dL_law_7 rfl hl (by decide) rfl (fun ls hl => ?_)
  refine va_new (D := D) (ci := 3) (fs := [.int 0, .int 0, .null, .null, .null, .null, .int 0, .long 0, .long 0, .null, .long 0, .long 0, .null]) (C := RX3) (T := TX3) (N := 13) hx hb hg inX3 tyX3 tyX3_ok hown (hg _ cl_L_50) (hg _ ib_X3) (hg _ ini_X3) hK hP hD hS hA rfl (fun j hj => by rcases (show j = 0 ∨ j = 1 ∨ j = 2 ∨ j = 3 ∨ j = 4 ∨ j = 5 ∨ j = 6 ∨ j = 7 ∨ j = 8 ∨ j = 9 ∨ j = 10 ∨ j = 11 ∨ j = 12 by omega) with rfl | rfl | rfl | rfl | rfl | rfl | rfl | rfl | rfl | rfl | rfl | rfl | rfl <;> rfl) (Nat.le_of_ble_eq_true rfl) (Nat.le_of_ble_eq_true rfl) dL_law_8 (fun h H hP hD hS => ?_)
  have hP := hP.sub (ws' := [(h, .inr (3, [.int 0, .int 0, .null, .null, .null, .null, .int 0, .long 0, .long 0, .null, .long 0, .long 0, .null]))] ++ xw cI cQ a (fun _ => 0) pq nq (fun _ _ => 0) 0 (fun _ => 0) 0 0) [13, 0, 1, 2, 3, 4, 5, 6, 7, 8, 9, 10, 11, 12] rfl
  have hD := hD.sub (ws' := [(h, .inr (3, [.int 0, .int 0, .null, .null, .null, .null, .int 0, .long 0, .long 0, .null, .long 0, .long 0, .null]))] ++ xw cI cQ a (fun _ => 0) pq nq (fun _ _ => 0) 0 (fun _ => 0) 0 0) [13, 0, 1, 2, 3, 4, 5, 6, 7, 8, 9, 10, 11, 12] (by decide) rfl
  refine lv_dup hx hb dL_law_11 rfl ?_
  refine va_callv (va_runI (As := []) (rest := [.ref h]) ⟨hx, hb, hml, hown, hg⟩ (c_X3_init l (lA s) D cI cL cQ (xw cI cQ a (fun _ => 0) pq nq (fun _ _ => 0) 0 (fun _ => 0) 0 0) h) (cwI 0 hg (gw_C co_X3_init) rfl rfl rfl (hg _ ini_X3) (hg _ ml_L_52) (hg _ im_X3_init) rfl (by decide +kernel) ⟨Nat.le_of_ble_eq_true rfl, Nat.le_of_ble_eq_true rfl⟩) ⟨wd_B.blind, fun U hU hW => ⟨rfl, wd_B.at hG hK hP hD hS hA hU hW⟩⟩ rfl rfl hl.1 rfl (lv_room (Nat.le_of_ble_eq_true rfl)) dL_law_12 ⟨Nat.le_of_ble_eq_true rfl, Nat.le_of_ble_eq_true rfl⟩) hS (fun q _ h => h) (fun q h => h) (fun b9 t H1 locs ht hvm hu hB hz1 hk1 hS => ?_)
  obtain ⟨hK1, hP1, hD1⟩ := hB.back ht hvm
  generalize H1 = H at hP1 hS ⊢
  clear hP hD hB hk1
  obtain rfl : b9 0 = h := hu
  have hP := hP1
  have hD := hD1
  refine W.widen (k := 20) (n := 148) (Nat.le_of_ble_eq_true rfl) (Nat.le_of_ble_eq_true rfl) ?_
  refine lv_astore_n (lv' := [(2, .ref (b9 0)), (1, .ref (a 0)), (0, .ref b)]) hx hb dL_law_15 rfl hl (by decide) rfl (fun ls hl => ?_)
  refine lv_iconst (v := 1) hx hb dL_law_16 (by decide) ?_
  refine va_newa (D := D) (atype := .long) (ty := .long) (n := 1) (N' := 1) (a0 := (1, .inr (.inl (fun _ => 0)))) hx hb (hg _ ac_long) rfl hK hP hD hS hA (fun _ => rfl) (by decide) (by decide) (by decide) (Nat.le_of_ble_eq_true rfl) (Nat.le_of_ble_eq_true rfl) dL_law_17 (fun o cA H hK9 hP hD hS => ?_)
  obtain rfl : cA = cL := arr_eq (i := 3) (j := 1) hK9 rfl rfl
  have hP := hP.sub (ws' := lww cI cA cQ a b9 o (fun _ => 0) pq nq (fun _ _ => 0) 0 (fun _ => 0) 0 false (fun _ => 0) 0 0 (fun _ => 0) (fun _ => 0) (fun _ => 0) (fun _ => 0) false 0 0 (fun _ => 0) 0 0 (fun _ => 0)) [7, 8, 9, 10, 11, 12, 13, 14, 15, 16, 17, 18, 19, 20, 0, 1, 2, 3, 4, 5, 6] rfl
  have hD := hD.sub (ws' := lww cI cA cQ a b9 o (fun _ => 0) pq nq (fun _ _ => 0) 0 (fun _ => 0) 0 false (fun _ => 0) 0 0 (fun _ => 0) (fun _ => 0) (fun _ => 0) (fun _ => 0) false 0 0 (fun _ => 0) 0 0 (fun _ => 0)) [7, 8, 9, 10, 11, 12, 13, 14, 15, 16, 17, 18, 19, 20, 0, 1, 2, 3, 4, 5, 6] (by decide) rfl
  refine lv_astore_n (lv' := [(3, .ref o), (2, .ref (b9 0)), (1, .ref (a 0)), (0, .ref b)]) hx hb dL_law_19 rfl hl (by decide) rfl (fun ls hl => ?_)
  refine lv_iconst (v := 0) hx hb dL_law_20 (by decide) ?_
  refine lv_istore (lv' := [(4, .int 0), (3, .ref o), (2, .ref (b9 0)), (1, .ref (a 0)), (0, .ref b)]) hx hb dL_law_21 hl (by decide) rfl (fun ls hl => ?_)
  exact lw_loop C L 0 (by omega) (by omega) (fun _ => 0) pq nq (fun _ _ => 0) 0 (fun _ => 0) 0 false (fun _ => 0) 0 (fun _ => 0) (fun _ => 0) (fun _ => 0) (fun _ => 0) 0 0 (fun _ => 0) 0 0 (fun _ => 0) _ _ ls ag_start hP hD hS hl
