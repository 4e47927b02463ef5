theorem arr_eq {D : va_G} {cl : List vw_C} {tys : List (ClassId × FieldType)} {s : State} {i j : Nat} {cA cB : ClassId} {ty : FieldType} (hK : va_K D cl tys s) (hi : tys[i]? = some (cA, ty)) (hj : tys[j]? = some (cB, ty)) : cA = cB := by
  have h1 := (hK.2 i _ hi).2
  have h2 := (hK.2 j _ hj).2
  cases ty with
  | object C =>
    obtain ⟨-, -, -, -, -, h1⟩ := h1
    obtain ⟨-, -, -, -, -, h2⟩ := h2
    exact Option.some.inj (h1.symm.trans h2)
  | _ => exact Option.some.inj (Eq.trans (Eq.symm h1) h2)
set_option maxHeartbeats 4000000 in
set_option maxRecDepth 100000 in
theorem c_X0_init (l : Launch) (A : Nat → Prop) (D : va_G) (cI cL cQ : ClassId) (ws : va_W) (p0 h : Nat) (h1 : ws[p0]? = some (h, .inr (0, [.null]))) : Met l yX0_init wsX0_init { frames := 1, cells := 1, slots := 8, locals := 12 } (va_Pc [.ref h] (wd_B D (ty3 cI cL cQ) A ws)) (va_Qv (fun _ : Nat => True) (fun n9 t => wd_E D (ty3 cI cL cQ) A (ws.set p0 (h, .inr (0, [.ref n9])) ++ [(n9, .inl (cI, 8, .inl (fun _ => 0)))]) t) A) 1 8 A := by
  refine Met.ofW (cc := cX0_init) (maxL := 1) (ret := none) (by decide) rfl ?_
  intro p e s m args below meth c s₁ B hml hv
  obtain ⟨rfl, hG, hK, hP, hD, hA⟩ := hv
  have hx := B.exec
  have hb := B.bytes
  have hr := B.returns
  have hts := atoms_spec (ws := wsX0_init) B.pre
  have hg : ∀ w ∈ gw, w.before ([.ref h] : List Value).toArray s = true := fun w h => hts w (List.mem_cons_of_mem _ h)
  have hown : s.vm.findClass RX0 = some m.cls := findClass_of_methodNamed B.named
  have hlocks := B.notSynchronized
  have hin : meth.name = "<init>" := (name_of_methodNamed B.named B.method).1
  have hS : va_S A s.heap s.heap [] := va_S.rf
  have hl := lv_entry ([.ref h]) (n := 1) (Nat.le_of_ble_eq_true rfl)
  rw [lg_entry_eq]
  generalize (lg_sl ([.ref h]) ++ List.replicate (1 - (lg_sl ([.ref h])).length) Slot.unset).toArray = ls at hl ⊢
  have hl : lv_has ls 1 [(0, .ref h)] := hl
  have hpl : p0 < ws.length := (List.getElem?_eq_some_iff.mp h1).1
  refine lv_aload_n hx hb dX0_init_0 rfl (lv_at hl 0 rfl) ?_
  refine W.objInit hx hb hown (hg _ ml_X0_3) (hg _ im_Object_init) (hg _ co_Object_init) rfl (by rw [hml]; exact hl.1) rfl dX0_init_1 (Nat.le_of_ble_eq_true rfl) (Nat.le_of_ble_eq_true rfl) ?_
  refine W.eq (g2 := F0 m 4 ls []) rfl ?_
  refine lv_aload_n hx hb dX0_init_4 rfl (lv_at hl 0 rfl) ?_
  refine lv_bipush (v := 8) hx hb dX0_init_5 (by decide) ?_
  refine va_newa (D := D) (atype := .int) (ty := .int) (N' := 8) (a0 := (8, .inl (fun _ => 0))) hx hb (hg _ ac_int) rfl hK hP hD hS hA (fun _ => rfl) (by decide) (by decide) (by decide) (Nat.le_of_ble_eq_true rfl) (Nat.le_of_ble_eq_true rfl) dX0_init_7 (fun n9 cA H hK hP hD hS => ?_)
  obtain rfl : cI = cA := arr_eq (i := 0) (j := 3) hK rfl rfl
  have hK := hK.sub (tys' := ty3 cI cL cQ) [0, 1, 2] rfl
  refine va_putF (D := D) (ci := 0) (v := .ref n9) (ty := .array .int) (C := RX0) (T := TX0) (N := 1) hx hb hg inX0 tyX0 tyX0_ok nmX0 hown hK hP hD hS p0 (by rw [List.getElem?_append_left hpl]; exact h1) rfl 0 (by decide) (hg _ fl_X0_9) (fun _ h9 => h9) rfl hin rfl (by decide +kernel) rfl rfl (Nat.le_of_ble_eq_true rfl) dX0_init_9 (fun H locs hP hD hS => ?_)
  rw [List.set_append_left _ _ hpl] at hP hD
  exact W.vret hx hb hr (fun t ht hW => ⟨⟨n9, rfl, trivial, wd_E.at hK hP hD ht hW⟩, hS.F ht⟩) hS.2.2 dX0_init_12
set_option maxHeartbeats 4000000 in
set_option maxRecDepth 100000 in
theorem c_X1_init (l : Launch) (A : Nat → Prop) (D : va_G) (cI cL cQ : ClassId) (ws : va_W) (p0 h : Nat) (h1 : ws[p0]? = some (h, .inr (1, [.long 0, .null]))) : Met l yX1_init wsX1_init { frames := 1, cells := 1, slots := 5, locals := 12 } (va_Pc [.ref h] (wd_B D (ty3 cI cL cQ) A ws)) (va_Qv (fun _ : Nat => True) (fun n9 t => wd_E D (ty3 cI cL cQ) A (ws.set p0 (h, .inr (1, [.long 0, .ref n9])) ++ [(n9, .inl (cI, 5, .inl (fun _ => 0)))]) t) A) 1 5 A := by
  refine Met.ofW (cc := cX1_init) (maxL := 1) (ret := none) (by decide) rfl ?_
  intro p e s m args below meth c s₁ B hml hv
  obtain ⟨rfl, hG, hK, hP, hD, hA⟩ := hv
  have hx := B.exec
  have hb := B.bytes
  have hr := B.returns
  have hts := atoms_spec (ws := wsX1_init) B.pre
  have hg : ∀ w ∈ gw, w.before ([.ref h] : List Value).toArray s = true := fun w h => hts w (List.mem_cons_of_mem _ h)
  have hown : s.vm.findClass RX1 = some m.cls := findClass_of_methodNamed B.named
  have hlocks := B.notSynchronized
  have hin : meth.name = "<init>" := (name_of_methodNamed B.named B.method).1
  have hS : va_S A s.heap s.heap [] := va_S.rf
  have hl := lv_entry ([.ref h]) (n := 1) (Nat.le_of_ble_eq_true rfl)
  rw [lg_entry_eq]
  generalize (lg_sl ([.ref h]) ++ List.replicate (1 - (lg_sl ([.ref h])).length) Slot.unset).toArray = ls at hl ⊢
  have hl : lv_has ls 1 [(0, .ref h)] := hl
  have hpl : p0 < ws.length := (List.getElem?_eq_some_iff.mp h1).1
  refine lv_aload_n hx hb dX1_init_0 rfl (lv_at hl 0 rfl) ?_
  refine W.objInit hx hb hown (hg _ ml_X1_3) (hg _ im_Object_init) (hg _ co_Object_init) rfl (by rw [hml]; exact hl.1) rfl dX1_init_1 (Nat.le_of_ble_eq_true rfl) (Nat.le_of_ble_eq_true rfl) ?_
  refine W.eq (g2 := F0 m 4 ls []) rfl ?_
  refine lv_aload_n hx hb dX1_init_4 rfl (lv_at hl 0 rfl) ?_
  refine lv_lconst (v := 0) hx hb dX1_init_5 (by decide) ?_
  refine va_put (D := D) (ci := 1) (v := .long 0) (ty := .long) (C := RX1) (T := TX1) (N := 2) hx hb hg inX1 tyX1 tyX1_ok nmX1 hown hK hP hD hS p0 h1 rfl 0 (by decide) (hg _ fl_X1_9) (fun _ h9 => h9) rfl (by decide +kernel) rfl rfl (Nat.le_of_ble_eq_true rfl) dX1_init_6 (fun H locs hP hD hS => ?_)
  have hP : va_P D vwCl (ws.set p0 (h, .inr (1, [.long 0, .null]))) H := hP
  have hD : va_D A (ws.set p0 (h, .inr (1, [.long 0, .null]))) := hD
  rw [st_id h1] at hP hD
  refine lv_aload_n hx hb dX1_init_9 rfl (lv_at hl 0 rfl) ?_
  obtain ⟨tP, hzP, htP⟩ := hG.2.1
  refine va_getsN (C := RX2) (n := "PRIMES") (d := "[I") (v := .ref tP) hx hb hzP hS hown (hG.nest fn_X1_15) (fun _ h9 => h9) dX1_init_10 ?_
  refine va_tlen (v := 5) hx hb htP hS rfl dX1_init_13 ?_
  refine va_newa (D := D) (atype := .int) (ty := .int) (N' := 5) (a0 := (5, .inl (fun _ => 0))) hx hb (hg _ ac_int) rfl hK hP hD hS hA (fun _ => rfl) (by decide) (by decide) (by decide) (Nat.le_of_ble_eq_true rfl) (Nat.le_of_ble_eq_true rfl) dX1_init_14 (fun n9 cA H hK hP hD hS => ?_)
  obtain rfl : cI = cA := arr_eq (i := 0) (j := 3) hK rfl rfl
  have hK := hK.sub (tys' := ty3 cI cL cQ) [0, 1, 2] rfl
  refine va_putF (D := D) (ci := 1) (v := .ref n9) (ty := .array .int) (C := RX1) (T := TX1) (N := 2) hx hb hg inX1 tyX1 tyX1_ok nmX1 hown hK hP hD hS p0 (by rw [List.getElem?_append_left hpl]; exact h1) rfl 1 (by decide) (hg _ fl_X1_19) (fun _ h9 => h9) rfl hin rfl (by decide +kernel) rfl rfl (Nat.le_of_ble_eq_true rfl) dX1_init_16 (fun H locs hP hD hS => ?_)
  rw [List.set_append_left _ _ hpl] at hP hD
  exact W.vret hx hb hr (fun t ht hW => ⟨⟨n9, rfl, trivial, wd_E.at hK hP hD ht hW⟩, hS.F ht⟩) hS.2.2 dX1_init_19
set_option maxHeartbeats 4000000 in
set_option maxRecDepth 100000 in
theorem c_X3_init (l : Launch) (A : Nat → Prop) (D : va_G) (cI cL cQ : ClassId) (fr : va_W) (h : Nat) : Met l yX3_init wsX3_init { frames := 1, cells := 6, slots := 80, locals := 12 } (va_Pc [.ref h] (wd_B D (ty3 cI cL cQ) A ([(h, .inr (3, [.int 0, .int 0, .null, .null, .null, .null, .int 0, .long 0, .long 0, .null, .long 0, .long 0, .null]))] ++ fr))) (va_Qv (fun u : Nat → Nat => u 0 = h) (fun u t => wd_E D (ty3 cI cL cQ) A (mw cI u 0 0 (fun _ => 0) (fun _ => 0) (fun _ => 0) (fun _ => 0) 0 0 0 (fun _ => 0) 0 0 (fun _ => 0) ++ fr) t) A) 6 80 A := by
  refine Met.ofW (cc := cX3_init) (maxL := 1) (ret := none) (by decide) rfl ?_
  intro p e s m args below meth c s₁ B hml hv
  obtain ⟨rfl, hG, hK, hP, hD, hA⟩ := hv
  have hx := B.exec
  have hb := B.bytes
  have hr := B.returns
  have hts := atoms_spec (ws := wsX3_init) B.pre
  have hg : ∀ w ∈ gw, w.before ([.ref h] : List Value).toArray s = true := fun w h => hts w (List.mem_cons_of_mem _ h)
  have hown : s.vm.findClass RX3 = some m.cls := findClass_of_methodNamed B.named
  have hlocks := B.notSynchronized
  have hin : meth.name = "<init>" := (name_of_methodNamed B.named B.method).1
  have hS : va_S A s.heap s.heap [] := va_S.rf
  have hl := lv_entry ([.ref h]) (n := 1) (Nat.le_of_ble_eq_true rfl)
  rw [lg_entry_eq]
  generalize (lg_sl ([.ref h]) ++ List.replicate (1 - (lg_sl ([.ref h])).length) Slot.unset).toArray = ls at hl ⊢
  have hl : lv_has ls 1 [(0, .ref h)] := hl
  refine lv_aload_n hx hb dX3_init_0 rfl (lv_at hl 0 rfl) ?_
  refine W.objInit hx hb hown (hg _ ml_X3_1) (hg _ im_Object_init) (hg _ co_Object_init) rfl (by rw [hml]; exact hl.1) rfl dX3_init_1 (Nat.le_of_ble_eq_true rfl) (Nat.le_of_ble_eq_true rfl) ?_
  refine W.eq (g2 := F0 m 4 ls []) rfl ?_
  refine lv_aload_n hx hb dX3_init_4 rfl (lv_at hl 0 rfl) ?_
  refine lv_iconst (v := 3) hx hb dX3_init_5 (by decide) ?_
  refine va_newa (D := D) (atype := .int) (ty := .int) (N' := 3) (a0 := (3, .inl (fun _ => 0))) hx hb (hg _ ac_int) rfl hK hP hD hS hA (fun _ => rfl) (by decide) (by decide) (by decide) (Nat.le_of_ble_eq_true rfl) (Nat.le_of_ble_eq_true rfl) dX3_init_6 (fun q_1 cA H hK hP hD hS => ?_)
  obtain rfl : cI = cA := arr_eq (i := 0) (j := 3) hK rfl rfl
  have hK := hK.sub (tys' := ty3 cI cL cQ) [0, 1, 2] rfl
  have hP := hP.swap
  have hD := hD.swap
  have hP : va_P D vwCl ([(h, .inr (3, [.int 0, .int 0, .null, .null, .null, .null, .int 0, .long 0, .long 0, .null, .long 0, .long 0, .null])), (q_1, .inl (cI, 3, .inl (fun _ => 0)))] ++ fr) H := hP
  have hD : va_D A ([(h, .inr (3, [.int 0, .int 0, .null, .null, .null, .null, .int 0, .long 0, .long 0, .null, .long 0, .long 0, .null])), (q_1, .inl (cI, 3, .inl (fun _ => 0)))] ++ fr) := hD
  refine va_putF (D := D) (ci := 3) (v := .ref q_1) (ty := .array .int) (C := RX3) (T := TX3) (N := 13) hx hb hg inX3 tyX3 tyX3_ok nmX3 hown hK hP hD hS 0 rfl rfl 2 (by decide) (hg _ fl_X3_7) (fun _ h9 => h9) rfl hin rfl (by decide +kernel) rfl rfl (Nat.le_of_ble_eq_true rfl) dX3_init_8 (fun H locs hP hD hS => ?_)
  have hP : va_P D vwCl ([(h, .inr (3, [.int 0, .int 0, .ref q_1, .null, .null, .null, .int 0, .long 0, .long 0, .null, .long 0, .long 0, .null])), (q_1, .inl (cI, 3, .inl (fun _ => 0)))] ++ fr) H := hP
  have hD : va_D A ([(h, .inr (3, [.int 0, .int 0, .ref q_1, .null, .null, .null, .int 0, .long 0, .long 0, .null, .long 0, .long 0, .null])), (q_1, .inl (cI, 3, .inl (fun _ => 0)))] ++ fr) := hD
  refine lv_aload_n hx hb dX3_init_11 rfl (lv_at hl 0 rfl) ?_
  refine lv_bipush (v := 32) hx hb dX3_init_12 (by decide) ?_
  refine va_newa (D := D) (atype := .int) (ty := .int) (N' := 32) (a0 := (32, .inl (fun _ => 0))) hx hb (hg _ ac_int) rfl hK hP hD hS hA (fun _ => rfl) (by decide) (by decide) (by decide) (Nat.le_of_ble_eq_true rfl) (Nat.le_of_ble_eq_true rfl) dX3_init_14 (fun q_2 cA H hK hP hD hS => ?_)
  obtain rfl : cI = cA := arr_eq (i := 0) (j := 3) hK rfl rfl
  have hK := hK.sub (tys' := ty3 cI cL cQ) [0, 1, 2] rfl
  have hP := hP.swap
  have hD := hD.swap
  have hP : va_P D vwCl ([(h, .inr (3, [.int 0, .int 0, .ref q_1, .null, .null, .null, .int 0, .long 0, .long 0, .null, .long 0, .long 0, .null])), (q_1, .inl (cI, 3, .inl (fun _ => 0))), (q_2, .inl (cI, 32, .inl (fun _ => 0)))] ++ fr) H := hP
  have hD : va_D A ([(h, .inr (3, [.int 0, .int 0, .ref q_1, .null, .null, .null, .int 0, .long 0, .long 0, .null, .long 0, .long 0, .null])), (q_1, .inl (cI, 3, .inl (fun _ => 0))), (q_2, .inl (cI, 32, .inl (fun _ => 0)))] ++ fr) := hD
  refine va_putF (D := D) (ci := 3) (v := .ref q_2) (ty := .array .int) (C := RX3) (T := TX3) (N := 13) hx hb hg inX3 tyX3 tyX3_ok nmX3 hown hK hP hD hS 0 rfl rfl 3 (by decide) (hg _ fl_X3_13) (fun _ h9 => h9) rfl hin rfl (by decide +kernel) rfl rfl (Nat.le_of_ble_eq_true rfl) dX3_init_16 (fun H locs hP hD hS => ?_)
  have hP : va_P D vwCl ([(h, .inr (3, [.int 0, .int 0, .ref q_1, .ref q_2, .null, .null, .int 0, .long 0, .long 0, .null, .long 0, .long 0, .null])), (q_1, .inl (cI, 3, .inl (fun _ => 0))), (q_2, .inl (cI, 32, .inl (fun _ => 0)))] ++ fr) H := hP
  have hD : va_D A ([(h, .inr (3, [.int 0, .int 0, .ref q_1, .ref q_2, .null, .null, .int 0, .long 0, .long 0, .null, .long 0, .long 0, .null])), (q_1, .inl (cI, 3, .inl (fun _ => 0))), (q_2, .inl (cI, 32, .inl (fun _ => 0)))] ++ fr) := hD
  refine lv_aload_n hx hb dX3_init_19 rfl (lv_at hl 0 rfl) ?_
  refine lv_bipush (v := 32) hx hb dX3_init_20 (by decide) ?_
  refine va_newa (D := D) (atype := .int) (ty := .int) (N' := 32) (a0 := (32, .inl (fun _ => 0))) hx hb (hg _ ac_int) rfl hK hP hD hS hA (fun _ => rfl) (by decide) (by decide) (by decide) (Nat.le_of_ble_eq_true rfl) (Nat.le_of_ble_eq_true rfl) dX3_init_22 (fun q_3 cA H hK hP hD hS => ?_)
  obtain rfl : cI = cA := arr_eq (i := 0) (j := 3) hK rfl rfl
  have hK := hK.sub (tys' := ty3 cI cL cQ) [0, 1, 2] rfl
  have hP := hP.swap
  have hD := hD.swap
  have hP : va_P D vwCl ([(h, .inr (3, [.int 0, .int 0, .ref q_1, .ref q_2, .null, .null, .int 0, .long 0, .long 0, .null, .long 0, .long 0, .null])), (q_1, .inl (cI, 3, .inl (fun _ => 0))), (q_2, .inl (cI, 32, .inl (fun _ => 0))), (q_3, .inl (cI, 32, .inl (fun _ => 0)))] ++ fr) H := hP
  have hD : va_D A ([(h, .inr (3, [.int 0, .int 0, .ref q_1, .ref q_2, .null, .null, .int 0, .long 0, .long 0, .null, .long 0, .long 0, .null])), (q_1, .inl (cI, 3, .inl (fun _ => 0))), (q_2, .inl (cI, 32, .inl (fun _ => 0))), (q_3, .inl (cI, 32, .inl (fun _ => 0)))] ++ fr) := hD
  refine va_putF (D := D) (ci := 3) (v := .ref q_3) (ty := .array .int) (C := RX3) (T := TX3) (N := 13) hx hb hg inX3 tyX3 tyX3_ok nmX3 hown hK hP hD hS 0 rfl rfl 4 (by decide) (hg _ fl_X3_16) (fun _ h9 => h9) rfl hin rfl (by decide +kernel) rfl rfl (Nat.le_of_ble_eq_true rfl) dX3_init_24 (fun H locs hP hD hS => ?_)
  have hP : va_P D vwCl ([(h, .inr (3, [.int 0, .int 0, .ref q_1, .ref q_2, .ref q_3, .null, .int 0, .long 0, .long 0, .null, .long 0, .long 0, .null])), (q_1, .inl (cI, 3, .inl (fun _ => 0))), (q_2, .inl (cI, 32, .inl (fun _ => 0))), (q_3, .inl (cI, 32, .inl (fun _ => 0)))] ++ fr) H := hP
  have hD : va_D A ([(h, .inr (3, [.int 0, .int 0, .ref q_1, .ref q_2, .ref q_3, .null, .int 0, .long 0, .long 0, .null, .long 0, .long 0, .null])), (q_1, .inl (cI, 3, .inl (fun _ => 0))), (q_2, .inl (cI, 32, .inl (fun _ => 0))), (q_3, .inl (cI, 32, .inl (fun _ => 0)))] ++ fr) := hD
  refine lv_aload_n hx hb dX3_init_27 rfl (lv_at hl 0 rfl) ?_
  refine lv_iconst (v := 3) hx hb dX3_init_28 (by decide) ?_
  refine va_newa (D := D) (atype := .int) (ty := .int) (N' := 3) (a0 := (3, .inl (fun _ => 0))) hx hb (hg _ ac_int) rfl hK hP hD hS hA (fun _ => rfl) (by decide) (by decide) (by decide) (Nat.le_of_ble_eq_true rfl) (Nat.le_of_ble_eq_true rfl) dX3_init_29 (fun q_4 cA H hK hP hD hS => ?_)
  obtain rfl : cI = cA := arr_eq (i := 0) (j := 3) hK rfl rfl
  have hK := hK.sub (tys' := ty3 cI cL cQ) [0, 1, 2] rfl
  have hP := hP.swap
  have hD := hD.swap
  have hP : va_P D vwCl ([(h, .inr (3, [.int 0, .int 0, .ref q_1, .ref q_2, .ref q_3, .null, .int 0, .long 0, .long 0, .null, .long 0, .long 0, .null])), (q_1, .inl (cI, 3, .inl (fun _ => 0))), (q_2, .inl (cI, 32, .inl (fun _ => 0))), (q_3, .inl (cI, 32, .inl (fun _ => 0))), (q_4, .inl (cI, 3, .inl (fun _ => 0)))] ++ fr) H := hP
  have hD : va_D A ([(h, .inr (3, [.int 0, .int 0, .ref q_1, .ref q_2, .ref q_3, .null, .int 0, .long 0, .long 0, .null, .long 0, .long 0, .null])), (q_1, .inl (cI, 3, .inl (fun _ => 0))), (q_2, .inl (cI, 32, .inl (fun _ => 0))), (q_3, .inl (cI, 32, .inl (fun _ => 0))), (q_4, .inl (cI, 3, .inl (fun _ => 0)))] ++ fr) := hD
  refine va_putF (D := D) (ci := 3) (v := .ref q_4) (ty := .array .int) (C := RX3) (T := TX3) (N := 13) hx hb hg inX3 tyX3 tyX3_ok nmX3 hown hK hP hD hS 0 rfl rfl 5 (by decide) (hg _ fl_X3_19) (fun _ h9 => h9) rfl hin rfl (by decide +kernel) rfl rfl (Nat.le_of_ble_eq_true rfl) dX3_init_31 (fun H locs hP hD hS => ?_)
  have hP : va_P D vwCl ([(h, .inr (3, [.int 0, .int 0, .ref q_1, .ref q_2, .ref q_3, .ref q_4, .int 0, .long 0, .long 0, .null, .long 0, .long 0, .null])), (q_1, .inl (cI, 3, .inl (fun _ => 0))), (q_2, .inl (cI, 32, .inl (fun _ => 0))), (q_3, .inl (cI, 32, .inl (fun _ => 0))), (q_4, .inl (cI, 3, .inl (fun _ => 0)))] ++ fr) H := hP
  have hD : va_D A ([(h, .inr (3, [.int 0, .int 0, .ref q_1, .ref q_2, .ref q_3, .ref q_4, .int 0, .long 0, .long 0, .null, .long 0, .long 0, .null])), (q_1, .inl (cI, 3, .inl (fun _ => 0))), (q_2, .inl (cI, 32, .inl (fun _ => 0))), (q_3, .inl (cI, 32, .inl (fun _ => 0))), (q_4, .inl (cI, 3, .inl (fun _ => 0)))] ++ fr) := hD
  refine lv_aload_n hx hb dX3_init_34 rfl (lv_at hl 0 rfl) ?_
  refine lv_iconst (v := 5) hx hb dX3_init_35 (by decide) ?_
  refine va_newa (D := D) (atype := .int) (ty := .int) (N' := 5) (a0 := (5, .inl (fun _ => 0))) hx hb (hg _ ac_int) rfl hK hP hD hS hA (fun _ => rfl) (by decide) (by decide) (by decide) (Nat.le_of_ble_eq_true rfl) (Nat.le_of_ble_eq_true rfl) dX3_init_36 (fun q_5 cA H hK hP hD hS => ?_)
  obtain rfl : cI = cA := arr_eq (i := 0) (j := 3) hK rfl rfl
  have hK := hK.sub (tys' := ty3 cI cL cQ) [0, 1, 2] rfl
  have hP := hP.swap
  have hD := hD.swap
  have hP : va_P D vwCl ([(h, .inr (3, [.int 0, .int 0, .ref q_1, .ref q_2, .ref q_3, .ref q_4, .int 0, .long 0, .long 0, .null, .long 0, .long 0, .null])), (q_1, .inl (cI, 3, .inl (fun _ => 0))), (q_2, .inl (cI, 32, .inl (fun _ => 0))), (q_3, .inl (cI, 32, .inl (fun _ => 0))), (q_4, .inl (cI, 3, .inl (fun _ => 0))), (q_5, .inl (cI, 5, .inl (fun _ => 0)))] ++ fr) H := hP
  have hD : va_D A ([(h, .inr (3, [.int 0, .int 0, .ref q_1, .ref q_2, .ref q_3, .ref q_4, .int 0, .long 0, .long 0, .null, .long 0, .long 0, .null])), (q_1, .inl (cI, 3, .inl (fun _ => 0))), (q_2, .inl (cI, 32, .inl (fun _ => 0))), (q_3, .inl (cI, 32, .inl (fun _ => 0))), (q_4, .inl (cI, 3, .inl (fun _ => 0))), (q_5, .inl (cI, 5, .inl (fun _ => 0)))] ++ fr) := hD
  refine va_putF (D := D) (ci := 3) (v := .ref q_5) (ty := .array .int) (C := RX3) (T := TX3) (N := 13) hx hb hg inX3 tyX3 tyX3_ok nmX3 hown hK hP hD hS 0 rfl rfl 9 (by decide) (hg _ fl_X3_22) (fun _ h9 => h9) rfl hin rfl (by decide +kernel) rfl rfl (Nat.le_of_ble_eq_true rfl) dX3_init_38 (fun H locs hP hD hS => ?_)
  have hP : va_P D vwCl ([(h, .inr (3, [.int 0, .int 0, .ref q_1, .ref q_2, .ref q_3, .ref q_4, .int 0, .long 0, .long 0, .ref q_5, .long 0, .long 0, .null])), (q_1, .inl (cI, 3, .inl (fun _ => 0))), (q_2, .inl (cI, 32, .inl (fun _ => 0))), (q_3, .inl (cI, 32, .inl (fun _ => 0))), (q_4, .inl (cI, 3, .inl (fun _ => 0))), (q_5, .inl (cI, 5, .inl (fun _ => 0)))] ++ fr) H := hP
  have hD : va_D A ([(h, .inr (3, [.int 0, .int 0, .ref q_1, .ref q_2, .ref q_3, .ref q_4, .int 0, .long 0, .long 0, .ref q_5, .long 0, .long 0, .null])), (q_1, .inl (cI, 3, .inl (fun _ => 0))), (q_2, .inl (cI, 32, .inl (fun _ => 0))), (q_3, .inl (cI, 32, .inl (fun _ => 0))), (q_4, .inl (cI, 3, .inl (fun _ => 0))), (q_5, .inl (cI, 5, .inl (fun _ => 0)))] ++ fr) := hD
  refine lv_aload_n hx hb dX3_init_41 rfl (lv_at hl 0 rfl) ?_
  refine lv_iconst (v := 5) hx hb dX3_init_42 (by decide) ?_
  refine va_newa (D := D) (atype := .int) (ty := .int) (N' := 5) (a0 := (5, .inl (fun _ => 0))) hx hb (hg _ ac_int) rfl hK hP hD hS hA (fun _ => rfl) (by decide) (by decide) (by decide) (Nat.le_of_ble_eq_true rfl) (Nat.le_of_ble_eq_true rfl) dX3_init_43 (fun q_6 cA H hK hP hD hS => ?_)
  obtain rfl : cI = cA := arr_eq (i := 0) (j := 3) hK rfl rfl
  have hK := hK.sub (tys' := ty3 cI cL cQ) [0, 1, 2] rfl
  have hP := hP.swap
  have hD := hD.swap
  have hP : va_P D vwCl ([(h, .inr (3, [.int 0, .int 0, .ref q_1, .ref q_2, .ref q_3, .ref q_4, .int 0, .long 0, .long 0, .ref q_5, .long 0, .long 0, .null])), (q_1, .inl (cI, 3, .inl (fun _ => 0))), (q_2, .inl (cI, 32, .inl (fun _ => 0))), (q_3, .inl (cI, 32, .inl (fun _ => 0))), (q_4, .inl (cI, 3, .inl (fun _ => 0))), (q_5, .inl (cI, 5, .inl (fun _ => 0))), (q_6, .inl (cI, 5, .inl (fun _ => 0)))] ++ fr) H := hP
  have hD : va_D A ([(h, .inr (3, [.int 0, .int 0, .ref q_1, .ref q_2, .ref q_3, .ref q_4, .int 0, .long 0, .long 0, .ref q_5, .long 0, .long 0, .null])), (q_1, .inl (cI, 3, .inl (fun _ => 0))), (q_2, .inl (cI, 32, .inl (fun _ => 0))), (q_3, .inl (cI, 32, .inl (fun _ => 0))), (q_4, .inl (cI, 3, .inl (fun _ => 0))), (q_5, .inl (cI, 5, .inl (fun _ => 0))), (q_6, .inl (cI, 5, .inl (fun _ => 0)))] ++ fr) := hD
  refine va_putF (D := D) (ci := 3) (v := .ref q_6) (ty := .array .int) (C := RX3) (T := TX3) (N := 13) hx hb hg inX3 tyX3 tyX3_ok nmX3 hown hK hP hD hS 0 rfl rfl 12 (by decide) (hg _ fl_X3_25) (fun _ h9 => h9) rfl hin rfl (by decide +kernel) rfl rfl (Nat.le_of_ble_eq_true rfl) dX3_init_45 (fun H locs hP hD hS => ?_)
  have hP : va_P D vwCl ([(h, .inr (3, [.int 0, .int 0, .ref q_1, .ref q_2, .ref q_3, .ref q_4, .int 0, .long 0, .long 0, .ref q_5, .long 0, .long 0, .ref q_6])), (q_1, .inl (cI, 3, .inl (fun _ => 0))), (q_2, .inl (cI, 32, .inl (fun _ => 0))), (q_3, .inl (cI, 32, .inl (fun _ => 0))), (q_4, .inl (cI, 3, .inl (fun _ => 0))), (q_5, .inl (cI, 5, .inl (fun _ => 0))), (q_6, .inl (cI, 5, .inl (fun _ => 0)))] ++ fr) H := hP
  have hD : va_D A ([(h, .inr (3, [.int 0, .int 0, .ref q_1, .ref q_2, .ref q_3, .ref q_4, .int 0, .long 0, .long 0, .ref q_5, .long 0, .long 0, .ref q_6])), (q_1, .inl (cI, 3, .inl (fun _ => 0))), (q_2, .inl (cI, 32, .inl (fun _ => 0))), (q_3, .inl (cI, 32, .inl (fun _ => 0))), (q_4, .inl (cI, 3, .inl (fun _ => 0))), (q_5, .inl (cI, 5, .inl (fun _ => 0))), (q_6, .inl (cI, 5, .inl (fun _ => 0)))] ++ fr) := hD
  exact W.vret hx hb hr (fun t ht hW => ⟨⟨(fun k => [h, q_1, q_2, q_3, q_4, q_5, q_6].getD k 0), rfl, rfl, wd_E.at hK hP hD ht hW⟩, hS.F ht⟩) hS.2.2 dX3_init_48
set_option maxHeartbeats 4000000 in
set_option maxRecDepth 100000 in
theorem c_X2_init (l : Launch) (A : Nat → Prop) (D : va_G) (cI cL cQ : ClassId) (fr : va_W) (h : Nat) : Met l yX2_init wsX2_init { frames := 2, cells := 12, slots := 50, locals := 32 } (va_Pc [.ref h] (fun U => va_AO RX0 U ∧ wd_B D (ty3 cI cL cQ) A ([(h, .inr (2, [.null, .null, .null, .int 0, .int 0]))] ++ fr) U)) (va_Qv (fun u : (Nat → Nat) × (Nat → Nat) × (Nat → Nat) => u.1 0 = h) (fun u t => wd_E D (ty3 cI cL cQ) A (xw cI cQ u.1 (fun _ => 0) u.2.1 u.2.2 (fun _ _ => 0) 0 (fun _ => 0) 0 0 ++ fr) t) A) 12 50 A := by
  refine Met.ofW (cc := cX2_init) (maxL := 2) (ret := none) (by decide) rfl ?_
  intro p e s m args below meth c s₁ B hml hv
  obtain ⟨rfl, hAO, hG, hK, hP, hD, hA⟩ := hv
  have hx := B.exec
  have hb := B.bytes
  have hr := B.returns
  have hts := atoms_spec (ws := wsX2_init) B.pre
  have hg : ∀ w ∈ gw, w.before ([.ref h] : List Value).toArray s = true := fun w h => hts w (List.mem_cons_of_mem _ h)
  have hown : s.vm.findClass RX2 = some m.cls := findClass_of_methodNamed B.named
  have hlocks := B.notSynchronized
  have hin : meth.name = "<init>" := (name_of_methodNamed B.named B.method).1
  have hS : va_S A s.heap s.heap [] := va_S.rf
  have hl := lv_entry ([.ref h]) (n := 2) (Nat.le_of_ble_eq_true rfl)
  rw [lg_entry_eq]
  generalize (lg_sl ([.ref h]) ++ List.replicate (2 - (lg_sl ([.ref h])).length) Slot.unset).toArray = ls at hl ⊢
  have hl : lv_has ls 2 [(0, .ref h)] := hl
  refine lv_aload_n hx hb dX2_init_0 rfl (lv_at hl 0 rfl) ?_
  refine W.objInit hx hb hown (hg _ ml_X2_1) (hg _ im_Object_init) (hg _ co_Object_init) rfl (by rw [hml]; exact hl.1) rfl dX2_init_1 (Nat.le_of_ble_eq_true rfl) (Nat.le_of_ble_eq_true rfl) ?_
  refine W.eq (g2 := F0 m 4 ls []) rfl ?_
  refine lv_aload_n hx hb dX2_init_4 rfl (lv_at hl 0 rfl) ?_
  refine lv_iconst (v := 3) hx hb dX2_init_5 (by decide) ?_
  refine va_newa (D := D) (atype := .int) (ty := .int) (N' := 3) (a0 := (3, .inl (fun _ => 0))) hx hb (hg _ ac_int) rfl hK hP hD hS hA (fun _ => rfl) (by decide) (by decide) (by decide) (Nat.le_of_ble_eq_true rfl) (Nat.le_of_ble_eq_true rfl) dX2_init_6 (fun q_1 cA H hK hP hD hS => ?_)
  obtain rfl : cI = cA := arr_eq (i := 0) (j := 3) hK rfl rfl
  have hK := hK.sub (tys' := ty3 cI cL cQ) [0, 1, 2] rfl
  have hP := hP.swap
  have hD := hD.swap
  have hP : va_P D vwCl ([(h, .inr (2, [.null, .null, .null, .int 0, .int 0])), (q_1, .inl (cI, 3, .inl (fun _ => 0)))] ++ fr) H := hP
  have hD : va_D A ([(h, .inr (2, [.null, .null, .null, .int 0, .int 0])), (q_1, .inl (cI, 3, .inl (fun _ => 0)))] ++ fr) := hD
  refine va_putF (D := D) (ci := 2) (v := .ref q_1) (ty := .array .int) (C := RX2) (T := TX2) (N := 5) hx hb hg inX2 tyX2 tyX2_ok nmX2 hown hK hP hD hS 0 rfl rfl 0 (by decide) (hg _ fl_X2_9) (fun _ h9 => h9) rfl hin rfl (by decide +kernel) rfl rfl (Nat.le_of_ble_eq_true rfl) dX2_init_8 (fun H locs hP hD hS => ?_)
  have hP : va_P D vwCl ([(h, .inr (2, [.ref q_1, .null, .null, .int 0, .int 0])), (q_1, .inl (cI, 3, .inl (fun _ => 0)))] ++ fr) H := hP
  have hD : va_D A ([(h, .inr (2, [.ref q_1, .null, .null, .int 0, .int 0])), (q_1, .inl (cI, 3, .inl (fun _ => 0)))] ++ fr) := hD
  refine lv_aload_n hx hb dX2_init_11 rfl (lv_at hl 0 rfl) ?_
  refine lv_iconst (v := 4) hx hb dX2_init_12 (by decide) ?_
  refine va_newq (D := D) (N' := 4) hx hb hown (hg _ cl_X2_13) hAO hK hP hD hS hA (by decide) (by decide) (by decide) (Nat.le_of_ble_eq_true rfl) (Nat.le_of_ble_eq_true rfl) dX2_init_13 (fun q_2 cA9 H hK hP hD hS => ?_)
  obtain rfl : cQ = cA9 := arr_eq (i := 2) (j := 3) hK rfl rfl
  have hK := hK.sub (tys' := ty3 cI cL cQ) [0, 1, 2] rfl
  have hP := hP.swap
  have hD := hD.swap
  have hP : va_P D vwCl ([(h, .inr (2, [.ref q_1, .null, .null, .int 0, .int 0])), (q_1, .inl (cI, 3, .inl (fun _ => 0))), (q_2, .inl (cQ, 4, .inr (.inr (.inr (.inr (fun _ => none))))))] ++ fr) H := hP
  have hD : va_D A ([(h, .inr (2, [.ref q_1, .null, .null, .int 0, .int 0])), (q_1, .inl (cI, 3, .inl (fun _ => 0))), (q_2, .inl (cQ, 4, .inr (.inr (.inr (.inr (fun _ => none))))))] ++ fr) := hD
  refine va_putF (D := D) (ci := 2) (v := .ref q_2) (ty := .array (.object RX0)) (C := RX2) (T := TX2) (N := 5) hx hb hg inX2 tyX2 tyX2_ok nmX2 hown hK hP hD hS 0 rfl rfl 1 (by decide) (hg _ fl_X2_15) (fun _ h9 => h9) rfl hin rfl (by decide +kernel) rfl rfl (Nat.le_of_ble_eq_true rfl) dX2_init_16 (fun H locs hP hD hS => ?_)
  have hP : va_P D vwCl ([(h, .inr (2, [.ref q_1, .ref q_2, .null, .int 0, .int 0])), (q_1, .inl (cI, 3, .inl (fun _ => 0))), (q_2, .inl (cQ, 4, .inr (.inr (.inr (.inr (fun _ => none))))))] ++ fr) H := hP
  have hD : va_D A ([(h, .inr (2, [.ref q_1, .ref q_2, .null, .int 0, .int 0])), (q_1, .inl (cI, 3, .inl (fun _ => 0))), (q_2, .inl (cQ, 4, .inr (.inr (.inr (.inr (fun _ => none))))))] ++ fr) := hD
  refine lv_aload_n hx hb dX2_init_19 rfl (lv_at hl 0 rfl) ?_
  refine va_new (D := D) (ci := 1) (fs := [.long 0, .null]) (C := RX1) (T := TX1) (N := 2) hx hb hg inX1 tyX1 tyX1_ok hown (hg _ cl_X2_19) (hg _ ib_X1) (hg _ ini_X1) hK hP hD hS hA rfl (fun j hj => by rcases (show j = 0 ∨ j = 1 by omega) with rfl | rfl <;> rfl) (Nat.le_of_ble_eq_true rfl) (Nat.le_of_ble_eq_true rfl) dX2_init_20 (fun q_3 H hP hD hS => ?_)
  have hP := hP.swap
  have hD := hD.swap
  have hP : va_P D vwCl ([(h, .inr (2, [.ref q_1, .ref q_2, .null, .int 0, .int 0])), (q_1, .inl (cI, 3, .inl (fun _ => 0))), (q_2, .inl (cQ, 4, .inr (.inr (.inr (.inr (fun _ => none)))))), (q_3, .inr (1, [.long 0, .null]))] ++ fr) H := hP
  have hD : va_D A ([(h, .inr (2, [.ref q_1, .ref q_2, .null, .int 0, .int 0])), (q_1, .inl (cI, 3, .inl (fun _ => 0))), (q_2, .inl (cQ, 4, .inr (.inr (.inr (.inr (fun _ => none)))))), (q_3, .inr (1, [.long 0, .null]))] ++ fr) := hD
  refine lv_dup hx hb dX2_init_23 rfl ?_
  refine va_callv (va_runIN (As := []) (rest := [.ref q_3, .ref h]) ⟨hx, hb, hml, hown, hg⟩ (c_X1_init l A D cI cL cQ ([(h, .inr (2, [.ref q_1, .ref q_2, .null, .int 0, .int 0])), (q_1, .inl (cI, 3, .inl (fun _ => 0))), (q_2, .inl (cQ, 4, .inr (.inr (.inr (.inr (fun _ => none)))))), (q_3, .inr (1, [.long 0, .null]))] ++ fr) 3 q_3 rfl) ⟨va_cnB 0 hg (gw_C co_X1_init) rfl rfl rfl (hG.1 _ mn_X2_21) (hg _ ini_X1) (by decide +kernel) ⟨Nat.le_of_ble_eq_true rfl, Nat.le_of_ble_eq_true rfl⟩, rfl, hg _ im_X1_init⟩ ⟨wd_B.blind, fun U hU hW => ⟨rfl, wd_B.at hG hK hP hD hS hA hU hW⟩⟩ rfl rfl hl.1 rfl (lv_room (Nat.le_of_ble_eq_true rfl)) dX2_init_24 ⟨Nat.le_of_ble_eq_true rfl, Nat.le_of_ble_eq_true rfl⟩) hS (fun q _ h => h) (fun q h => h) (fun q_4 t H1 locs ht hvm hr9 hB hz1 hk1 hS => ?_)
  obtain ⟨hK, hP, hD⟩ := hB.back ht hvm
  generalize H1 = H at hP hS ⊢
  have hP : va_P D vwCl (([(h, .inr (2, [.ref q_1, .ref q_2, .null, .int 0, .int 0])), (q_1, .inl (cI, 3, .inl (fun _ => 0))), (q_2, .inl (cQ, 4, .inr (.inr (.inr (.inr (fun _ => none)))))), (q_3, .inr (1, [.long 0, .ref q_4]))] ++ fr) ++ [(q_4, .inl (cI, 5, .inl (fun _ => 0)))]) H := hP
  have hD : va_D A (([(h, .inr (2, [.ref q_1, .ref q_2, .null, .int 0, .int 0])), (q_1, .inl (cI, 3, .inl (fun _ => 0))), (q_2, .inl (cQ, 4, .inr (.inr (.inr (.inr (fun _ => none)))))), (q_3, .inr (1, [.long 0, .ref q_4]))] ++ fr) ++ [(q_4, .inl (cI, 5, .inl (fun _ => 0)))]) := hD
  have hP := hP.swap
  have hD := hD.swap
  have hP : va_P D vwCl ([(h, .inr (2, [.ref q_1, .ref q_2, .null, .int 0, .int 0])), (q_1, .inl (cI, 3, .inl (fun _ => 0))), (q_2, .inl (cQ, 4, .inr (.inr (.inr (.inr (fun _ => none)))))), (q_3, .inr (1, [.long 0, .ref q_4])), (q_4, .inl (cI, 5, .inl (fun _ => 0)))] ++ fr) H := hP
  have hD : va_D A ([(h, .inr (2, [.ref q_1, .ref q_2, .null, .int 0, .int 0])), (q_1, .inl (cI, 3, .inl (fun _ => 0))), (q_2, .inl (cQ, 4, .inr (.inr (.inr (.inr (fun _ => none)))))), (q_3, .inr (1, [.long 0, .ref q_4])), (q_4, .inl (cI, 5, .inl (fun _ => 0)))] ++ fr) := hD
  refine va_putF (D := D) (ci := 2) (v := .ref q_3) (ty := .object RX1) (C := RX2) (T := TX2) (N := 5) hx hb hg inX2 tyX2 tyX2_ok nmX2 hown hK hP hD hS 0 rfl rfl 2 (by decide) (hg _ fl_X2_22) (fun _ h9 => h9) rfl hin rfl (by decide +kernel) rfl rfl (Nat.le_of_ble_eq_true rfl) dX2_init_27 (fun H locs hP hD hS => ?_)
  have hP : va_P D vwCl ([(h, .inr (2, [.ref q_1, .ref q_2, .ref q_3, .int 0, .int 0])), (q_1, .inl (cI, 3, .inl (fun _ => 0))), (q_2, .inl (cQ, 4, .inr (.inr (.inr (.inr (fun _ => none)))))), (q_3, .inr (1, [.long 0, .ref q_4])), (q_4, .inl (cI, 5, .inl (fun _ => 0)))] ++ fr) H := hP
  have hD : va_D A ([(h, .inr (2, [.ref q_1, .ref q_2, .ref q_3, .int 0, .int 0])), (q_1, .inl (cI, 3, .inl (fun _ => 0))), (q_2, .inl (cQ, 4, .inr (.inr (.inr (.inr (fun _ => none)))))), (q_3, .inr (1, [.long 0, .ref q_4])), (q_4, .inl (cI, 5, .inl (fun _ => 0)))] ++ fr) := hD
  refine lv_aload_n hx hb dX2_init_30 rfl (lv_at hl 0 rfl) ?_
  refine lv_iconst (v := 0) hx hb dX2_init_31 (by decide) ?_
  refine va_put (D := D) (ci := 2) (v := .int 0) (ty := .int) (C := RX2) (T := TX2) (N := 5) hx hb hg inX2 tyX2 tyX2_ok nmX2 hown hK hP hD hS 0 rfl rfl 3 (by decide) (hg _ fl_X2_26) (fun _ h9 => h9) rfl (by decide +kernel) rfl rfl (Nat.le_of_ble_eq_true rfl) dX2_init_32 (fun H locs hP hD hS => ?_)
  have hP : va_P D vwCl ([(h, .inr (2, [.ref q_1, .ref q_2, .ref q_3, .int 0, .int 0])), (q_1, .inl (cI, 3, .inl (fun _ => 0))), (q_2, .inl (cQ, 4, .inr (.inr (.inr (.inr (fun _ => none)))))), (q_3, .inr (1, [.long 0, .ref q_4])), (q_4, .inl (cI, 5, .inl (fun _ => 0)))] ++ fr) H := hP
  have hD : va_D A ([(h, .inr (2, [.ref q_1, .ref q_2, .ref q_3, .int 0, .int 0])), (q_1, .inl (cI, 3, .inl (fun _ => 0))), (q_2, .inl (cQ, 4, .inr (.inr (.inr (.inr (fun _ => none)))))), (q_3, .inr (1, [.long 0, .ref q_4])), (q_4, .inl (cI, 5, .inl (fun _ => 0)))] ++ fr) := hD
  refine lv_aload_n hx hb dX2_init_35 rfl (lv_at hl 0 rfl) ?_
  refine lv_iconst (v := 0) hx hb dX2_init_36 (by decide) ?_
  refine va_put (D := D) (ci := 2) (v := .int 0) (ty := .boolean) (C := RX2) (T := TX2) (N := 5) hx hb hg inX2 tyX2 tyX2_ok nmX2 hown hK hP hD hS 0 rfl rfl 4 (by decide) (hg _ fl_X2_30) (fun _ h9 => h9) rfl (by decide +kernel) rfl rfl (Nat.le_of_ble_eq_true rfl) dX2_init_37 (fun H locs hP hD hS => ?_)
  have hP : va_P D vwCl ([(h, .inr (2, [.ref q_1, .ref q_2, .ref q_3, .int 0, .int 0])), (q_1, .inl (cI, 3, .inl (fun _ => 0))), (q_2, .inl (cQ, 4, .inr (.inr (.inr (.inr (fun _ => none)))))), (q_3, .inr (1, [.long 0, .ref q_4])), (q_4, .inl (cI, 5, .inl (fun _ => 0)))] ++ fr) H := hP
  have hD : va_D A ([(h, .inr (2, [.ref q_1, .ref q_2, .ref q_3, .int 0, .int 0])), (q_1, .inl (cI, 3, .inl (fun _ => 0))), (q_2, .inl (cQ, 4, .inr (.inr (.inr (.inr (fun _ => none)))))), (q_3, .inr (1, [.long 0, .ref q_4])), (q_4, .inl (cI, 5, .inl (fun _ => 0)))] ++ fr) := hD
  refine lv_iconst (v := 0) hx hb dX2_init_40 (by decide) ?_
  refine lv_istore_n (lv' := [(1, .int 0), (0, .ref h)]) hx hb dX2_init_41 rfl hl (by decide) rfl (fun ls hl => ?_)
  refine lv_iload_n hx hb dX2_init_42 rfl (lv_at hl 0 rfl) ?_
  refine lv_iconst (v := 3) hx hb dX2_init_43 (by decide) ?_
  refine lv_icmp_gt (tgt := 66) hx hb dX2_init_44 (by decide) (fun c_5 => absurd c_5 (by decide)) (fun _ => ?_)
  refine lv_aload_n hx hb dX2_init_47 rfl (lv_at hl 1 rfl) ?_
  refine va_get (D := D) (ci := 2) (v := .ref q_2) (C := RX2) (T := TX2) (N := 5) hx hb hg inX2 hown hK hP 0 rfl rfl 1 (by decide) (hg _ fl_X2_15) (fun _ h9 => h9) rfl dX2_init_48 ?_
  refine lv_iload_n hx hb dX2_init_51 rfl (lv_at hl 0 rfl) ?_
  refine va_new (D := D) (ci := 0) (fs := [.null]) (C := RX0) (T := TX0) (N := 1) hx hb hg inX0 tyX0 tyX0_ok hown (hg _ cl_X2_13) (hg _ ib_X0) (hg _ ini_X0) hK hP hD hS hA rfl (fun j hj => by rcases (show j = 0 by omega) with rfl <;> rfl) (Nat.le_of_ble_eq_true rfl) (Nat.le_of_ble_eq_true rfl) dX2_init_52 (fun q_6 H hP hD hS => ?_)
  have hP := hP.swap
  have hD := hD.swap
  have hP : va_P D vwCl ([(h, .inr (2, [.ref q_1, .ref q_2, .ref q_3, .int 0, .int 0])), (q_1, .inl (cI, 3, .inl (fun _ => 0))), (q_2, .inl (cQ, 4, .inr (.inr (.inr (.inr (fun _ => none)))))), (q_3, .inr (1, [.long 0, .ref q_4])), (q_4, .inl (cI, 5, .inl (fun _ => 0))), (q_6, .inr (0, [.null]))] ++ fr) H := hP
  have hD : va_D A ([(h, .inr (2, [.ref q_1, .ref q_2, .ref q_3, .int 0, .int 0])), (q_1, .inl (cI, 3, .inl (fun _ => 0))), (q_2, .inl (cQ, 4, .inr (.inr (.inr (.inr (fun _ => none)))))), (q_3, .inr (1, [.long 0, .ref q_4])), (q_4, .inl (cI, 5, .inl (fun _ => 0))), (q_6, .inr (0, [.null]))] ++ fr) := hD
  refine lv_dup hx hb dX2_init_55 rfl ?_
  refine va_callv (va_runIN (As := []) (rest := [.ref q_6, .int 0, .ref q_2]) ⟨hx, hb, hml, hown, hg⟩ (c_X0_init l A D cI cL cQ ([(h, .inr (2, [.ref q_1, .ref q_2, .ref q_3, .int 0, .int 0])), (q_1, .inl (cI, 3, .inl (fun _ => 0))), (q_2, .inl (cQ, 4, .inr (.inr (.inr (.inr (fun _ => none)))))), (q_3, .inr (1, [.long 0, .ref q_4])), (q_4, .inl (cI, 5, .inl (fun _ => 0))), (q_6, .inr (0, [.null]))] ++ fr) 5 q_6 rfl) ⟨va_cnB 0 hg (gw_C co_X0_init) rfl rfl rfl (hG.1 _ mn_X2_34) (hg _ ini_X0) (by decide +kernel) ⟨Nat.le_of_ble_eq_true rfl, Nat.le_of_ble_eq_true rfl⟩, rfl, hg _ im_X0_init⟩ ⟨wd_B.blind, fun U hU hW => ⟨rfl, wd_B.at hG hK hP hD hS hA hU hW⟩⟩ rfl rfl hl.1 rfl (lv_room (Nat.le_of_ble_eq_true rfl)) dX2_init_56 ⟨Nat.le_of_ble_eq_true rfl, Nat.le_of_ble_eq_true rfl⟩) hS (fun q _ h => h) (fun q h => h) (fun q_7 t H1 locs ht hvm hr9 hB hz1 hk1 hS => ?_)
  obtain ⟨hK, hP, hD⟩ := hB.back ht hvm
  generalize H1 = H at hP hS ⊢
  have hP : va_P D vwCl (([(h, .inr (2, [.ref q_1, .ref q_2, .ref q_3, .int 0, .int 0])), (q_1, .inl (cI, 3, .inl (fun _ => 0))), (q_2, .inl (cQ, 4, .inr (.inr (.inr (.inr (fun _ => none)))))), (q_3, .inr (1, [.long 0, .ref q_4])), (q_4, .inl (cI, 5, .inl (fun _ => 0))), (q_6, .inr (0, [.ref q_7]))] ++ fr) ++ [(q_7, .inl (cI, 8, .inl (fun _ => 0)))]) H := hP
  have hD : va_D A (([(h, .inr (2, [.ref q_1, .ref q_2, .ref q_3, .int 0, .int 0])), (q_1, .inl (cI, 3, .inl (fun _ => 0))), (q_2, .inl (cQ, 4, .inr (.inr (.inr (.inr (fun _ => none)))))), (q_3, .inr (1, [.long 0, .ref q_4])), (q_4, .inl (cI, 5, .inl (fun _ => 0))), (q_6, .inr (0, [.ref q_7]))] ++ fr) ++ [(q_7, .inl (cI, 8, .inl (fun _ => 0)))]) := hD
  have hP := hP.swap
  have hD := hD.swap
  have hP : va_P D vwCl ([(h, .inr (2, [.ref q_1, .ref q_2, .ref q_3, .int 0, .int 0])), (q_1, .inl (cI, 3, .inl (fun _ => 0))), (q_2, .inl (cQ, 4, .inr (.inr (.inr (.inr (fun _ => none)))))), (q_3, .inr (1, [.long 0, .ref q_4])), (q_4, .inl (cI, 5, .inl (fun _ => 0))), (q_6, .inr (0, [.ref q_7])), (q_7, .inl (cI, 8, .inl (fun _ => 0)))] ++ fr) H := hP
  have hD : va_D A ([(h, .inr (2, [.ref q_1, .ref q_2, .ref q_3, .int 0, .int 0])), (q_1, .inl (cI, 3, .inl (fun _ => 0))), (q_2, .inl (cQ, 4, .inr (.inr (.inr (.inr (fun _ => none)))))), (q_3, .inr (1, [.long 0, .ref q_4])), (q_4, .inl (cI, 5, .inl (fun _ => 0))), (q_6, .inr (0, [.ref q_7])), (q_7, .inl (cI, 8, .inl (fun _ => 0)))] ++ fr) := hD
  refine va_astq (D := D) (n := 4) (f := (fun _ => none)) hx hb hK hP hD hS 2 2 5 0 rfl rfl rfl rfl (vp_in_nI (show 0 < 4 by decide) (by decide)) dX2_init_59 (fun H locs hP hD hS => ?_)
  rw [show (0 : Int32).toNatClampNeg = 0 from by decide] at hP hD
  have hP : va_P D vwCl ([(h, .inr (2, [.ref q_1, .ref q_2, .ref q_3, .int 0, .int 0])), (q_1, .inl (cI, 3, .inl (fun _ => 0))), (q_2, .inl (cQ, 4, .inr (.inr (.inr (.inr (va_up (fun _ => none) 0 (some q_6))))))), (q_3, .inr (1, [.long 0, .ref q_4])), (q_4, .inl (cI, 5, .inl (fun _ => 0))), (q_6, .inr (0, [.ref q_7])), (q_7, .inl (cI, 8, .inl (fun _ => 0)))] ++ fr) H := hP
  have hD : va_D A ([(h, .inr (2, [.ref q_1, .ref q_2, .ref q_3, .int 0, .int 0])), (q_1, .inl (cI, 3, .inl (fun _ => 0))), (q_2, .inl (cQ, 4, .inr (.inr (.inr (.inr (va_up (fun _ => none) 0 (some q_6))))))), (q_3, .inr (1, [.long 0, .ref q_4])), (q_4, .inl (cI, 5, .inl (fun _ => 0))), (q_6, .inr (0, [.ref q_7])), (q_7, .inl (cI, 8, .inl (fun _ => 0)))] ++ fr) := hD
  refine lv_iinc (v := 1) (lv' := [(1, .int 1), (0, .ref h)]) hx hb dX2_init_60 hl (k := 0) rfl (by decide) (by decide) rfl (fun ls hl => ?_)
  refine lv_goto (tgt := 42) hx hb dX2_init_63 (by decide) ?_
  refine lv_iload_n hx hb dX2_init_42 rfl (lv_at hl 0 rfl) ?_
  refine lv_iconst (v := 3) hx hb dX2_init_43 (by decide) ?_
  refine lv_icmp_gt (tgt := 66) hx hb dX2_init_44 (by decide) (fun c_8 => absurd c_8 (by decide)) (fun _ => ?_)
  refine lv_aload_n hx hb dX2_init_47 rfl (lv_at hl 1 rfl) ?_
  refine va_get (D := D) (ci := 2) (v := .ref q_2) (C := RX2) (T := TX2) (N := 5) hx hb hg inX2 hown hK hP 0 rfl rfl 1 (by decide) (hg _ fl_X2_15) (fun _ h9 => h9) rfl dX2_init_48 ?_
  refine lv_iload_n hx hb dX2_init_51 rfl (lv_at hl 0 rfl) ?_
  refine va_new (D := D) (ci := 0) (fs := [.null]) (C := RX0) (T := TX0) (N := 1) hx hb hg inX0 tyX0 tyX0_ok hown (hg _ cl_X2_13) (hg _ ib_X0) (hg _ ini_X0) hK hP hD hS hA rfl (fun j hj => by rcases (show j = 0 by omega) with rfl <;> rfl) (Nat.le_of_ble_eq_true rfl) (Nat.le_of_ble_eq_true rfl) dX2_init_52 (fun q_9 H hP hD hS => ?_)
  have hP := hP.swap
  have hD := hD.swap
  have hP : va_P D vwCl ([(h, .inr (2, [.ref q_1, .ref q_2, .ref q_3, .int 0, .int 0])), (q_1, .inl (cI, 3, .inl (fun _ => 0))), (q_2, .inl (cQ, 4, .inr (.inr (.inr (.inr (va_up (fun _ => none) 0 (some q_6))))))), (q_3, .inr (1, [.long 0, .ref q_4])), (q_4, .inl (cI, 5, .inl (fun _ => 0))), (q_6, .inr (0, [.ref q_7])), (q_7, .inl (cI, 8, .inl (fun _ => 0))), (q_9, .inr (0, [.null]))] ++ fr) H := hP
  have hD : va_D A ([(h, .inr (2, [.ref q_1, .ref q_2, .ref q_3, .int 0, .int 0])), (q_1, .inl (cI, 3, .inl (fun _ => 0))), (q_2, .inl (cQ, 4, .inr (.inr (.inr (.inr (va_up (fun _ => none) 0 (some q_6))))))), (q_3, .inr (1, [.long 0, .ref q_4])), (q_4, .inl (cI, 5, .inl (fun _ => 0))), (q_6, .inr (0, [.ref q_7])), (q_7, .inl (cI, 8, .inl (fun _ => 0))), (q_9, .inr (0, [.null]))] ++ fr) := hD
  refine lv_dup hx hb dX2_init_55 rfl ?_
  refine va_callv (va_runIN (As := []) (rest := [.ref q_9, .int 1, .ref q_2]) ⟨hx, hb, hml, hown, hg⟩ (c_X0_init l A D cI cL cQ ([(h, .inr (2, [.ref q_1, .ref q_2, .ref q_3, .int 0, .int 0])), (q_1, .inl (cI, 3, .inl (fun _ => 0))), (q_2, .inl (cQ, 4, .inr (.inr (.inr (.inr (va_up (fun _ => none) 0 (some q_6))))))), (q_3, .inr (1, [.long 0, .ref q_4])), (q_4, .inl (cI, 5, .inl (fun _ => 0))), (q_6, .inr (0, [.ref q_7])), (q_7, .inl (cI, 8, .inl (fun _ => 0))), (q_9, .inr (0, [.null]))] ++ fr) 7 q_9 rfl) ⟨va_cnB 0 hg (gw_C co_X0_init) rfl rfl rfl (hG.1 _ mn_X2_34) (hg _ ini_X0) (by decide +kernel) ⟨Nat.le_of_ble_eq_true rfl, Nat.le_of_ble_eq_true rfl⟩, rfl, hg _ im_X0_init⟩ ⟨wd_B.blind, fun U hU hW => ⟨rfl, wd_B.at hG hK hP hD hS hA hU hW⟩⟩ rfl rfl hl.1 rfl (lv_room (Nat.le_of_ble_eq_true rfl)) dX2_init_56 ⟨Nat.le_of_ble_eq_true rfl, Nat.le_of_ble_eq_true rfl⟩) hS (fun q _ h => h) (fun q h => h) (fun q_10 t H1 locs ht hvm hr9 hB hz1 hk1 hS => ?_)
  obtain ⟨hK, hP, hD⟩ := hB.back ht hvm
  generalize H1 = H at hP hS ⊢
  have hP : va_P D vwCl (([(h, .inr (2, [.ref q_1, .ref q_2, .ref q_3, .int 0, .int 0])), (q_1, .inl (cI, 3, .inl (fun _ => 0))), (q_2, .inl (cQ, 4, .inr (.inr (.inr (.inr (va_up (fun _ => none) 0 (some q_6))))))), (q_3, .inr (1, [.long 0, .ref q_4])), (q_4, .inl (cI, 5, .inl (fun _ => 0))), (q_6, .inr (0, [.ref q_7])), (q_7, .inl (cI, 8, .inl (fun _ => 0))), (q_9, .inr (0, [.ref q_10]))] ++ fr) ++ [(q_10, .inl (cI, 8, .inl (fun _ => 0)))]) H := hP
  have hD : va_D A (([(h, .inr (2, [.ref q_1, .ref q_2, .ref q_3, .int 0, .int 0])), (q_1, .inl (cI, 3, .inl (fun _ => 0))), (q_2, .inl (cQ, 4, .inr (.inr (.inr (.inr (va_up (fun _ => none) 0 (some q_6))))))), (q_3, .inr (1, [.long 0, .ref q_4])), (q_4, .inl (cI, 5, .inl (fun _ => 0))), (q_6, .inr (0, [.ref q_7])), (q_7, .inl (cI, 8, .inl (fun _ => 0))), (q_9, .inr (0, [.ref q_10]))] ++ fr) ++ [(q_10, .inl (cI, 8, .inl (fun _ => 0)))]) := hD
  have hP := hP.swap
  have hD := hD.swap
  have hP : va_P D vwCl ([(h, .inr (2, [.ref q_1, .ref q_2, .ref q_3, .int 0, .int 0])), (q_1, .inl (cI, 3, .inl (fun _ => 0))), (q_2, .inl (cQ, 4, .inr (.inr (.inr (.inr (va_up (fun _ => none) 0 (some q_6))))))), (q_3, .inr (1, [.long 0, .ref q_4])), (q_4, .inl (cI, 5, .inl (fun _ => 0))), (q_6, .inr (0, [.ref q_7])), (q_7, .inl (cI, 8, .inl (fun _ => 0))), (q_9, .inr (0, [.ref q_10])), (q_10, .inl (cI, 8, .inl (fun _ => 0)))] ++ fr) H := hP
  have hD : va_D A ([(h, .inr (2, [.ref q_1, .ref q_2, .ref q_3, .int 0, .int 0])), (q_1, .inl (cI, 3, .inl (fun _ => 0))), (q_2, .inl (cQ, 4, .inr (.inr (.inr (.inr (va_up (fun _ => none) 0 (some q_6))))))), (q_3, .inr (1, [.long 0, .ref q_4])), (q_4, .inl (cI, 5, .inl (fun _ => 0))), (q_6, .inr (0, [.ref q_7])), (q_7, .inl (cI, 8, .inl (fun _ => 0))), (q_9, .inr (0, [.ref q_10])), (q_10, .inl (cI, 8, .inl (fun _ => 0)))] ++ fr) := hD
  refine va_astq (D := D) (n := 4) (f := (va_up (fun _ => none) 0 (some q_6))) hx hb hK hP hD hS 2 2 7 0 rfl rfl rfl rfl (vp_in_nI (show 1 < 4 by decide) (by decide)) dX2_init_59 (fun H locs hP hD hS => ?_)
  rw [show (1 : Int32).toNatClampNeg = 1 from by decide] at hP hD
  have hP : va_P D vwCl ([(h, .inr (2, [.ref q_1, .ref q_2, .ref q_3, .int 0, .int 0])), (q_1, .inl (cI, 3, .inl (fun _ => 0))), (q_2, .inl (cQ, 4, .inr (.inr (.inr (.inr (va_up (va_up (fun _ => none) 0 (some q_6)) 1 (some q_9))))))), (q_3, .inr (1, [.long 0, .ref q_4])), (q_4, .inl (cI, 5, .inl (fun _ => 0))), (q_6, .inr (0, [.ref q_7])), (q_7, .inl (cI, 8, .inl (fun _ => 0))), (q_9, .inr (0, [.ref q_10])), (q_10, .inl (cI, 8, .inl (fun _ => 0)))] ++ fr) H := hP
  have hD : va_D A ([(h, .inr (2, [.ref q_1, .ref q_2, .ref q_3, .int 0, .int 0])), (q_1, .inl (cI, 3, .inl (fun _ => 0))), (q_2, .inl (cQ, 4, .inr (.inr (.inr (.inr (va_up (va_up (fun _ => none) 0 (some q_6)) 1 (some q_9))))))), (q_3, .inr (1, [.long 0, .ref q_4])), (q_4, .inl (cI, 5, .inl (fun _ => 0))), (q_6, .inr (0, [.ref q_7])), (q_7, .inl (cI, 8, .inl (fun _ => 0))), (q_9, .inr (0, [.ref q_10])), (q_10, .inl (cI, 8, .inl (fun _ => 0)))] ++ fr) := hD
  refine lv_iinc (v := 2) (lv' := [(1, .int 2), (0, .ref h)]) hx hb dX2_init_60 hl (k := 0) rfl (by decide) (by decide) rfl (fun ls hl => ?_)
  refine lv_goto (tgt := 42) hx hb dX2_init_63 (by decide) ?_
  refine lv_iload_n hx hb dX2_init_42 rfl (lv_at hl 0 rfl) ?_
  refine lv_iconst (v := 3) hx hb dX2_init_43 (by decide) ?_
  refine lv_icmp_gt (tgt := 66) hx hb dX2_init_44 (by decide) (fun c_11 => absurd c_11 (by decide)) (fun _ => ?_)
  refine lv_aload_n hx hb dX2_init_47 rfl (lv_at hl 1 rfl) ?_
  refine va_get (D := D) (ci := 2) (v := .ref q_2) (C := RX2) (T := TX2) (N := 5) hx hb hg inX2 hown hK hP 0 rfl rfl 1 (by decide) (hg _ fl_X2_15) (fun _ h9 => h9) rfl dX2_init_48 ?_
  refine lv_iload_n hx hb dX2_init_51 rfl (lv_at hl 0 rfl) ?_
  refine va_new (D := D) (ci := 0) (fs := [.null]) (C := RX0) (T := TX0) (N := 1) hx hb hg inX0 tyX0 tyX0_ok hown (hg _ cl_X2_13) (hg _ ib_X0) (hg _ ini_X0) hK hP hD hS hA rfl (fun j hj => by rcases (show j = 0 by omega) with rfl <;> rfl) (Nat.le_of_ble_eq_true rfl) (Nat.le_of_ble_eq_true rfl) dX2_init_52 (fun q_12 H hP hD hS => ?_)
  have hP := hP.swap
  have hD := hD.swap
  have hP : va_P D vwCl ([(h, .inr (2, [.ref q_1, .ref q_2, .ref q_3, .int 0, .int 0])), (q_1, .inl (cI, 3, .inl (fun _ => 0))), (q_2, .inl (cQ, 4, .inr (.inr (.inr (.inr (va_up (va_up (fun _ => none) 0 (some q_6)) 1 (some q_9))))))), (q_3, .inr (1, [.long 0, .ref q_4])), (q_4, .inl (cI, 5, .inl (fun _ => 0))), (q_6, .inr (0, [.ref q_7])), (q_7, .inl (cI, 8, .inl (fun _ => 0))), (q_9, .inr (0, [.ref q_10])), (q_10, .inl (cI, 8, .inl (fun _ => 0))), (q_12, .inr (0, [.null]))] ++ fr) H := hP
  have hD : va_D A ([(h, .inr (2, [.ref q_1, .ref q_2, .ref q_3, .int 0, .int 0])), (q_1, .inl (cI, 3, .inl (fun _ => 0))), (q_2, .inl (cQ, 4, .inr (.inr (.inr (.inr (va_up (va_up (fun _ => none) 0 (some q_6)) 1 (some q_9))))))), (q_3, .inr (1, [.long 0, .ref q_4])), (q_4, .inl (cI, 5, .inl (fun _ => 0))), (q_6, .inr (0, [.ref q_7])), (q_7, .inl (cI, 8, .inl (fun _ => 0))), (q_9, .inr (0, [.ref q_10])), (q_10, .inl (cI, 8, .inl (fun _ => 0))), (q_12, .inr (0, [.null]))] ++ fr) := hD
  refine lv_dup hx hb dX2_init_55 rfl ?_
  refine va_callv (va_runIN (As := []) (rest := [.ref q_12, .int 2, .ref q_2]) ⟨hx, hb, hml, hown, hg⟩ (c_X0_init l A D cI cL cQ ([(h, .inr (2, [.ref q_1, .ref q_2, .ref q_3, .int 0, .int 0])), (q_1, .inl (cI, 3, .inl (fun _ => 0))), (q_2, .inl (cQ, 4, .inr (.inr (.inr (.inr (va_up (va_up (fun _ => none) 0 (some q_6)) 1 (some q_9))))))), (q_3, .inr (1, [.long 0, .ref q_4])), (q_4, .inl (cI, 5, .inl (fun _ => 0))), (q_6, .inr (0, [.ref q_7])), (q_7, .inl (cI, 8, .inl (fun _ => 0))), (q_9, .inr (0, [.ref q_10])), (q_10, .inl (cI, 8, .inl (fun _ => 0))), (q_12, .inr (0, [.null]))] ++ fr) 9 q_12 rfl) ⟨va_cnB 0 hg (gw_C co_X0_init) rfl rfl rfl (hG.1 _ mn_X2_34) (hg _ ini_X0) (by decide +kernel) ⟨Nat.le_of_ble_eq_true rfl, Nat.le_of_ble_eq_true rfl⟩, rfl, hg _ im_X0_init⟩ ⟨wd_B.blind, fun U hU hW => ⟨rfl, wd_B.at hG hK hP hD hS hA hU hW⟩⟩ rfl rfl hl.1 rfl (lv_room (Nat.le_of_ble_eq_true rfl)) dX2_init_56 ⟨Nat.le_of_ble_eq_true rfl, Nat.le_of_ble_eq_true rfl⟩) hS (fun q _ h => h) (fun q h => h) (fun q_13 t H1 locs ht hvm hr9 hB hz1 hk1 hS => ?_)
  obtain ⟨hK, hP, hD⟩ := hB.back ht hvm
  generalize H1 = H at hP hS ⊢
  have hP : va_P D vwCl (([(h, .inr (2, [.ref q_1, .ref q_2, .ref q_3, .int 0, .int 0])), (q_1, .inl (cI, 3, .inl (fun _ => 0))), (q_2, .inl (cQ, 4, .inr (.inr (.inr (.inr (va_up (va_up (fun _ => none) 0 (some q_6)) 1 (some q_9))))))), (q_3, .inr (1, [.long 0, .ref q_4])), (q_4, .inl (cI, 5, .inl (fun _ => 0))), (q_6, .inr (0, [.ref q_7])), (q_7, .inl (cI, 8, .inl (fun _ => 0))), (q_9, .inr (0, [.ref q_10])), (q_10, .inl (cI, 8, .inl (fun _ => 0))), (q_12, .inr (0, [.ref q_13]))] ++ fr) ++ [(q_13, .inl (cI, 8, .inl (fun _ => 0)))]) H := hP
  have hD : va_D A (([(h, .inr (2, [.ref q_1, .ref q_2, .ref q_3, .int 0, .int 0])), (q_1, .inl (cI, 3, .inl (fun _ => 0))), (q_2, .inl (cQ, 4, .inr (.inr (.inr (.inr (va_up (va_up (fun _ => none) 0 (some q_6)) 1 (some q_9))))))), (q_3, .inr (1, [.long 0, .ref q_4])), (q_4, .inl (cI, 5, .inl (fun _ => 0))), (q_6, .inr (0, [.ref q_7])), (q_7, .inl (cI, 8, .inl (fun _ => 0))), (q_9, .inr (0, [.ref q_10])), (q_10, .inl (cI, 8, .inl (fun _ => 0))), (q_12, .inr (0, [.ref q_13]))] ++ fr) ++ [(q_13, .inl (cI, 8, .inl (fun _ => 0)))]) := hD
  have hP := hP.swap
  have hD := hD.swap
  have hP : va_P D vwCl ([(h, .inr (2, [.ref q_1, .ref q_2, .ref q_3, .int 0, .int 0])), (q_1, .inl (cI, 3, .inl (fun _ => 0))), (q_2, .inl (cQ, 4, .inr (.inr (.inr (.inr (va_up (va_up (fun _ => none) 0 (some q_6)) 1 (some q_9))))))), (q_3, .inr (1, [.long 0, .ref q_4])), (q_4, .inl (cI, 5, .inl (fun _ => 0))), (q_6, .inr (0, [.ref q_7])), (q_7, .inl (cI, 8, .inl (fun _ => 0))), (q_9, .inr (0, [.ref q_10])), (q_10, .inl (cI, 8, .inl (fun _ => 0))), (q_12, .inr (0, [.ref q_13])), (q_13, .inl (cI, 8, .inl (fun _ => 0)))] ++ fr) H := hP
  have hD : va_D A ([(h, .inr (2, [.ref q_1, .ref q_2, .ref q_3, .int 0, .int 0])), (q_1, .inl (cI, 3, .inl (fun _ => 0))), (q_2, .inl (cQ, 4, .inr (.inr (.inr (.inr (va_up (va_up (fun _ => none) 0 (some q_6)) 1 (some q_9))))))), (q_3, .inr (1, [.long 0, .ref q_4])), (q_4, .inl (cI, 5, .inl (fun _ => 0))), (q_6, .inr (0, [.ref q_7])), (q_7, .inl (cI, 8, .inl (fun _ => 0))), (q_9, .inr (0, [.ref q_10])), (q_10, .inl (cI, 8, .inl (fun _ => 0))), (q_12, .inr (0, [.ref q_13])), (q_13, .inl (cI, 8, .inl (fun _ => 0)))] ++ fr) := hD
  refine va_astq (D := D) (n := 4) (f := (va_up (va_up (fun _ => none) 0 (some q_6)) 1 (some q_9))) hx hb hK hP hD hS 2 2 9 0 rfl rfl rfl rfl (vp_in_nI (show 2 < 4 by decide) (by decide)) dX2_init_59 (fun H locs hP hD hS => ?_)
  rw [show (2 : Int32).toNatClampNeg = 2 from by decide] at hP hD
  have hP : va_P D vwCl ([(h, .inr (2, [.ref q_1, .ref q_2, .ref q_3, .int 0, .int 0])), (q_1, .inl (cI, 3, .inl (fun _ => 0))), (q_2, .inl (cQ, 4, .inr (.inr (.inr (.inr (va_up (va_up (va_up (fun _ => none) 0 (some q_6)) 1 (some q_9)) 2 (some q_12))))))), (q_3, .inr (1, [.long 0, .ref q_4])), (q_4, .inl (cI, 5, .inl (fun _ => 0))), (q_6, .inr (0, [.ref q_7])), (q_7, .inl (cI, 8, .inl (fun _ => 0))), (q_9, .inr (0, [.ref q_10])), (q_10, .inl (cI, 8, .inl (fun _ => 0))), (q_12, .inr (0, [.ref q_13])), (q_13, .inl (cI, 8, .inl (fun _ => 0)))] ++ fr) H := hP
  have hD : va_D A ([(h, .inr (2, [.ref q_1, .ref q_2, .ref q_3, .int 0, .int 0])), (q_1, .inl (cI, 3, .inl (fun _ => 0))), (q_2, .inl (cQ, 4, .inr (.inr (.inr (.inr (va_up (va_up (va_up (fun _ => none) 0 (some q_6)) 1 (some q_9)) 2 (some q_12))))))), (q_3, .inr (1, [.long 0, .ref q_4])), (q_4, .inl (cI, 5, .inl (fun _ => 0))), (q_6, .inr (0, [.ref q_7])), (q_7, .inl (cI, 8, .inl (fun _ => 0))), (q_9, .inr (0, [.ref q_10])), (q_10, .inl (cI, 8, .inl (fun _ => 0))), (q_12, .inr (0, [.ref q_13])), (q_13, .inl (cI, 8, .inl (fun _ => 0)))] ++ fr) := hD
  refine lv_iinc (v := 3) (lv' := [(1, .int 3), (0, .ref h)]) hx hb dX2_init_60 hl (k := 0) rfl (by decide) (by decide) rfl (fun ls hl => ?_)
  refine lv_goto (tgt := 42) hx hb dX2_init_63 (by decide) ?_
  refine lv_iload_n hx hb dX2_init_42 rfl (lv_at hl 0 rfl) ?_
  refine lv_iconst (v := 3) hx hb dX2_init_43 (by decide) ?_
  refine lv_icmp_gt (tgt := 66) hx hb dX2_init_44 (by decide) (fun c_14 => absurd c_14 (by decide)) (fun _ => ?_)
  refine lv_aload_n hx hb dX2_init_47 rfl (lv_at hl 1 rfl) ?_
  refine va_get (D := D) (ci := 2) (v := .ref q_2) (C := RX2) (T := TX2) (N := 5) hx hb hg inX2 hown hK hP 0 rfl rfl 1 (by decide) (hg _ fl_X2_15) (fun _ h9 => h9) rfl dX2_init_48 ?_
  refine lv_iload_n hx hb dX2_init_51 rfl (lv_at hl 0 rfl) ?_
  refine va_new (D := D) (ci := 0) (fs := [.null]) (C := RX0) (T := TX0) (N := 1) hx hb hg inX0 tyX0 tyX0_ok hown (hg _ cl_X2_13) (hg _ ib_X0) (hg _ ini_X0) hK hP hD hS hA rfl (fun j hj => by rcases (show j = 0 by omega) with rfl <;> rfl) (Nat.le_of_ble_eq_true rfl) (Nat.le_of_ble_eq_true rfl) dX2_init_52 (fun q_15 H hP hD hS => ?_)
  have hP := hP.swap
  have hD := hD.swap
  have hP : va_P D vwCl ([(h, .inr (2, [.ref q_1, .ref q_2, .ref q_3, .int 0, .int 0])), (q_1, .inl (cI, 3, .inl (fun _ => 0))), (q_2, .inl (cQ, 4, .inr (.inr (.inr (.inr (va_up (va_up (va_up (fun _ => none) 0 (some q_6)) 1 (some q_9)) 2 (some q_12))))))), (q_3, .inr (1, [.long 0, .ref q_4])), (q_4, .inl (cI, 5, .inl (fun _ => 0))), (q_6, .inr (0, [.ref q_7])), (q_7, .inl (cI, 8, .inl (fun _ => 0))), (q_9, .inr (0, [.ref q_10])), (q_10, .inl (cI, 8, .inl (fun _ => 0))), (q_12, .inr (0, [.ref q_13])), (q_13, .inl (cI, 8, .inl (fun _ => 0))), (q_15, .inr (0, [.null]))] ++ fr) H := hP
  have hD : va_D A ([(h, .inr (2, [.ref q_1, .ref q_2, .ref q_3, .int 0, .int 0])), (q_1, .inl (cI, 3, .inl (fun _ => 0))), (q_2, .inl (cQ, 4, .inr (.inr (.inr (.inr (va_up (va_up (va_up (fun _ => none) 0 (some q_6)) 1 (some q_9)) 2 (some q_12))))))), (q_3, .inr (1, [.long 0, .ref q_4])), (q_4, .inl (cI, 5, .inl (fun _ => 0))), (q_6, .inr (0, [.ref q_7])), (q_7, .inl (cI, 8, .inl (fun _ => 0))), (q_9, .inr (0, [.ref q_10])), (q_10, .inl (cI, 8, .inl (fun _ => 0))), (q_12, .inr (0, [.ref q_13])), (q_13, .inl (cI, 8, .inl (fun _ => 0))), (q_15, .inr (0, [.null]))] ++ fr) := hD
  refine lv_dup hx hb dX2_init_55 rfl ?_
  refine va_callv (va_runIN (As := []) (rest := [.ref q_15, .int 3, .ref q_2]) ⟨hx, hb, hml, hown, hg⟩ (c_X0_init l A D cI cL cQ ([(h, .inr (2, [.ref q_1, .ref q_2, .ref q_3, .int 0, .int 0])), (q_1, .inl (cI, 3, .inl (fun _ => 0))), (q_2, .inl (cQ, 4, .inr (.inr (.inr (.inr (va_up (va_up (va_up (fun _ => none) 0 (some q_6)) 1 (some q_9)) 2 (some q_12))))))), (q_3, .inr (1, [.long 0, .ref q_4])), (q_4, .inl (cI, 5, .inl (fun _ => 0))), (q_6, .inr (0, [.ref q_7])), (q_7, .inl (cI, 8, .inl (fun _ => 0))), (q_9, .inr (0, [.ref q_10])), (q_10, .inl (cI, 8, .inl (fun _ => 0))), (q_12, .inr (0, [.ref q_13])), (q_13, .inl (cI, 8, .inl (fun _ => 0))), (q_15, .inr (0, [.null]))] ++ fr) 11 q_15 rfl) ⟨va_cnB 0 hg (gw_C co_X0_init) rfl rfl rfl (hG.1 _ mn_X2_34) (hg _ ini_X0) (by decide +kernel) ⟨Nat.le_of_ble_eq_true rfl, Nat.le_of_ble_eq_true rfl⟩, rfl, hg _ im_X0_init⟩ ⟨wd_B.blind, fun U hU hW => ⟨rfl, wd_B.at hG hK hP hD hS hA hU hW⟩⟩ rfl rfl hl.1 rfl (lv_room (Nat.le_of_ble_eq_true rfl)) dX2_init_56 ⟨Nat.le_of_ble_eq_true rfl, Nat.le_of_ble_eq_true rfl⟩) hS (fun q _ h => h) (fun q h => h) (fun q_16 t H1 locs ht hvm hr9 hB hz1 hk1 hS => ?_)
  obtain ⟨hK, hP, hD⟩ := hB.back ht hvm
  generalize H1 = H at hP hS ⊢
  have hP : va_P D vwCl (([(h, .inr (2, [.ref q_1, .ref q_2, .ref q_3, .int 0, .int 0])), (q_1, .inl (cI, 3, .inl (fun _ => 0))), (q_2, .inl (cQ, 4, .inr (.inr (.inr (.inr (va_up (va_up (va_up (fun _ => none) 0 (some q_6)) 1 (some q_9)) 2 (some q_12))))))), (q_3, .inr (1, [.long 0, .ref q_4])), (q_4, .inl (cI, 5, .inl (fun _ => 0))), (q_6, .inr (0, [.ref q_7])), (q_7, .inl (cI, 8, .inl (fun _ => 0))), (q_9, .inr (0, [.ref q_10])), (q_10, .inl (cI, 8, .inl (fun _ => 0))), (q_12, .inr (0, [.ref q_13])), (q_13, .inl (cI, 8, .inl (fun _ => 0))), (q_15, .inr (0, [.ref q_16]))] ++ fr) ++ [(q_16, .inl (cI, 8, .inl (fun _ => 0)))]) H := hP
  have hD : va_D A (([(h, .inr (2, [.ref q_1, .ref q_2, .ref q_3, .int 0, .int 0])), (q_1, .inl (cI, 3, .inl (fun _ => 0))), (q_2, .inl (cQ, 4, .inr (.inr (.inr (.inr (va_up (va_up (va_up (fun _ => none) 0 (some q_6)) 1 (some q_9)) 2 (some q_12))))))), (q_3, .inr (1, [.long 0, .ref q_4])), (q_4, .inl (cI, 5, .inl (fun _ => 0))), (q_6, .inr (0, [.ref q_7])), (q_7, .inl (cI, 8, .inl (fun _ => 0))), (q_9, .inr (0, [.ref q_10])), (q_10, .inl (cI, 8, .inl (fun _ => 0))), (q_12, .inr (0, [.ref q_13])), (q_13, .inl (cI, 8, .inl (fun _ => 0))), (q_15, .inr (0, [.ref q_16]))] ++ fr) ++ [(q_16, .inl (cI, 8, .inl (fun _ => 0)))]) := hD
  have hP := hP.swap
  have hD := hD.swap
  have hP : va_P D vwCl ([(h, .inr (2, [.ref q_1, .ref q_2, .ref q_3, .int 0, .int 0])), (q_1, .inl (cI, 3, .inl (fun _ => 0))), (q_2, .inl (cQ, 4, .inr (.inr (.inr (.inr (va_up (va_up (va_up (fun _ => none) 0 (some q_6)) 1 (some q_9)) 2 (some q_12))))))), (q_3, .inr (1, [.long 0, .ref q_4])), (q_4, .inl (cI, 5, .inl (fun _ => 0))), (q_6, .inr (0, [.ref q_7])), (q_7, .inl (cI, 8, .inl (fun _ => 0))), (q_9, .inr (0, [.ref q_10])), (q_10, .inl (cI, 8, .inl (fun _ => 0))), (q_12, .inr (0, [.ref q_13])), (q_13, .inl (cI, 8, .inl (fun _ => 0))), (q_15, .inr (0, [.ref q_16])), (q_16, .inl (cI, 8, .inl (fun _ => 0)))] ++ fr) H := hP
  have hD : va_D A ([(h, .inr (2, [.ref q_1, .ref q_2, .ref q_3, .int 0, .int 0])), (q_1, .inl (cI, 3, .inl (fun _ => 0))), (q_2, .inl (cQ, 4, .inr (.inr (.inr (.inr (va_up (va_up (va_up (fun _ => none) 0 (some q_6)) 1 (some q_9)) 2 (some q_12))))))), (q_3, .inr (1, [.long 0, .ref q_4])), (q_4, .inl (cI, 5, .inl (fun _ => 0))), (q_6, .inr (0, [.ref q_7])), (q_7, .inl (cI, 8, .inl (fun _ => 0))), (q_9, .inr (0, [.ref q_10])), (q_10, .inl (cI, 8, .inl (fun _ => 0))), (q_12, .inr (0, [.ref q_13])), (q_13, .inl (cI, 8, .inl (fun _ => 0))), (q_15, .inr (0, [.ref q_16])), (q_16, .inl (cI, 8, .inl (fun _ => 0)))] ++ fr) := hD
  refine va_astq (D := D) (n := 4) (f := (va_up (va_up (va_up (fun _ => none) 0 (some q_6)) 1 (some q_9)) 2 (some q_12))) hx hb hK hP hD hS 2 2 11 0 rfl rfl rfl rfl (vp_in_nI (show 3 < 4 by decide) (by decide)) dX2_init_59 (fun H locs hP hD hS => ?_)
  rw [show (3 : Int32).toNatClampNeg = 3 from by decide] at hP hD
  have hP : va_P D vwCl ([(h, .inr (2, [.ref q_1, .ref q_2, .ref q_3, .int 0, .int 0])), (q_1, .inl (cI, 3, .inl (fun _ => 0))), (q_2, .inl (cQ, 4, .inr (.inr (.inr (.inr (va_up (va_up (va_up (va_up (fun _ => none) 0 (some q_6)) 1 (some q_9)) 2 (some q_12)) 3 (some q_15))))))), (q_3, .inr (1, [.long 0, .ref q_4])), (q_4, .inl (cI, 5, .inl (fun _ => 0))), (q_6, .inr (0, [.ref q_7])), (q_7, .inl (cI, 8, .inl (fun _ => 0))), (q_9, .inr (0, [.ref q_10])), (q_10, .inl (cI, 8, .inl (fun _ => 0))), (q_12, .inr (0, [.ref q_13])), (q_13, .inl (cI, 8, .inl (fun _ => 0))), (q_15, .inr (0, [.ref q_16])), (q_16, .inl (cI, 8, .inl (fun _ => 0)))] ++ fr) H := hP
  have hD : va_D A ([(h, .inr (2, [.ref q_1, .ref q_2, .ref q_3, .int 0, .int 0])), (q_1, .inl (cI, 3, .inl (fun _ => 0))), (q_2, .inl (cQ, 4, .inr (.inr (.inr (.inr (va_up (va_up (va_up (va_up (fun _ => none) 0 (some q_6)) 1 (some q_9)) 2 (some q_12)) 3 (some q_15))))))), (q_3, .inr (1, [.long 0, .ref q_4])), (q_4, .inl (cI, 5, .inl (fun _ => 0))), (q_6, .inr (0, [.ref q_7])), (q_7, .inl (cI, 8, .inl (fun _ => 0))), (q_9, .inr (0, [.ref q_10])), (q_10, .inl (cI, 8, .inl (fun _ => 0))), (q_12, .inr (0, [.ref q_13])), (q_13, .inl (cI, 8, .inl (fun _ => 0))), (q_15, .inr (0, [.ref q_16])), (q_16, .inl (cI, 8, .inl (fun _ => 0)))] ++ fr) := hD
  refine lv_iinc (v := 4) (lv' := [(1, .int 4), (0, .ref h)]) hx hb dX2_init_60 hl (k := 0) rfl (by decide) (by decide) rfl (fun ls hl => ?_)
  refine lv_goto (tgt := 42) hx hb dX2_init_63 (by decide) ?_
  refine lv_iload_n hx hb dX2_init_42 rfl (lv_at hl 0 rfl) ?_
  refine lv_iconst (v := 3) hx hb dX2_init_43 (by decide) ?_
  refine lv_icmp_gt (tgt := 66) hx hb dX2_init_44 (by decide) (fun _ => ?_) (fun c_17 => absurd c_17 (by decide))
  have hP := hP.cgq (p := 2) (g := fun j => some ((fun k => [q_6, q_9, q_12, q_15].getD k 0) j)) rfl (fun j hj => by rcases (show j = 0 ∨ j = 1 ∨ j = 2 ∨ j = 3 by omega) with rfl | rfl | rfl | rfl <;> rfl)
  have hD := hD.set (p := 2) (e := .inl (cQ, 4, .inr (.inr (.inr (.inr (fun j => some ((fun k => [q_6, q_9, q_12, q_15].getD k 0) j))))))) rfl
  exact W.vret hx hb hr (fun t ht hW => ⟨⟨((fun k => [h, q_1, q_2, q_3, q_4].getD k 0), (fun k => [q_6, q_9, q_12, q_15].getD k 0), (fun k => [q_7, q_10, q_13, q_16].getD k 0)), rfl, rfl, wd_E.at hK hP hD ht hW⟩, hS.F ht⟩) hS.2.2 dX2_init_66
